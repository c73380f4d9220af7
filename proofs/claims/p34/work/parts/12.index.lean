/-! THE CLASS: its calls -/
set_option maxHeartbeats 4000000 in
set_option maxRecDepth 100000 in
theorem m_X1_needHeading (l : Launch) (E : EN) {ad : Int → Nat} (hj : INJ ad) (sp : Int → SpT) (se : Int → Int) (al : Int → Nat) (ta : Int → Int) (n pg : Int) (u : Int) (hh : 0 ≤ u ∧ u < n) (hn : 0 ≤ n ∧ n ≤ 24) : Met l yX1_needHeading wsX1_needHeading ({ frames := 1, cells := 0, slots := 0, locals := 21 }) (CI E [.ref (ad 0), .int (iI u)] (CW E ad sp se al ta n pg)) (QW (none) (CW E ad sp se al ta n pg) (fun _ => False)) 0 0 (fun _ => False) := by
  refine g_met (cc := cX1_needHeading) (maxL := 2) (ret := none) (lv := [(0, .ref (ad 0)), (1, .int (iI u))]) (by decide) rfl (Nat.le_of_ble_eq_true rfl) rfl ?_
  intro xp xe xs xm xa xb xh xc S xK xr xlk xin
  refine g_aload_n S dX1_needHeading_0 rfl 0 rfl ?_
  refine g_iload_n S dX1_needHeading_1 rfl 1 rfl ?_
  refine g_callV S xK (As := [.int (iI u)]) (st := []) (stk' := [.int (iI (pI (0 ≤ u ∧ u < n)))]) (Wp' := CW E ad sp se al ta n pg) (r := (RX1, TX1, 9)) (m_X1_isHeading l E hj sp se al ta n pg u (by omega) hn) (cwV 1 S.2.2.2.2 gX1_needHeading_X1_isHeading rfl rfl rfl (by decide +kernel) ⟨Nat.le_of_ble_eq_true rfl, Nat.le_of_ble_eq_true rfl⟩) rfl rfl rfl rfl (Nat.le_of_ble_eq_true rfl) ⟨Nat.le_of_ble_eq_true rfl, Nat.le_of_ble_eq_true rfl⟩ (fun _ q => q.elim) (fun _ h => cw_x h) (fun _ h => h) (fun _ _ _ h _ _ => h) dX1_needHeading_2 ?_
  have z5 := pI_b (0 ≤ u ∧ u < n)
  refine g_if_ne S (tgt := 18) dX1_needHeading_5 (by decide) (by omega) (fun c5 => ?_) (fun c5 => ?_)
  · skip
    exact g_vret S xr xlk dX1_needHeading_18 (fun _ h => h)
  · skip
    exact absurd c5 (by rw [pI_t (P := 0 ≤ u ∧ u < n) (by omega)]; decide)
set_option maxHeartbeats 4000000 in
set_option maxRecDepth 100000 in
theorem m_X1_needHeadingX (l : Launch) (hlt : l.stackTraces = false) (E : EN) (bs : Nat) {ad : Int → Nat} (hj : INJ ad) (sp : Int → SpT) (se : Int → Int) (al : Int → Nat) (ta : Int → Int) (n pg : Int) (u : Int) (hh : u < 0 ∨ n ≤ u) (hr : -2147483648 ≤ u ∧ u ≤ 2147483647) (hn : 0 ≤ n ∧ n ≤ 24) : vx_Met l yX1_needHeading wsX1_needHeading ({ frames := 6, cells := 1, slots := 6, locals := 82 }) (CX E bs [.ref (ad 0), .int (iI u)] (CW E ad sp se al ta n pg)) QF (XW "java/lang/IndexOutOfBoundsException" (CW E ad sp se al ta n pg) (fun _ => False)) 1 6 (fun _ => False) := by
  refine g_metX (cc := cX1_needHeading) (maxL := 2) (ret := none) (lv := [(0, .ref (ad 0)), (1, .int (iI u))]) (by decide) rfl (Nat.le_of_ble_eq_true rfl) rfl ?_
  intro xp xe xs xm xa xb xh xc S xK xX xlk xno
  have kk212 := S.2.2.2.2 (.classLink RX1 212 "java/lang/IndexOutOfBoundsException") (by decide +kernel)
  have ki212 := S.2.2.2.2 (.initialized "java/lang/IndexOutOfBoundsException") (by decide +kernel)
  have kg216 : ∀ w ∈ (vx_atS RX1 216 "java/lang/IndexOutOfBoundsException" nm3).filter goodWord, w.before xa xs = true := fun w h => S.2.2.2.2 w (by first | exact List.mem_cons_of_mem _ (List.mem_append_right _ h) | exact List.mem_cons_of_mem _ (List.mem_append_left _ (List.mem_append_right _ h)) | exact List.mem_cons_of_mem _ (List.mem_append_left _ (List.mem_append_left _ (List.mem_append_right _ h))))
  refine g_aload_n S dX1_needHeading_0 rfl 0 rfl ?_
  refine g_iload_n S dX1_needHeading_1 rfl 1 rfl ?_
  refine g_callV S xK (As := [.int (iI u)]) (st := []) (stk' := [.int (iI (pI (0 ≤ u ∧ u < n)))]) (Wp' := CW E ad sp se al ta n pg) (r := (RX1, TX1, 9)) (m_X1_isHeading l E hj sp se al ta n pg u (by omega) hn) (cwV 1 S.2.2.2.2 gX1_needHeading_X1_isHeading rfl rfl rfl (by decide +kernel) ⟨Nat.le_of_ble_eq_true rfl, Nat.le_of_ble_eq_true rfl⟩) rfl rfl rfl rfl (Nat.le_of_ble_eq_true rfl) ⟨Nat.le_of_ble_eq_true rfl, Nat.le_of_ble_eq_true rfl⟩ (fun _ q => q.elim) (fun _ h => cw_x h) (fun _ h => h) (fun _ _ _ h _ _ => h) dX1_needHeading_2 ?_
  have z5 := pI_b (0 ≤ u ∧ u < n)
  refine g_if_ne S (tgt := 18) dX1_needHeading_5 (by decide) (by omega) (fun c5 => ?_) (fun c5 => ?_)
  · skip
    exact absurd c5 (fun z => z (pI_f (P := 0 ≤ u ∧ u < n) (by omega)))
  · skip
    exact g_throw S hlt xlk xno xX (cls := "java/lang/IndexOutOfBoundsException") (text := "no such heading") rfl (by decide) (by decide) (by decide) kk212 ki212 kg216 bad216 ot216 (fun _ q => q.elim) ⟨Nat.le_of_ble_eq_true rfl, Nat.le_of_ble_eq_true rfl, Nat.le_of_ble_eq_true rfl, Nat.le_of_ble_eq_true rfl, Nat.le_of_ble_eq_true rfl, Nat.le_of_ble_eq_true rfl⟩ dX1_needHeading_8 dX1_needHeading_11 dX1_needHeading_12 dX1_needHeading_14 dX1_needHeading_17 (fun _ _ h h1 h2 => cw_grow h h1 h2)
set_option maxHeartbeats 4000000 in
set_option maxRecDepth 100000 in
theorem m_X1_needSpan (l : Launch) (E : EN) {ad : Int → Nat} (hj : INJ ad) (sp : Int → SpT) (se : Int → Int) (al : Int → Nat) (ta : Int → Int) (n pg : Int) (u k : Int) (hh : 0 ≤ u ∧ u < n) (hn : 0 ≤ n ∧ n ≤ 24) (hsp : SPV sp n pg) (hk : 0 ≤ k ∧ k < (sp u).1) : Met l yX1_needSpan wsX1_needSpan ({ frames := 2, cells := 0, slots := 0, locals := 43 }) (CI E [.ref (ad 0), .int (iI u), .int (iI k)] (CW E ad sp se al ta n pg)) (QW (none) (CW E ad sp se al ta n pg) (fun _ => False)) 0 0 (fun _ => False) := by
  refine g_met (cc := cX1_needSpan) (maxL := 3) (ret := none) (lv := [(0, .ref (ad 0)), (1, .int (iI u)), (2, .int (iI k))]) (by decide) rfl (Nat.le_of_ble_eq_true rfl) rfl ?_
  intro xp xe xs xm xa xb xh xc S xK xr xlk xin
  refine g_iload_n S dX1_needSpan_0 rfl 2 rfl ?_
  have v4 := (hsp u (by omega) (by omega)).2
  refine g_if_lt S (tgt := 16) dX1_needSpan_1 (by decide) (by omega) (fun c1 => ?_) (fun c1 => ?_)
  · skip
    exact absurd c1 (by omega)
  · skip
    have v4 := (hsp u (by omega) (by omega)).2
    refine g_iload_n S dX1_needSpan_4 rfl 2 rfl ?_
    refine g_aload_n S dX1_needSpan_5 rfl 0 rfl ?_
    refine g_iload_n S dX1_needSpan_6 rfl 1 rfl ?_
    refine g_callV S xK (As := [.int (iI u)]) (st := [.int (iI k)]) (stk' := [.ref (ad (5 + 3 * u)), .int (iI k)]) (Wp' := CW E ad sp se al ta n pg) (r := (RX1, TX1, 9)) (m_X1_spansAt l E hj sp se al ta n pg u (by omega) hn) (cwV 1 S.2.2.2.2 gX1_needSpan_X1_spansAt rfl rfl rfl (by decide +kernel) ⟨Nat.le_of_ble_eq_true rfl, Nat.le_of_ble_eq_true rfl⟩) rfl rfl rfl rfl (Nat.le_of_ble_eq_true rfl) ⟨Nat.le_of_ble_eq_true rfl, Nat.le_of_ble_eq_true rfl⟩ (fun _ q => q.elim) (fun _ h => cw_x h) (fun _ h => h) (fun _ _ _ h _ _ => h) dX1_needSpan_7 ?_
    have v10 := hsp u (by omega) (by omega)
    refine g_callV S xK (As := []) (st := [.int (iI k)]) (stk' := [.int (iI ((sp u).1)), .int (iI k)]) (Wp' := CW E ad sp se al ta n pg) (r := (RX0, TX0, 3)) (m_X0_count l E hj sp se al ta n pg u (by omega) (sp u) (rfl) ) (cwV 0 S.2.2.2.2 gX1_needSpan_X0_count rfl rfl rfl (by decide +kernel) ⟨Nat.le_of_ble_eq_true rfl, Nat.le_of_ble_eq_true rfl⟩) rfl rfl rfl rfl (Nat.le_of_ble_eq_true rfl) ⟨Nat.le_of_ble_eq_true rfl, Nat.le_of_ble_eq_true rfl⟩ (fun _ q => q.elim) (fun _ h => cw_o (i := u) h (by omega) (rfl)) (fun _ h => h) (fun _ _ _ h _ _ => h) dX1_needSpan_10 ?_
    have v13 := v10.1.1
    refine g_icmp_lt S (tgt := 26) dX1_needSpan_13 (by decide) (by omega) (fun c13 => ?_) (fun c13 => ?_)
    · skip
      exact g_vret S xr xlk dX1_needSpan_26 (fun _ h => h)
    · skip
      exact absurd c13 (by omega)
set_option maxHeartbeats 4000000 in
set_option maxRecDepth 100000 in
theorem m_X1_needSpanX (l : Launch) (hlt : l.stackTraces = false) (E : EN) (bs : Nat) {ad : Int → Nat} (hj : INJ ad) (sp : Int → SpT) (se : Int → Int) (al : Int → Nat) (ta : Int → Int) (n pg : Int) (u k : Int) (hh : 0 ≤ u ∧ u < n) (hn : 0 ≤ n ∧ n ≤ 24) (hsp : SPV sp n pg) (hk : k < 0 ∨ (sp u).1 ≤ k) (hr : -2147483648 ≤ k ∧ k ≤ 2147483647) : vx_Met l yX1_needSpan wsX1_needSpan ({ frames := 6, cells := 1, slots := 6, locals := 82 }) (CX E bs [.ref (ad 0), .int (iI u), .int (iI k)] (CW E ad sp se al ta n pg)) QF (XW "java/lang/IndexOutOfBoundsException" (CW E ad sp se al ta n pg) (fun _ => False)) 1 6 (fun _ => False) := by
  refine g_metX (cc := cX1_needSpan) (maxL := 3) (ret := none) (lv := [(0, .ref (ad 0)), (1, .int (iI u)), (2, .int (iI k))]) (by decide) rfl (Nat.le_of_ble_eq_true rfl) rfl ?_
  intro xp xe xs xm xa xb xh xc S xK xX xlk xno
  have kk212 := S.2.2.2.2 (.classLink RX1 212 "java/lang/IndexOutOfBoundsException") (by decide +kernel)
  have ki212 := S.2.2.2.2 (.initialized "java/lang/IndexOutOfBoundsException") (by decide +kernel)
  have kg216 : ∀ w ∈ (vx_atS RX1 216 "java/lang/IndexOutOfBoundsException" nm3).filter goodWord, w.before xa xs = true := fun w h => S.2.2.2.2 w (by first | exact List.mem_cons_of_mem _ (List.mem_append_right _ h) | exact List.mem_cons_of_mem _ (List.mem_append_left _ (List.mem_append_right _ h)) | exact List.mem_cons_of_mem _ (List.mem_append_left _ (List.mem_append_left _ (List.mem_append_right _ h))))
  refine g_iload_n S dX1_needSpan_0 rfl 2 rfl ?_
  refine g_if_lt S (tgt := 16) dX1_needSpan_1 (by decide) (by omega) (fun c1 => ?_) (fun c1 => ?_)
  · skip
    exact g_throw S hlt xlk xno xX (cls := "java/lang/IndexOutOfBoundsException") (text := "no such span") rfl (by decide) (by decide) (by decide) kk212 ki212 kg216 bad216 ot216 (fun _ q => q.elim) ⟨Nat.le_of_ble_eq_true rfl, Nat.le_of_ble_eq_true rfl, Nat.le_of_ble_eq_true rfl, Nat.le_of_ble_eq_true rfl, Nat.le_of_ble_eq_true rfl, Nat.le_of_ble_eq_true rfl⟩ dX1_needSpan_16 dX1_needSpan_19 dX1_needSpan_20 dX1_needSpan_22 dX1_needSpan_25 (fun _ _ h h1 h2 => cw_grow h h1 h2)
  · skip
    refine g_iload_n S dX1_needSpan_4 rfl 2 rfl ?_
    refine g_aload_n S dX1_needSpan_5 rfl 0 rfl ?_
    refine g_iload_n S dX1_needSpan_6 rfl 1 rfl ?_
    refine g_callV S xK (As := [.int (iI u)]) (st := [.int (iI k)]) (stk' := [.ref (ad (5 + 3 * u)), .int (iI k)]) (Wp' := CW E ad sp se al ta n pg) (r := (RX1, TX1, 9)) (m_X1_spansAt l E hj sp se al ta n pg u (by omega) hn) (cwV 1 S.2.2.2.2 gX1_needSpan_X1_spansAt rfl rfl rfl (by decide +kernel) ⟨Nat.le_of_ble_eq_true rfl, Nat.le_of_ble_eq_true rfl⟩) rfl rfl rfl rfl (Nat.le_of_ble_eq_true rfl) ⟨Nat.le_of_ble_eq_true rfl, Nat.le_of_ble_eq_true rfl⟩ (fun _ q => q.elim) (fun _ h => cw_x h) (fun _ h => h) (fun _ _ _ h _ _ => h) dX1_needSpan_7 ?_
    have v10 := hsp u (by omega) (by omega)
    refine g_callV S xK (As := []) (st := [.int (iI k)]) (stk' := [.int (iI ((sp u).1)), .int (iI k)]) (Wp' := CW E ad sp se al ta n pg) (r := (RX0, TX0, 3)) (m_X0_count l E hj sp se al ta n pg u (by omega) (sp u) (rfl) ) (cwV 0 S.2.2.2.2 gX1_needSpan_X0_count rfl rfl rfl (by decide +kernel) ⟨Nat.le_of_ble_eq_true rfl, Nat.le_of_ble_eq_true rfl⟩) rfl rfl rfl rfl (Nat.le_of_ble_eq_true rfl) ⟨Nat.le_of_ble_eq_true rfl, Nat.le_of_ble_eq_true rfl⟩ (fun _ q => q.elim) (fun _ h => cw_o (i := u) h (by omega) (rfl)) (fun _ h => h) (fun _ _ _ h _ _ => h) dX1_needSpan_10 ?_
    have v13 := v10.1.1
    refine g_icmp_lt S (tgt := 26) dX1_needSpan_13 (by decide) (by omega) (fun c13 => ?_) (fun c13 => ?_)
    · skip
      exact absurd c13 (by omega)
    · skip
      exact g_throw S hlt xlk xno xX (cls := "java/lang/IndexOutOfBoundsException") (text := "no such span") rfl (by decide) (by decide) (by decide) kk212 ki212 kg216 bad216 ot216 (fun _ q => q.elim) ⟨Nat.le_of_ble_eq_true rfl, Nat.le_of_ble_eq_true rfl, Nat.le_of_ble_eq_true rfl, Nat.le_of_ble_eq_true rfl, Nat.le_of_ble_eq_true rfl, Nat.le_of_ble_eq_true rfl⟩ dX1_needSpan_16 dX1_needSpan_19 dX1_needSpan_20 dX1_needSpan_22 dX1_needSpan_25 (fun _ _ h h1 h2 => cw_grow h h1 h2)
set_option maxHeartbeats 4000000 in
set_option maxRecDepth 100000 in
theorem m_X1_needPage (l : Launch) (E : EN) {ad : Int → Nat} (hj : INJ ad) (sp : Int → SpT) (se : Int → Int) (al : Int → Nat) (ta : Int → Int) (n pg : Int) (q : Int) (hq : 1 ≤ q ∧ q ≤ pg) (hpg : 1 ≤ pg ∧ pg ≤ 300) : Met l yX1_needPage wsX1_needPage ({ frames := 0, cells := 0, slots := 0, locals := 0 }) (CI E [.ref (ad 0), .int (iI q)] (CW E ad sp se al ta n pg)) (QW (none) (CW E ad sp se al ta n pg) (fun _ => False)) 0 0 (fun _ => False) := by
  refine g_met (cc := cX1_needPage) (maxL := 2) (ret := none) (lv := [(0, .ref (ad 0)), (1, .int (iI q))]) (by decide) rfl (Nat.le_of_ble_eq_true rfl) rfl ?_
  intro xp xe xs xm xa xb xh xc S xK xr xlk xin
  have kf40 := S.2.2.2.2 (.fieldLink RX1 40 "BookIndex" "pageCount" "I") (by decide +kernel)
  have hin1 : ∀ w ∈ wsX10, w ∈ wsX1_needPage := by decide +kernel
  refine g_iload_n S dX1_needPage_0 rfl 1 rfl ?_
  refine g_iconst S dX1_needPage_1 ?_
  refine g_icmp_lt S (tgt := 13) dX1_needPage_2 (by decide) (by omega) (fun c2 => ?_) (fun c2 => ?_)
  · skip
    exact absurd c2 (by omega)
  · skip
    refine g_iload_n S dX1_needPage_5 rfl 1 rfl ?_
    refine g_aload_n S dX1_needPage_6 rfl 0 rfl ?_
    refine g_get S xK (ref := "BookIndex") hin1 8 (by decide) (show vwCl[1]? = some (RX1, TX1, 9) from rfl) kf40 (fun _ h9 => h9) (fun _ h => cw_x h) rfl dX1_needPage_7 ?_
    refine g_icmp_le S (tgt := 23) dX1_needPage_10 (by decide) (by omega) (fun c10 => ?_) (fun c10 => ?_)
    · skip
      exact g_vret S xr xlk dX1_needPage_23 (fun _ h => h)
    · skip
      exact absurd c10 (by omega)
set_option maxHeartbeats 4000000 in
set_option maxRecDepth 100000 in
theorem m_X1_needPageX (l : Launch) (hlt : l.stackTraces = false) (E : EN) (bs : Nat) {ad : Int → Nat} (hj : INJ ad) (sp : Int → SpT) (se : Int → Int) (al : Int → Nat) (ta : Int → Int) (n pg : Int) (q : Int) (hq : q < 1 ∨ pg < q) (hr : -2147483648 ≤ q ∧ q ≤ 2147483647) (hpg : 1 ≤ pg ∧ pg ≤ 300) : vx_Met l yX1_needPage wsX1_needPage ({ frames := 6, cells := 1, slots := 6, locals := 82 }) (CX E bs [.ref (ad 0), .int (iI q)] (CW E ad sp se al ta n pg)) QF (XW "java/lang/IllegalArgumentException" (CW E ad sp se al ta n pg) (fun _ => False)) 1 6 (fun _ => False) := by
  refine g_metX (cc := cX1_needPage) (maxL := 2) (ret := none) (lv := [(0, .ref (ad 0)), (1, .int (iI q))]) (by decide) rfl (Nat.le_of_ble_eq_true rfl) rfl ?_
  intro xp xe xs xm xa xb xh xc S xK xX xlk xno
  have kk109 := S.2.2.2.2 (.classLink RX1 109 "java/lang/IllegalArgumentException") (by decide +kernel)
  have ki109 := S.2.2.2.2 (.initialized "java/lang/IllegalArgumentException") (by decide +kernel)
  have kg113 : ∀ w ∈ (vx_atS RX1 113 "java/lang/IllegalArgumentException" nm3).filter goodWord, w.before xa xs = true := fun w h => S.2.2.2.2 w (by first | exact List.mem_cons_of_mem _ (List.mem_append_right _ h) | exact List.mem_cons_of_mem _ (List.mem_append_left _ (List.mem_append_right _ h)) | exact List.mem_cons_of_mem _ (List.mem_append_left _ (List.mem_append_left _ (List.mem_append_right _ h))))
  have kf40 := S.2.2.2.2 (.fieldLink RX1 40 "BookIndex" "pageCount" "I") (by decide +kernel)
  have hin1 : ∀ w ∈ wsX10, w ∈ wsX1_needPage := by decide +kernel
  refine g_iload_n S dX1_needPage_0 rfl 1 rfl ?_
  refine g_iconst S dX1_needPage_1 ?_
  refine g_icmp_lt S (tgt := 13) dX1_needPage_2 (by decide) (by omega) (fun c2 => ?_) (fun c2 => ?_)
  · skip
    exact g_throw S hlt xlk xno xX (cls := "java/lang/IllegalArgumentException") (text := "no such page") rfl (by decide) (by decide) (by decide) kk109 ki109 kg113 bad113 ot113 (fun _ q => q.elim) ⟨Nat.le_of_ble_eq_true rfl, Nat.le_of_ble_eq_true rfl, Nat.le_of_ble_eq_true rfl, Nat.le_of_ble_eq_true rfl, Nat.le_of_ble_eq_true rfl, Nat.le_of_ble_eq_true rfl⟩ dX1_needPage_13 dX1_needPage_16 dX1_needPage_17 dX1_needPage_19 dX1_needPage_22 (fun _ _ h h1 h2 => cw_grow h h1 h2)
  · skip
    refine g_iload_n S dX1_needPage_5 rfl 1 rfl ?_
    refine g_aload_n S dX1_needPage_6 rfl 0 rfl ?_
    refine g_get S xK (ref := "BookIndex") hin1 8 (by decide) (show vwCl[1]? = some (RX1, TX1, 9) from rfl) kf40 (fun _ h9 => h9) (fun _ h => cw_x h) rfl dX1_needPage_7 ?_
    refine g_icmp_le S (tgt := 23) dX1_needPage_10 (by decide) (by omega) (fun c10 => ?_) (fun c10 => ?_)
    · skip
      exact absurd c10 (by omega)
    · skip
      exact g_throw S hlt xlk xno xX (cls := "java/lang/IllegalArgumentException") (text := "no such page") rfl (by decide) (by decide) (by decide) kk109 ki109 kg113 bad113 ot113 (fun _ q => q.elim) ⟨Nat.le_of_ble_eq_true rfl, Nat.le_of_ble_eq_true rfl, Nat.le_of_ble_eq_true rfl, Nat.le_of_ble_eq_true rfl, Nat.le_of_ble_eq_true rfl, Nat.le_of_ble_eq_true rfl⟩ dX1_needPage_13 dX1_needPage_16 dX1_needPage_17 dX1_needPage_19 dX1_needPage_22 (fun _ _ h h1 h2 => cw_grow h h1 h2)
set_option maxHeartbeats 4000000 in
set_option maxRecDepth 100000 in
theorem m_X1_needPages (l : Launch) (E : EN) {ad : Int → Nat} (hj : INJ ad) (sp : Int → SpT) (se : Int → Int) (al : Int → Nat) (ta : Int → Int) (n pg : Int) (fr to : Int) (hf : 1 ≤ fr ∧ fr ≤ to ∧ to ≤ pg) (hpg : 1 ≤ pg ∧ pg ≤ 300) : Met l yX1_needPages wsX1_needPages ({ frames := 0, cells := 0, slots := 0, locals := 0 }) (CI E [.ref (ad 0), .int (iI fr), .int (iI to)] (CW E ad sp se al ta n pg)) (QW (none) (CW E ad sp se al ta n pg) (fun _ => False)) 0 0 (fun _ => False) := by
  refine g_met (cc := cX1_needPages) (maxL := 3) (ret := none) (lv := [(0, .ref (ad 0)), (1, .int (iI fr)), (2, .int (iI to))]) (by decide) rfl (Nat.le_of_ble_eq_true rfl) rfl ?_
  intro xp xe xs xm xa xb xh xc S xK xr xlk xin
  have kf40 := S.2.2.2.2 (.fieldLink RX1 40 "BookIndex" "pageCount" "I") (by decide +kernel)
  have hin1 : ∀ w ∈ wsX10, w ∈ wsX1_needPages := by decide +kernel
  refine g_iload_n S dX1_needPages_0 rfl 1 rfl ?_
  refine g_iconst S dX1_needPages_1 ?_
  refine g_icmp_lt S (tgt := 18) dX1_needPages_2 (by decide) (by omega) (fun c2 => ?_) (fun c2 => ?_)
  · skip
    exact absurd c2 (by omega)
  · skip
    refine g_iload_n S dX1_needPages_5 rfl 2 rfl ?_
    refine g_aload_n S dX1_needPages_6 rfl 0 rfl ?_
    refine g_get S xK (ref := "BookIndex") hin1 8 (by decide) (show vwCl[1]? = some (RX1, TX1, 9) from rfl) kf40 (fun _ h9 => h9) (fun _ h => cw_x h) rfl dX1_needPages_7 ?_
    refine g_icmp_gt S (tgt := 18) dX1_needPages_10 (by decide) (by omega) (fun c10 => ?_) (fun c10 => ?_)
    · skip
      exact absurd c10 (by omega)
    · skip
      refine g_iload_n S dX1_needPages_13 rfl 2 rfl ?_
      refine g_iload_n S dX1_needPages_14 rfl 1 rfl ?_
      refine g_icmp_ge S (tgt := 28) dX1_needPages_15 (by decide) (by omega) (fun c15 => ?_) (fun c15 => ?_)
      · skip
        exact g_vret S xr xlk dX1_needPages_28 (fun _ h => h)
      · skip
        exact absurd c15 (by omega)
set_option maxHeartbeats 4000000 in
set_option maxRecDepth 100000 in
theorem m_X1_needPagesX (l : Launch) (hlt : l.stackTraces = false) (E : EN) (bs : Nat) {ad : Int → Nat} (hj : INJ ad) (sp : Int → SpT) (se : Int → Int) (al : Int → Nat) (ta : Int → Int) (n pg : Int) (fr to : Int) (hf : fr < 1 ∨ to < fr ∨ pg < to) (hr : -2147483648 ≤ fr ∧ fr ≤ 2147483647 ∧ -2147483648 ≤ to ∧ to ≤ 2147483647) (hpg : 1 ≤ pg ∧ pg ≤ 300) : vx_Met l yX1_needPages wsX1_needPages ({ frames := 6, cells := 1, slots := 6, locals := 82 }) (CX E bs [.ref (ad 0), .int (iI fr), .int (iI to)] (CW E ad sp se al ta n pg)) QF (XW "java/lang/IllegalArgumentException" (CW E ad sp se al ta n pg) (fun _ => False)) 1 6 (fun _ => False) := by
  refine g_metX (cc := cX1_needPages) (maxL := 3) (ret := none) (lv := [(0, .ref (ad 0)), (1, .int (iI fr)), (2, .int (iI to))]) (by decide) rfl (Nat.le_of_ble_eq_true rfl) rfl ?_
  intro xp xe xs xm xa xb xh xc S xK xX xlk xno
  have kk109 := S.2.2.2.2 (.classLink RX1 109 "java/lang/IllegalArgumentException") (by decide +kernel)
  have ki109 := S.2.2.2.2 (.initialized "java/lang/IllegalArgumentException") (by decide +kernel)
  have kg113 : ∀ w ∈ (vx_atS RX1 113 "java/lang/IllegalArgumentException" nm3).filter goodWord, w.before xa xs = true := fun w h => S.2.2.2.2 w (by first | exact List.mem_cons_of_mem _ (List.mem_append_right _ h) | exact List.mem_cons_of_mem _ (List.mem_append_left _ (List.mem_append_right _ h)) | exact List.mem_cons_of_mem _ (List.mem_append_left _ (List.mem_append_left _ (List.mem_append_right _ h))))
  have kf40 := S.2.2.2.2 (.fieldLink RX1 40 "BookIndex" "pageCount" "I") (by decide +kernel)
  have hin1 : ∀ w ∈ wsX10, w ∈ wsX1_needPages := by decide +kernel
  refine g_iload_n S dX1_needPages_0 rfl 1 rfl ?_
  refine g_iconst S dX1_needPages_1 ?_
  refine g_icmp_lt S (tgt := 18) dX1_needPages_2 (by decide) (by omega) (fun c2 => ?_) (fun c2 => ?_)
  · skip
    exact g_throw S hlt xlk xno xX (cls := "java/lang/IllegalArgumentException") (text := "no such pages") rfl (by decide) (by decide) (by decide) kk109 ki109 kg113 bad113 ot113 (fun _ q => q.elim) ⟨Nat.le_of_ble_eq_true rfl, Nat.le_of_ble_eq_true rfl, Nat.le_of_ble_eq_true rfl, Nat.le_of_ble_eq_true rfl, Nat.le_of_ble_eq_true rfl, Nat.le_of_ble_eq_true rfl⟩ dX1_needPages_18 dX1_needPages_21 dX1_needPages_22 dX1_needPages_24 dX1_needPages_27 (fun _ _ h h1 h2 => cw_grow h h1 h2)
  · skip
    refine g_iload_n S dX1_needPages_5 rfl 2 rfl ?_
    refine g_aload_n S dX1_needPages_6 rfl 0 rfl ?_
    refine g_get S xK (ref := "BookIndex") hin1 8 (by decide) (show vwCl[1]? = some (RX1, TX1, 9) from rfl) kf40 (fun _ h9 => h9) (fun _ h => cw_x h) rfl dX1_needPages_7 ?_
    refine g_icmp_gt S (tgt := 18) dX1_needPages_10 (by decide) (by omega) (fun c10 => ?_) (fun c10 => ?_)
    · skip
      exact g_throw S hlt xlk xno xX (cls := "java/lang/IllegalArgumentException") (text := "no such pages") rfl (by decide) (by decide) (by decide) kk109 ki109 kg113 bad113 ot113 (fun _ q => q.elim) ⟨Nat.le_of_ble_eq_true rfl, Nat.le_of_ble_eq_true rfl, Nat.le_of_ble_eq_true rfl, Nat.le_of_ble_eq_true rfl, Nat.le_of_ble_eq_true rfl, Nat.le_of_ble_eq_true rfl⟩ dX1_needPages_18 dX1_needPages_21 dX1_needPages_22 dX1_needPages_24 dX1_needPages_27 (fun _ _ h h1 h2 => cw_grow h h1 h2)
    · skip
      refine g_iload_n S dX1_needPages_13 rfl 2 rfl ?_
      refine g_iload_n S dX1_needPages_14 rfl 1 rfl ?_
      refine g_icmp_ge S (tgt := 28) dX1_needPages_15 (by decide) (by omega) (fun c15 => ?_) (fun c15 => ?_)
      · skip
        exact absurd c15 (by omega)
      · skip
        exact g_throw S hlt xlk xno xX (cls := "java/lang/IllegalArgumentException") (text := "no such pages") rfl (by decide) (by decide) (by decide) kk109 ki109 kg113 bad113 ot113 (fun _ q => q.elim) ⟨Nat.le_of_ble_eq_true rfl, Nat.le_of_ble_eq_true rfl, Nat.le_of_ble_eq_true rfl, Nat.le_of_ble_eq_true rfl, Nat.le_of_ble_eq_true rfl, Nat.le_of_ble_eq_true rfl⟩ dX1_needPages_18 dX1_needPages_21 dX1_needPages_22 dX1_needPages_24 dX1_needPages_27 (fun _ _ h h1 h2 => cw_grow h h1 h2)
set_option maxHeartbeats 4000000 in
set_option maxRecDepth 100000 in
theorem m_X1_needTwo (l : Launch) (E : EN) {ad : Int → Nat} (hj : INJ ad) (sp : Int → SpT) (se : Int → Int) (al : Int → Nat) (ta : Int → Int) (n pg : Int) (u o : Int) (hr : -2147483648 ≤ u ∧ u ≤ 2147483647 ∧ -2147483648 ≤ o ∧ o ≤ 2147483647) (hne : u ≠ o) : Met l yX1_needTwo wsX1_needTwo ({ frames := 0, cells := 0, slots := 0, locals := 0 }) (CI E [.ref (ad 0), .int (iI u), .int (iI o)] (CW E ad sp se al ta n pg)) (QW (none) (CW E ad sp se al ta n pg) (fun _ => False)) 0 0 (fun _ => False) := by
  refine g_met (cc := cX1_needTwo) (maxL := 3) (ret := none) (lv := [(0, .ref (ad 0)), (1, .int (iI u)), (2, .int (iI o))]) (by decide) rfl (Nat.le_of_ble_eq_true rfl) rfl ?_
  intro xp xe xs xm xa xb xh xc S xK xr xlk xin
  refine g_iload_n S dX1_needTwo_0 rfl 1 rfl ?_
  refine g_iload_n S dX1_needTwo_1 rfl 2 rfl ?_
  refine g_icmp_ne S (tgt := 15) dX1_needTwo_2 (by decide) (by omega) (fun c2 => ?_) (fun c2 => ?_)
  · skip
    exact g_vret S xr xlk dX1_needTwo_15 (fun _ h => h)
  · skip
    exact absurd c2 (by omega)
set_option maxHeartbeats 4000000 in
set_option maxRecDepth 100000 in
theorem m_X1_needTwoX (l : Launch) (hlt : l.stackTraces = false) (E : EN) (bs : Nat) {ad : Int → Nat} (hj : INJ ad) (sp : Int → SpT) (se : Int → Int) (al : Int → Nat) (ta : Int → Int) (n pg : Int) (u o : Int) (hr : -2147483648 ≤ u ∧ u ≤ 2147483647 ∧ -2147483648 ≤ o ∧ o ≤ 2147483647) (hne : u = o) : vx_Met l yX1_needTwo wsX1_needTwo ({ frames := 6, cells := 1, slots := 6, locals := 82 }) (CX E bs [.ref (ad 0), .int (iI u), .int (iI o)] (CW E ad sp se al ta n pg)) QF (XW "java/lang/IllegalArgumentException" (CW E ad sp se al ta n pg) (fun _ => False)) 1 6 (fun _ => False) := by
  refine g_metX (cc := cX1_needTwo) (maxL := 3) (ret := none) (lv := [(0, .ref (ad 0)), (1, .int (iI u)), (2, .int (iI o))]) (by decide) rfl (Nat.le_of_ble_eq_true rfl) rfl ?_
  intro xp xe xs xm xa xb xh xc S xK xX xlk xno
  have kk109 := S.2.2.2.2 (.classLink RX1 109 "java/lang/IllegalArgumentException") (by decide +kernel)
  have ki109 := S.2.2.2.2 (.initialized "java/lang/IllegalArgumentException") (by decide +kernel)
  have kg113 : ∀ w ∈ (vx_atS RX1 113 "java/lang/IllegalArgumentException" nm3).filter goodWord, w.before xa xs = true := fun w h => S.2.2.2.2 w (by first | exact List.mem_cons_of_mem _ (List.mem_append_right _ h) | exact List.mem_cons_of_mem _ (List.mem_append_left _ (List.mem_append_right _ h)) | exact List.mem_cons_of_mem _ (List.mem_append_left _ (List.mem_append_left _ (List.mem_append_right _ h))))
  refine g_iload_n S dX1_needTwo_0 rfl 1 rfl ?_
  refine g_iload_n S dX1_needTwo_1 rfl 2 rfl ?_
  refine g_icmp_ne S (tgt := 15) dX1_needTwo_2 (by decide) (by omega) (fun c2 => ?_) (fun c2 => ?_)
  · skip
    exact absurd c2 (by omega)
  · skip
    exact g_throw S hlt xlk xno xX (cls := "java/lang/IllegalArgumentException") (text := "both headings are the same") rfl (by decide) (by decide) (by decide) kk109 ki109 kg113 bad113 ot113 (fun _ q => q.elim) ⟨Nat.le_of_ble_eq_true rfl, Nat.le_of_ble_eq_true rfl, Nat.le_of_ble_eq_true rfl, Nat.le_of_ble_eq_true rfl, Nat.le_of_ble_eq_true rfl, Nat.le_of_ble_eq_true rfl⟩ dX1_needTwo_5 dX1_needTwo_8 dX1_needTwo_9 dX1_needTwo_11 dX1_needTwo_14 (fun _ _ h h1 h2 => cw_grow h h1 h2)
set_option maxHeartbeats 4000000 in
set_option maxRecDepth 100000 in
theorem m_X1_needNoPages (l : Launch) (E : EN) {ad : Int → Nat} (hj : INJ ad) (sp : Int → SpT) (se : Int → Int) (al : Int → Nat) (ta : Int → Int) (n pg : Int) (u : Int) (hh : 0 ≤ u ∧ u < n) (hn : 0 ≤ n ∧ n ≤ 24) (hsp : SPV sp n pg) (hc : (sp u).1 = 0) : Met l yX1_needNoPages wsX1_needNoPages ({ frames := 2, cells := 0, slots := 0, locals := 43 }) (CI E [.ref (ad 0), .int (iI u)] (CW E ad sp se al ta n pg)) (QW (none) (CW E ad sp se al ta n pg) (fun _ => False)) 0 0 (fun _ => False) := by
  refine g_met (cc := cX1_needNoPages) (maxL := 2) (ret := none) (lv := [(0, .ref (ad 0)), (1, .int (iI u))]) (by decide) rfl (Nat.le_of_ble_eq_true rfl) rfl ?_
  intro xp xe xs xm xa xb xh xc S xK xr xlk xin
  refine g_aload_n S dX1_needNoPages_0 rfl 0 rfl ?_
  refine g_iload_n S dX1_needNoPages_1 rfl 1 rfl ?_
  refine g_callV S xK (As := [.int (iI u)]) (st := []) (stk' := [.ref (ad (5 + 3 * u))]) (Wp' := CW E ad sp se al ta n pg) (r := (RX1, TX1, 9)) (m_X1_spansAt l E hj sp se al ta n pg u (by omega) hn) (cwV 1 S.2.2.2.2 gX1_needNoPages_X1_spansAt rfl rfl rfl (by decide +kernel) ⟨Nat.le_of_ble_eq_true rfl, Nat.le_of_ble_eq_true rfl⟩) rfl rfl rfl rfl (Nat.le_of_ble_eq_true rfl) ⟨Nat.le_of_ble_eq_true rfl, Nat.le_of_ble_eq_true rfl⟩ (fun _ q => q.elim) (fun _ h => cw_x h) (fun _ h => h) (fun _ _ _ h _ _ => h) dX1_needNoPages_2 ?_
  refine g_callV S xK (As := []) (st := []) (stk' := [.int (iI ((sp u).1))]) (Wp' := CW E ad sp se al ta n pg) (r := (RX0, TX0, 3)) (m_X0_count l E hj sp se al ta n pg u (by omega) (sp u) (rfl) ) (cwV 0 S.2.2.2.2 gX1_needNoPages_X0_count rfl rfl rfl (by decide +kernel) ⟨Nat.le_of_ble_eq_true rfl, Nat.le_of_ble_eq_true rfl⟩) rfl rfl rfl rfl (Nat.le_of_ble_eq_true rfl) ⟨Nat.le_of_ble_eq_true rfl, Nat.le_of_ble_eq_true rfl⟩ (fun _ q => q.elim) (fun _ h => cw_o (i := u) h (by omega) (rfl)) (fun _ h => h) (fun _ _ _ h _ _ => h) dX1_needNoPages_5 ?_
  have v8 := hsp u (by omega) (by omega)
  have w8 := v8.1.1
  refine g_if_le S (tgt := 21) dX1_needNoPages_8 (by decide) (by omega) (fun c8 => ?_) (fun c8 => ?_)
  · skip
    exact g_vret S xr xlk dX1_needNoPages_21 (fun _ h => h)
  · skip
    exact absurd c8 (by omega)
set_option maxHeartbeats 4000000 in
set_option maxRecDepth 100000 in
theorem m_X1_needNoPagesX (l : Launch) (hlt : l.stackTraces = false) (E : EN) (bs : Nat) {ad : Int → Nat} (hj : INJ ad) (sp : Int → SpT) (se : Int → Int) (al : Int → Nat) (ta : Int → Int) (n pg : Int) (u : Int) (hh : 0 ≤ u ∧ u < n) (hn : 0 ≤ n ∧ n ≤ 24) (hsp : SPV sp n pg) (hc : (sp u).1 ≠ 0) : vx_Met l yX1_needNoPages wsX1_needNoPages ({ frames := 6, cells := 1, slots := 6, locals := 82 }) (CX E bs [.ref (ad 0), .int (iI u)] (CW E ad sp se al ta n pg)) QF (XW "java/lang/IllegalStateException" (CW E ad sp se al ta n pg) (fun _ => False)) 1 6 (fun _ => False) := by
  refine g_metX (cc := cX1_needNoPages) (maxL := 2) (ret := none) (lv := [(0, .ref (ad 0)), (1, .int (iI u))]) (by decide) rfl (Nat.le_of_ble_eq_true rfl) rfl ?_
  intro xp xe xs xm xa xb xh xc S xK xX xlk xno
  have kk43 := S.2.2.2.2 (.classLink RX1 43 "java/lang/IllegalStateException") (by decide +kernel)
  have ki43 := S.2.2.2.2 (.initialized "java/lang/IllegalStateException") (by decide +kernel)
  have kg47 : ∀ w ∈ (vx_atS RX1 47 "java/lang/IllegalStateException" nm3).filter goodWord, w.before xa xs = true := fun w h => S.2.2.2.2 w (by first | exact List.mem_cons_of_mem _ (List.mem_append_right _ h) | exact List.mem_cons_of_mem _ (List.mem_append_left _ (List.mem_append_right _ h)) | exact List.mem_cons_of_mem _ (List.mem_append_left _ (List.mem_append_left _ (List.mem_append_right _ h))))
  refine g_aload_n S dX1_needNoPages_0 rfl 0 rfl ?_
  refine g_iload_n S dX1_needNoPages_1 rfl 1 rfl ?_
  refine g_callV S xK (As := [.int (iI u)]) (st := []) (stk' := [.ref (ad (5 + 3 * u))]) (Wp' := CW E ad sp se al ta n pg) (r := (RX1, TX1, 9)) (m_X1_spansAt l E hj sp se al ta n pg u (by omega) hn) (cwV 1 S.2.2.2.2 gX1_needNoPages_X1_spansAt rfl rfl rfl (by decide +kernel) ⟨Nat.le_of_ble_eq_true rfl, Nat.le_of_ble_eq_true rfl⟩) rfl rfl rfl rfl (Nat.le_of_ble_eq_true rfl) ⟨Nat.le_of_ble_eq_true rfl, Nat.le_of_ble_eq_true rfl⟩ (fun _ q => q.elim) (fun _ h => cw_x h) (fun _ h => h) (fun _ _ _ h _ _ => h) dX1_needNoPages_2 ?_
  refine g_callV S xK (As := []) (st := []) (stk' := [.int (iI ((sp u).1))]) (Wp' := CW E ad sp se al ta n pg) (r := (RX0, TX0, 3)) (m_X0_count l E hj sp se al ta n pg u (by omega) (sp u) (rfl) ) (cwV 0 S.2.2.2.2 gX1_needNoPages_X0_count rfl rfl rfl (by decide +kernel) ⟨Nat.le_of_ble_eq_true rfl, Nat.le_of_ble_eq_true rfl⟩) rfl rfl rfl rfl (Nat.le_of_ble_eq_true rfl) ⟨Nat.le_of_ble_eq_true rfl, Nat.le_of_ble_eq_true rfl⟩ (fun _ q => q.elim) (fun _ h => cw_o (i := u) h (by omega) (rfl)) (fun _ h => h) (fun _ _ _ h _ _ => h) dX1_needNoPages_5 ?_
  have v8 := hsp u (by omega) (by omega)
  have w8 := v8.1.1
  refine g_if_le S (tgt := 21) dX1_needNoPages_8 (by decide) (by omega) (fun c8 => ?_) (fun c8 => ?_)
  · skip
    exact absurd c8 (by omega)
  · skip
    exact g_throw S hlt xlk xno xX (cls := "java/lang/IllegalStateException") (text := "the heading has pages") rfl (by decide) (by decide) (by decide) kk43 ki43 kg47 bad47 ot47 (fun _ q => q.elim) ⟨Nat.le_of_ble_eq_true rfl, Nat.le_of_ble_eq_true rfl, Nat.le_of_ble_eq_true rfl, Nat.le_of_ble_eq_true rfl, Nat.le_of_ble_eq_true rfl, Nat.le_of_ble_eq_true rfl⟩ dX1_needNoPages_11 dX1_needNoPages_14 dX1_needNoPages_15 dX1_needNoPages_17 dX1_needNoPages_20 (fun _ _ h h1 h2 => cw_grow h h1 h2)
set_option maxHeartbeats 4000000 in
set_option maxRecDepth 100000 in
theorem m_X1_needRoomForMade (l : Launch) (E : EN) {ad : Int → Nat} (hj : INJ ad) (sp : Int → SpT) (se : Int → Int) (al : Int → Nat) (ta : Int → Int) (n pg : Int) (hc : 0 ≤ (sp 25).1 ∧ (sp 25).1 ≤ 8) : Met l yX1_needRoomForMade wsX1_needRoomForMade ({ frames := 1, cells := 0, slots := 0, locals := 20 }) (CI E [.ref (ad 0)] (CW E ad sp se al ta n pg)) (QW (none) (CW E ad sp se al ta n pg) (fun _ => False)) 0 0 (fun _ => False) := by
  refine g_met (cc := cX1_needRoomForMade) (maxL := 1) (ret := none) (lv := [(0, .ref (ad 0))]) (by decide) rfl (Nat.le_of_ble_eq_true rfl) rfl ?_
  intro xp xe xs xm xa xb xh xc S xK xr xlk xin
  have kf30 := S.2.2.2.2 (.fieldLink RX1 30 "BookIndex" "made" "LBookIndex$Spans;") (by decide +kernel)
  have hin1 : ∀ w ∈ wsX10, w ∈ wsX1_needRoomForMade := by decide +kernel
  refine g_aload_n S dX1_needRoomForMade_0 rfl 0 rfl ?_
  refine g_get S xK (ref := "BookIndex") hin1 5 (by decide) (show vwCl[1]? = some (RX1, TX1, 9) from rfl) kf30 (fun _ h9 => h9) (fun _ h => cw_x h) rfl dX1_needRoomForMade_1 ?_
  refine g_callV S xK (As := []) (st := []) (stk' := [.int (iI ((sp 25).1))]) (Wp' := CW E ad sp se al ta n pg) (r := (RX0, TX0, 3)) (m_X0_count l E hj sp se al ta n pg 25 (by omega) (sp 25) (rfl) ) (cwV 0 S.2.2.2.2 gX1_needRoomForMade_X0_count rfl rfl rfl (by decide +kernel) ⟨Nat.le_of_ble_eq_true rfl, Nat.le_of_ble_eq_true rfl⟩) rfl rfl rfl rfl (Nat.le_of_ble_eq_true rfl) ⟨Nat.le_of_ble_eq_true rfl, Nat.le_of_ble_eq_true rfl⟩ (fun _ q => q.elim) (fun _ h => cw_o (i := 25) h (by omega) (rfl)) (fun _ h => h) (fun _ _ _ h _ _ => h) dX1_needRoomForMade_4 ?_
  refine g_bipush S dX1_needRoomForMade_7 (by decide) ?_
  refine g_icmp_le S (tgt := 22) dX1_needRoomForMade_9 (by decide) (by omega) (fun c9 => ?_) (fun c9 => ?_)
  · skip
    exact g_vret S xr xlk dX1_needRoomForMade_22 (fun _ h => h)
  · skip
    exact absurd c9 (by omega)
set_option maxHeartbeats 4000000 in
set_option maxRecDepth 100000 in
theorem m_X1_needRoomForMadeX (l : Launch) (hlt : l.stackTraces = false) (E : EN) (bs : Nat) {ad : Int → Nat} (hj : INJ ad) (sp : Int → SpT) (se : Int → Int) (al : Int → Nat) (ta : Int → Int) (n pg : Int) (hc : 8 < (sp 25).1 ∧ (sp 25).1 ≤ 16) : vx_Met l yX1_needRoomForMade wsX1_needRoomForMade ({ frames := 6, cells := 1, slots := 6, locals := 82 }) (CX E bs [.ref (ad 0)] (CW E ad sp se al ta n pg)) QF (XW "java/lang/IllegalStateException" (CW E ad sp se al ta n pg) (fun _ => False)) 1 6 (fun _ => False) := by
  refine g_metX (cc := cX1_needRoomForMade) (maxL := 1) (ret := none) (lv := [(0, .ref (ad 0))]) (by decide) rfl (Nat.le_of_ble_eq_true rfl) rfl ?_
  intro xp xe xs xm xa xb xh xc S xK xX xlk xno
  have kf30 := S.2.2.2.2 (.fieldLink RX1 30 "BookIndex" "made" "LBookIndex$Spans;") (by decide +kernel)
  have kk43 := S.2.2.2.2 (.classLink RX1 43 "java/lang/IllegalStateException") (by decide +kernel)
  have ki43 := S.2.2.2.2 (.initialized "java/lang/IllegalStateException") (by decide +kernel)
  have kg47 : ∀ w ∈ (vx_atS RX1 47 "java/lang/IllegalStateException" nm3).filter goodWord, w.before xa xs = true := fun w h => S.2.2.2.2 w (by first | exact List.mem_cons_of_mem _ (List.mem_append_right _ h) | exact List.mem_cons_of_mem _ (List.mem_append_left _ (List.mem_append_right _ h)) | exact List.mem_cons_of_mem _ (List.mem_append_left _ (List.mem_append_left _ (List.mem_append_right _ h))))
  have hin1 : ∀ w ∈ wsX10, w ∈ wsX1_needRoomForMade := by decide +kernel
  refine g_aload_n S dX1_needRoomForMade_0 rfl 0 rfl ?_
  refine g_get S xK (ref := "BookIndex") hin1 5 (by decide) (show vwCl[1]? = some (RX1, TX1, 9) from rfl) kf30 (fun _ h9 => h9) (fun _ h => cw_x h) rfl dX1_needRoomForMade_1 ?_
  refine g_callV S xK (As := []) (st := []) (stk' := [.int (iI ((sp 25).1))]) (Wp' := CW E ad sp se al ta n pg) (r := (RX0, TX0, 3)) (m_X0_count l E hj sp se al ta n pg 25 (by omega) (sp 25) (rfl) ) (cwV 0 S.2.2.2.2 gX1_needRoomForMade_X0_count rfl rfl rfl (by decide +kernel) ⟨Nat.le_of_ble_eq_true rfl, Nat.le_of_ble_eq_true rfl⟩) rfl rfl rfl rfl (Nat.le_of_ble_eq_true rfl) ⟨Nat.le_of_ble_eq_true rfl, Nat.le_of_ble_eq_true rfl⟩ (fun _ q => q.elim) (fun _ h => cw_o (i := 25) h (by omega) (rfl)) (fun _ h => h) (fun _ _ _ h _ _ => h) dX1_needRoomForMade_4 ?_
  refine g_bipush S dX1_needRoomForMade_7 (by decide) ?_
  refine g_icmp_le S (tgt := 22) dX1_needRoomForMade_9 (by decide) (by omega) (fun c9 => ?_) (fun c9 => ?_)
  · skip
    exact absurd c9 (by omega)
  · skip
    exact g_throw S hlt xlk xno xX (cls := "java/lang/IllegalStateException") (text := "the heading would have more than 8 spans") rfl (by decide) (by decide) (by decide) kk43 ki43 kg47 bad47 ot47 (fun _ q => q.elim) ⟨Nat.le_of_ble_eq_true rfl, Nat.le_of_ble_eq_true rfl, Nat.le_of_ble_eq_true rfl, Nat.le_of_ble_eq_true rfl, Nat.le_of_ble_eq_true rfl, Nat.le_of_ble_eq_true rfl⟩ dX1_needRoomForMade_12 dX1_needRoomForMade_15 dX1_needRoomForMade_16 dX1_needRoomForMade_18 dX1_needRoomForMade_21 (fun _ _ h h1 h2 => cw_grow h h1 h2)
set_option maxHeartbeats 4000000 in
set_option maxRecDepth 100000 in
theorem m_X1_spansOf (l : Launch) (E : EN) {ad : Int → Nat} (hj : INJ ad) (sp : Int → SpT) (se : Int → Int) (al : Int → Nat) (ta : Int → Int) (n pg : Int) (u : Int) (hh : 0 ≤ u ∧ u < n) (hn : 0 ≤ n ∧ n ≤ 24) : Met l yX1_spansOf wsX1_spansOf ({ frames := 2, cells := 0, slots := 0, locals := 43 }) (CI E [.ref (ad 0), .int (iI u)] (CW E ad sp se al ta n pg)) (QW (some (.int (iI ((sp u).1)))) (CW E ad sp se al ta n pg) (fun _ => False)) 0 0 (fun _ => False) := by
  refine g_met (cc := cX1_spansOf) (maxL := 2) (ret := (some .int)) (lv := [(0, .ref (ad 0)), (1, .int (iI u))]) (by decide) rfl (Nat.le_of_ble_eq_true rfl) rfl ?_
  intro xp xe xs xm xa xb xh xc S xK xr xlk xin
  refine g_aload_n S dX1_spansOf_0 rfl 0 rfl ?_
  refine g_iload_n S dX1_spansOf_1 rfl 1 rfl ?_
  refine g_callV S xK (As := [.int (iI u)]) (st := []) (stk' := []) (Wp' := CW E ad sp se al ta n pg) (r := (RX1, TX1, 9)) (m_X1_needHeading l E hj sp se al ta n pg u (by omega) hn) (cwV 1 S.2.2.2.2 gX1_spansOf_X1_needHeading rfl rfl rfl (by decide +kernel) ⟨Nat.le_of_ble_eq_true rfl, Nat.le_of_ble_eq_true rfl⟩) rfl rfl rfl rfl (Nat.le_of_ble_eq_true rfl) ⟨Nat.le_of_ble_eq_true rfl, Nat.le_of_ble_eq_true rfl⟩ (fun _ q => q.elim) (fun _ h => cw_x h) (fun _ h => h) (fun _ _ _ h _ _ => h) dX1_spansOf_2 ?_
  refine g_aload_n S dX1_spansOf_5 rfl 0 rfl ?_
  refine g_iload_n S dX1_spansOf_6 rfl 1 rfl ?_
  refine g_callV S xK (As := [.int (iI u)]) (st := []) (stk' := [.ref (ad (5 + 3 * u))]) (Wp' := CW E ad sp se al ta n pg) (r := (RX1, TX1, 9)) (m_X1_spansAt l E hj sp se al ta n pg u (by omega) hn) (cwV 1 S.2.2.2.2 gX1_spansOf_X1_spansAt rfl rfl rfl (by decide +kernel) ⟨Nat.le_of_ble_eq_true rfl, Nat.le_of_ble_eq_true rfl⟩) rfl rfl rfl rfl (Nat.le_of_ble_eq_true rfl) ⟨Nat.le_of_ble_eq_true rfl, Nat.le_of_ble_eq_true rfl⟩ (fun _ q => q.elim) (fun _ h => cw_x h) (fun _ h => h) (fun _ _ _ h _ _ => h) dX1_spansOf_7 ?_
  refine g_callV S xK (As := []) (st := []) (stk' := [.int (iI ((sp u).1))]) (Wp' := CW E ad sp se al ta n pg) (r := (RX0, TX0, 3)) (m_X0_count l E hj sp se al ta n pg u (by omega) (sp u) (rfl) ) (cwV 0 S.2.2.2.2 gX1_spansOf_X0_count rfl rfl rfl (by decide +kernel) ⟨Nat.le_of_ble_eq_true rfl, Nat.le_of_ble_eq_true rfl⟩) rfl rfl rfl rfl (Nat.le_of_ble_eq_true rfl) ⟨Nat.le_of_ble_eq_true rfl, Nat.le_of_ble_eq_true rfl⟩ (fun _ q => q.elim) (fun _ h => cw_o (i := u) h (by omega) (rfl)) (fun _ h => h) (fun _ _ _ h _ _ => h) dX1_spansOf_10 ?_
  exact g_iret S xr xlk dX1_spansOf_13 (fun _ h => h)
set_option maxHeartbeats 4000000 in
set_option maxRecDepth 100000 in
theorem m_X1_spansOfX (l : Launch) (hlt : l.stackTraces = false) (E : EN) (bs : Nat) {ad : Int → Nat} (hj : INJ ad) (sp : Int → SpT) (se : Int → Int) (al : Int → Nat) (ta : Int → Int) (n pg : Int) (u : Int) (hh : u < 0 ∨ n ≤ u) (hr : -2147483648 ≤ u ∧ u ≤ 2147483647) (hn : 0 ≤ n ∧ n ≤ 24) : vx_Met l yX1_spansOf wsX1_spansOf ({ frames := 7, cells := 1, slots := 6, locals := 103 }) (CX E bs [.ref (ad 0), .int (iI u)] (CW E ad sp se al ta n pg)) QF (XW "java/lang/IndexOutOfBoundsException" (CW E ad sp se al ta n pg) (fun _ => False)) 1 6 (fun _ => False) := by
  refine g_metX (cc := cX1_spansOf) (maxL := 2) (ret := (some .int)) (lv := [(0, .ref (ad 0)), (1, .int (iI u))]) (by decide) rfl (Nat.le_of_ble_eq_true rfl) rfl ?_
  intro xp xe xs xm xa xb xh xc S xK xX xlk xno
  refine g_aload_n S dX1_spansOf_0 rfl 0 rfl ?_
  refine g_iload_n S dX1_spansOf_1 rfl 1 rfl ?_
  exact g_callVX S xK xlk xno xX (As := [.int (iI u)]) (st := []) (r := (RX1, TX1, 9)) (m_X1_needHeadingX l hlt E bs hj sp se al ta n pg u (by omega) (by omega) hn) (cwV 1 S.2.2.2.2 gX1_spansOf_X1_needHeading rfl rfl rfl (by decide +kernel) ⟨Nat.le_of_ble_eq_true rfl, Nat.le_of_ble_eq_true rfl⟩) rfl rfl rfl (Nat.le_of_ble_eq_true rfl) ⟨Nat.le_of_ble_eq_true rfl, Nat.le_of_ble_eq_true rfl, Nat.le_of_ble_eq_true rfl, Nat.le_of_ble_eq_true rfl⟩ (fun _ q => q.elim) (fun _ q => q.elim) (fun _ h => cw_x h) (fun _ h => h) (fun _ _ _ h _ _ => h) dX1_spansOf_2
set_option maxHeartbeats 4000000 in
set_option maxRecDepth 100000 in
theorem m_X1_pagesOf (l : Launch) (E : EN) {ad : Int → Nat} (hj : INJ ad) (sp : Int → SpT) (se : Int → Int) (al : Int → Nat) (ta : Int → Int) (n pg : Int) (u : Int) (hh : 0 ≤ u ∧ u < n) (hn : 0 ≤ n ∧ n ≤ 24) (hpg : 1 ≤ pg ∧ pg ≤ 300) (hsp : SPV sp n pg) : Met l yX1_pagesOf wsX1_pagesOf ({ frames := 2, cells := 0, slots := 0, locals := 43 }) (CI E [.ref (ad 0), .int (iI u)] (CW E ad sp se al ta n pg)) (QW (some (.int (iI (PGS (sp u))))) (CW E ad sp se al ta n pg) (fun _ => False)) 0 0 (fun _ => False) := by
  refine g_met (cc := cX1_pagesOf) (maxL := 2) (ret := (some .int)) (lv := [(0, .ref (ad 0)), (1, .int (iI u))]) (by decide) rfl (Nat.le_of_ble_eq_true rfl) rfl ?_
  intro xp xe xs xm xa xb xh xc S xK xr xlk xin
  refine g_aload_n S dX1_pagesOf_0 rfl 0 rfl ?_
  refine g_iload_n S dX1_pagesOf_1 rfl 1 rfl ?_
  refine g_callV S xK (As := [.int (iI u)]) (st := []) (stk' := []) (Wp' := CW E ad sp se al ta n pg) (r := (RX1, TX1, 9)) (m_X1_needHeading l E hj sp se al ta n pg u (by omega) hn) (cwV 1 S.2.2.2.2 gX1_pagesOf_X1_needHeading rfl rfl rfl (by decide +kernel) ⟨Nat.le_of_ble_eq_true rfl, Nat.le_of_ble_eq_true rfl⟩) rfl rfl rfl rfl (Nat.le_of_ble_eq_true rfl) ⟨Nat.le_of_ble_eq_true rfl, Nat.le_of_ble_eq_true rfl⟩ (fun _ q => q.elim) (fun _ h => cw_x h) (fun _ h => h) (fun _ _ _ h _ _ => h) dX1_pagesOf_2 ?_
  refine g_aload_n S dX1_pagesOf_5 rfl 0 rfl ?_
  refine g_iload_n S dX1_pagesOf_6 rfl 1 rfl ?_
  refine g_callV S xK (As := [.int (iI u)]) (st := []) (stk' := [.ref (ad (5 + 3 * u))]) (Wp' := CW E ad sp se al ta n pg) (r := (RX1, TX1, 9)) (m_X1_spansAt l E hj sp se al ta n pg u (by omega) hn) (cwV 1 S.2.2.2.2 gX1_pagesOf_X1_spansAt rfl rfl rfl (by decide +kernel) ⟨Nat.le_of_ble_eq_true rfl, Nat.le_of_ble_eq_true rfl⟩) rfl rfl rfl rfl (Nat.le_of_ble_eq_true rfl) ⟨Nat.le_of_ble_eq_true rfl, Nat.le_of_ble_eq_true rfl⟩ (fun _ q => q.elim) (fun _ h => cw_x h) (fun _ h => h) (fun _ _ _ h _ _ => h) dX1_pagesOf_7 ?_
  refine g_callV S xK (As := []) (st := []) (stk' := [.int (iI (smI (fun k => (sp u).2.2 k - (sp u).2.1 k + 1) ((sp u).1).toNat))]) (Wp' := CW E ad sp se al ta n pg) (r := (RX0, TX0, 3)) (m_X0_pages l E hj sp se al ta n pg u (by omega) (sp u) (rfl) (vl_wb (by omega) (hsp u (by omega) (by omega)).1)) (cwV 0 S.2.2.2.2 gX1_pagesOf_X0_pages rfl rfl rfl (by decide +kernel) ⟨Nat.le_of_ble_eq_true rfl, Nat.le_of_ble_eq_true rfl⟩) rfl rfl rfl rfl (Nat.le_of_ble_eq_true rfl) ⟨Nat.le_of_ble_eq_true rfl, Nat.le_of_ble_eq_true rfl⟩ (fun _ q => q.elim) (fun _ h => cw_o (i := u) h (by omega) (rfl)) (fun _ h => h) (fun _ _ _ h _ _ => h) dX1_pagesOf_10 ?_
  exact g_iret S xr xlk dX1_pagesOf_13 (fun _ h => h)
set_option maxHeartbeats 4000000 in
set_option maxRecDepth 100000 in
theorem m_X1_pagesOfX (l : Launch) (hlt : l.stackTraces = false) (E : EN) (bs : Nat) {ad : Int → Nat} (hj : INJ ad) (sp : Int → SpT) (se : Int → Int) (al : Int → Nat) (ta : Int → Int) (n pg : Int) (u : Int) (hh : u < 0 ∨ n ≤ u) (hr : -2147483648 ≤ u ∧ u ≤ 2147483647) (hn : 0 ≤ n ∧ n ≤ 24) : vx_Met l yX1_pagesOf wsX1_pagesOf ({ frames := 7, cells := 1, slots := 6, locals := 103 }) (CX E bs [.ref (ad 0), .int (iI u)] (CW E ad sp se al ta n pg)) QF (XW "java/lang/IndexOutOfBoundsException" (CW E ad sp se al ta n pg) (fun _ => False)) 1 6 (fun _ => False) := by
  refine g_metX (cc := cX1_pagesOf) (maxL := 2) (ret := (some .int)) (lv := [(0, .ref (ad 0)), (1, .int (iI u))]) (by decide) rfl (Nat.le_of_ble_eq_true rfl) rfl ?_
  intro xp xe xs xm xa xb xh xc S xK xX xlk xno
  refine g_aload_n S dX1_pagesOf_0 rfl 0 rfl ?_
  refine g_iload_n S dX1_pagesOf_1 rfl 1 rfl ?_
  exact g_callVX S xK xlk xno xX (As := [.int (iI u)]) (st := []) (r := (RX1, TX1, 9)) (m_X1_needHeadingX l hlt E bs hj sp se al ta n pg u (by omega) (by omega) hn) (cwV 1 S.2.2.2.2 gX1_pagesOf_X1_needHeading rfl rfl rfl (by decide +kernel) ⟨Nat.le_of_ble_eq_true rfl, Nat.le_of_ble_eq_true rfl⟩) rfl rfl rfl (Nat.le_of_ble_eq_true rfl) ⟨Nat.le_of_ble_eq_true rfl, Nat.le_of_ble_eq_true rfl, Nat.le_of_ble_eq_true rfl, Nat.le_of_ble_eq_true rfl⟩ (fun _ q => q.elim) (fun _ q => q.elim) (fun _ h => cw_x h) (fun _ h => h) (fun _ _ _ h _ _ => h) dX1_pagesOf_2
set_option maxHeartbeats 4000000 in
set_option maxRecDepth 100000 in
theorem m_X1_seeOf (l : Launch) (E : EN) {ad : Int → Nat} (hj : INJ ad) (sp : Int → SpT) (se : Int → Int) (al : Int → Nat) (ta : Int → Int) (n pg : Int) (u : Int) (hh : 0 ≤ u ∧ u < n) (hn : 0 ≤ n ∧ n ≤ 24) : Met l yX1_seeOf wsX1_seeOf ({ frames := 2, cells := 0, slots := 0, locals := 42 }) (CI E [.ref (ad 0), .int (iI u)] (CW E ad sp se al ta n pg)) (QW (some (.int (iI (se u)))) (CW E ad sp se al ta n pg) (fun _ => False)) 0 0 (fun _ => False) := by
  refine g_met (cc := cX1_seeOf) (maxL := 2) (ret := (some .int)) (lv := [(0, .ref (ad 0)), (1, .int (iI u))]) (by decide) rfl (Nat.le_of_ble_eq_true rfl) rfl ?_
  intro xp xe xs xm xa xb xh xc S xK xr xlk xin
  refine g_aload_n S dX1_seeOf_0 rfl 0 rfl ?_
  refine g_iload_n S dX1_seeOf_1 rfl 1 rfl ?_
  refine g_callV S xK (As := [.int (iI u)]) (st := []) (stk' := []) (Wp' := CW E ad sp se al ta n pg) (r := (RX1, TX1, 9)) (m_X1_needHeading l E hj sp se al ta n pg u (by omega) hn) (cwV 1 S.2.2.2.2 gX1_seeOf_X1_needHeading rfl rfl rfl (by decide +kernel) ⟨Nat.le_of_ble_eq_true rfl, Nat.le_of_ble_eq_true rfl⟩) rfl rfl rfl rfl (Nat.le_of_ble_eq_true rfl) ⟨Nat.le_of_ble_eq_true rfl, Nat.le_of_ble_eq_true rfl⟩ (fun _ q => q.elim) (fun _ h => cw_x h) (fun _ h => h) (fun _ _ _ h _ _ => h) dX1_seeOf_2 ?_
  refine g_aload_n S dX1_seeOf_5 rfl 0 rfl ?_
  refine g_iload_n S dX1_seeOf_6 rfl 1 rfl ?_
  refine g_callV S xK (As := [.int (iI u)]) (st := []) (stk' := [.int (iI (se u))]) (Wp' := CW E ad sp se al ta n pg) (r := (RX1, TX1, 9)) (m_X1_seeAt l E hj sp se al ta n pg u (by omega) hn) (cwV 1 S.2.2.2.2 gX1_seeOf_X1_seeAt rfl rfl rfl (by decide +kernel) ⟨Nat.le_of_ble_eq_true rfl, Nat.le_of_ble_eq_true rfl⟩) rfl rfl rfl rfl (Nat.le_of_ble_eq_true rfl) ⟨Nat.le_of_ble_eq_true rfl, Nat.le_of_ble_eq_true rfl⟩ (fun _ q => q.elim) (fun _ h => cw_x h) (fun _ h => h) (fun _ _ _ h _ _ => h) dX1_seeOf_7 ?_
  exact g_iret S xr xlk dX1_seeOf_10 (fun _ h => h)
set_option maxHeartbeats 4000000 in
set_option maxRecDepth 100000 in
theorem m_X1_seeOfX (l : Launch) (hlt : l.stackTraces = false) (E : EN) (bs : Nat) {ad : Int → Nat} (hj : INJ ad) (sp : Int → SpT) (se : Int → Int) (al : Int → Nat) (ta : Int → Int) (n pg : Int) (u : Int) (hh : u < 0 ∨ n ≤ u) (hr : -2147483648 ≤ u ∧ u ≤ 2147483647) (hn : 0 ≤ n ∧ n ≤ 24) : vx_Met l yX1_seeOf wsX1_seeOf ({ frames := 7, cells := 1, slots := 6, locals := 103 }) (CX E bs [.ref (ad 0), .int (iI u)] (CW E ad sp se al ta n pg)) QF (XW "java/lang/IndexOutOfBoundsException" (CW E ad sp se al ta n pg) (fun _ => False)) 1 6 (fun _ => False) := by
  refine g_metX (cc := cX1_seeOf) (maxL := 2) (ret := (some .int)) (lv := [(0, .ref (ad 0)), (1, .int (iI u))]) (by decide) rfl (Nat.le_of_ble_eq_true rfl) rfl ?_
  intro xp xe xs xm xa xb xh xc S xK xX xlk xno
  refine g_aload_n S dX1_seeOf_0 rfl 0 rfl ?_
  refine g_iload_n S dX1_seeOf_1 rfl 1 rfl ?_
  exact g_callVX S xK xlk xno xX (As := [.int (iI u)]) (st := []) (r := (RX1, TX1, 9)) (m_X1_needHeadingX l hlt E bs hj sp se al ta n pg u (by omega) (by omega) hn) (cwV 1 S.2.2.2.2 gX1_seeOf_X1_needHeading rfl rfl rfl (by decide +kernel) ⟨Nat.le_of_ble_eq_true rfl, Nat.le_of_ble_eq_true rfl⟩) rfl rfl rfl (Nat.le_of_ble_eq_true rfl) ⟨Nat.le_of_ble_eq_true rfl, Nat.le_of_ble_eq_true rfl, Nat.le_of_ble_eq_true rfl, Nat.le_of_ble_eq_true rfl⟩ (fun _ q => q.elim) (fun _ q => q.elim) (fun _ h => cw_x h) (fun _ h => h) (fun _ _ _ h _ _ => h) dX1_seeOf_2
set_option maxHeartbeats 4000000 in
set_option maxRecDepth 100000 in
theorem m_X1_seeAlsosOf (l : Launch) (E : EN) {ad : Int → Nat} (hj : INJ ad) (sp : Int → SpT) (se : Int → Int) (al : Int → Nat) (ta : Int → Int) (n pg : Int) (u : Int) (hh : 0 ≤ u ∧ u < n) (hn : 0 ≤ n ∧ n ≤ 24) (hgr : GR se al n) : Met l yX1_seeAlsosOf wsX1_seeAlsosOf ({ frames := 2, cells := 0, slots := 0, locals := 42 }) (CI E [.ref (ad 0), .int (iI u)] (CW E ad sp se al ta n pg)) (QW (some (.int (iI ((pop (al u) 24 : Nat) : Int)))) (CW E ad sp se al ta n pg) (fun _ => False)) 0 0 (fun _ => False) := by
  refine g_met (cc := cX1_seeAlsosOf) (maxL := 2) (ret := (some .int)) (lv := [(0, .ref (ad 0)), (1, .int (iI u))]) (by decide) rfl (Nat.le_of_ble_eq_true rfl) rfl ?_
  intro xp xe xs xm xa xb xh xc S xK xr xlk xin
  refine g_aload_n S dX1_seeAlsosOf_0 rfl 0 rfl ?_
  refine g_iload_n S dX1_seeAlsosOf_1 rfl 1 rfl ?_
  refine g_callV S xK (As := [.int (iI u)]) (st := []) (stk' := []) (Wp' := CW E ad sp se al ta n pg) (r := (RX1, TX1, 9)) (m_X1_needHeading l E hj sp se al ta n pg u (by omega) hn) (cwV 1 S.2.2.2.2 gX1_seeAlsosOf_X1_needHeading rfl rfl rfl (by decide +kernel) ⟨Nat.le_of_ble_eq_true rfl, Nat.le_of_ble_eq_true rfl⟩) rfl rfl rfl rfl (Nat.le_of_ble_eq_true rfl) ⟨Nat.le_of_ble_eq_true rfl, Nat.le_of_ble_eq_true rfl⟩ (fun _ q => q.elim) (fun _ h => cw_x h) (fun _ h => h) (fun _ _ _ h _ _ => h) dX1_seeAlsosOf_2 ?_
  refine g_aload_n S dX1_seeAlsosOf_5 rfl 0 rfl ?_
  refine g_iload_n S dX1_seeAlsosOf_6 rfl 1 rfl ?_
  refine g_callV S xK (As := [.int (iI u)]) (st := []) (stk' := [.int (iI ((pop (al u) 24 : Nat) : Int))]) (Wp' := CW E ad sp se al ta n pg) (r := (RX1, TX1, 9)) (m_X1_countSeeAlsos l E hj sp se al ta n pg u (by omega) hn hgr) (cwV 1 S.2.2.2.2 gX1_seeAlsosOf_X1_countSeeAlsos rfl rfl rfl (by decide +kernel) ⟨Nat.le_of_ble_eq_true rfl, Nat.le_of_ble_eq_true rfl⟩) rfl rfl rfl rfl (Nat.le_of_ble_eq_true rfl) ⟨Nat.le_of_ble_eq_true rfl, Nat.le_of_ble_eq_true rfl⟩ (fun _ q => q.elim) (fun _ h => cw_x h) (fun _ h => h) (fun _ _ _ h _ _ => h) dX1_seeAlsosOf_7 ?_
  exact g_iret S xr xlk dX1_seeAlsosOf_10 (fun _ h => h)
set_option maxHeartbeats 4000000 in
set_option maxRecDepth 100000 in
theorem m_X1_seeAlsosOfX (l : Launch) (hlt : l.stackTraces = false) (E : EN) (bs : Nat) {ad : Int → Nat} (hj : INJ ad) (sp : Int → SpT) (se : Int → Int) (al : Int → Nat) (ta : Int → Int) (n pg : Int) (u : Int) (hh : u < 0 ∨ n ≤ u) (hr : -2147483648 ≤ u ∧ u ≤ 2147483647) (hn : 0 ≤ n ∧ n ≤ 24) : vx_Met l yX1_seeAlsosOf wsX1_seeAlsosOf ({ frames := 7, cells := 1, slots := 6, locals := 103 }) (CX E bs [.ref (ad 0), .int (iI u)] (CW E ad sp se al ta n pg)) QF (XW "java/lang/IndexOutOfBoundsException" (CW E ad sp se al ta n pg) (fun _ => False)) 1 6 (fun _ => False) := by
  refine g_metX (cc := cX1_seeAlsosOf) (maxL := 2) (ret := (some .int)) (lv := [(0, .ref (ad 0)), (1, .int (iI u))]) (by decide) rfl (Nat.le_of_ble_eq_true rfl) rfl ?_
  intro xp xe xs xm xa xb xh xc S xK xX xlk xno
  refine g_aload_n S dX1_seeAlsosOf_0 rfl 0 rfl ?_
  refine g_iload_n S dX1_seeAlsosOf_1 rfl 1 rfl ?_
  exact g_callVX S xK xlk xno xX (As := [.int (iI u)]) (st := []) (r := (RX1, TX1, 9)) (m_X1_needHeadingX l hlt E bs hj sp se al ta n pg u (by omega) (by omega) hn) (cwV 1 S.2.2.2.2 gX1_seeAlsosOf_X1_needHeading rfl rfl rfl (by decide +kernel) ⟨Nat.le_of_ble_eq_true rfl, Nat.le_of_ble_eq_true rfl⟩) rfl rfl rfl (Nat.le_of_ble_eq_true rfl) ⟨Nat.le_of_ble_eq_true rfl, Nat.le_of_ble_eq_true rfl, Nat.le_of_ble_eq_true rfl, Nat.le_of_ble_eq_true rfl⟩ (fun _ q => q.elim) (fun _ q => q.elim) (fun _ h => cw_x h) (fun _ h => h) (fun _ _ _ h _ _ => h) dX1_seeAlsosOf_2
set_option maxHeartbeats 4000000 in
set_option maxRecDepth 100000 in
theorem m_X1_leadsTo (l : Launch) (E : EN) {ad : Int → Nat} (hj : INJ ad) (sp : Int → SpT) (se : Int → Int) (al : Int → Nat) (ta : Int → Int) (n pg : Int) (u : Int) (hh : 0 ≤ u ∧ u < n) (hn : 0 ≤ n ∧ n ≤ 24) (hgr : GR se al n) : Met l yX1_leadsTo wsX1_leadsTo ({ frames := 3, cells := 0, slots := 0, locals := 66 }) (CI E [.ref (ad 0), .int (iI u)] (CW E ad sp se al ta n pg)) (QW (some (.int (iI (eS se n.toNat u)))) (CW E ad sp se al ta n pg) (fun _ => False)) 0 0 (fun _ => False) := by
  refine g_met (cc := cX1_leadsTo) (maxL := 2) (ret := (some .int)) (lv := [(0, .ref (ad 0)), (1, .int (iI u))]) (by decide) rfl (Nat.le_of_ble_eq_true rfl) rfl ?_
  intro xp xe xs xm xa xb xh xc S xK xr xlk xin
  refine g_aload_n S dX1_leadsTo_0 rfl 0 rfl ?_
  refine g_iload_n S dX1_leadsTo_1 rfl 1 rfl ?_
  refine g_callV S xK (As := [.int (iI u)]) (st := []) (stk' := []) (Wp' := CW E ad sp se al ta n pg) (r := (RX1, TX1, 9)) (m_X1_needHeading l E hj sp se al ta n pg u (by omega) hn) (cwV 1 S.2.2.2.2 gX1_leadsTo_X1_needHeading rfl rfl rfl (by decide +kernel) ⟨Nat.le_of_ble_eq_true rfl, Nat.le_of_ble_eq_true rfl⟩) rfl rfl rfl rfl (Nat.le_of_ble_eq_true rfl) ⟨Nat.le_of_ble_eq_true rfl, Nat.le_of_ble_eq_true rfl⟩ (fun _ q => q.elim) (fun _ h => cw_x h) (fun _ h => h) (fun _ _ _ h _ _ => h) dX1_leadsTo_2 ?_
  refine g_aload_n S dX1_leadsTo_5 rfl 0 rfl ?_
  refine g_iload_n S dX1_leadsTo_6 rfl 1 rfl ?_
  refine g_callV S xK (As := [.int (iI u)]) (st := []) (stk' := [.int (iI (eS se n.toNat u))]) (Wp' := CW E ad sp se al ta n pg) (r := (RX1, TX1, 9)) (m_X1_endOfSees l E hj sp se al ta n pg u (by omega) hn hgr) (cwV 1 S.2.2.2.2 gX1_leadsTo_X1_endOfSees rfl rfl rfl (by decide +kernel) ⟨Nat.le_of_ble_eq_true rfl, Nat.le_of_ble_eq_true rfl⟩) rfl rfl rfl rfl (Nat.le_of_ble_eq_true rfl) ⟨Nat.le_of_ble_eq_true rfl, Nat.le_of_ble_eq_true rfl⟩ (fun _ q => q.elim) (fun _ h => cw_x h) (fun _ h => h) (fun _ _ _ h _ _ => h) dX1_leadsTo_7 ?_
  exact g_iret S xr xlk dX1_leadsTo_10 (fun _ h => h)
set_option maxHeartbeats 4000000 in
set_option maxRecDepth 100000 in
theorem m_X1_leadsToX (l : Launch) (hlt : l.stackTraces = false) (E : EN) (bs : Nat) {ad : Int → Nat} (hj : INJ ad) (sp : Int → SpT) (se : Int → Int) (al : Int → Nat) (ta : Int → Int) (n pg : Int) (u : Int) (hh : u < 0 ∨ n ≤ u) (hr : -2147483648 ≤ u ∧ u ≤ 2147483647) (hn : 0 ≤ n ∧ n ≤ 24) : vx_Met l yX1_leadsTo wsX1_leadsTo ({ frames := 7, cells := 1, slots := 6, locals := 103 }) (CX E bs [.ref (ad 0), .int (iI u)] (CW E ad sp se al ta n pg)) QF (XW "java/lang/IndexOutOfBoundsException" (CW E ad sp se al ta n pg) (fun _ => False)) 1 6 (fun _ => False) := by
  refine g_metX (cc := cX1_leadsTo) (maxL := 2) (ret := (some .int)) (lv := [(0, .ref (ad 0)), (1, .int (iI u))]) (by decide) rfl (Nat.le_of_ble_eq_true rfl) rfl ?_
  intro xp xe xs xm xa xb xh xc S xK xX xlk xno
  refine g_aload_n S dX1_leadsTo_0 rfl 0 rfl ?_
  refine g_iload_n S dX1_leadsTo_1 rfl 1 rfl ?_
  exact g_callVX S xK xlk xno xX (As := [.int (iI u)]) (st := []) (r := (RX1, TX1, 9)) (m_X1_needHeadingX l hlt E bs hj sp se al ta n pg u (by omega) (by omega) hn) (cwV 1 S.2.2.2.2 gX1_leadsTo_X1_needHeading rfl rfl rfl (by decide +kernel) ⟨Nat.le_of_ble_eq_true rfl, Nat.le_of_ble_eq_true rfl⟩) rfl rfl rfl (Nat.le_of_ble_eq_true rfl) ⟨Nat.le_of_ble_eq_true rfl, Nat.le_of_ble_eq_true rfl, Nat.le_of_ble_eq_true rfl, Nat.le_of_ble_eq_true rfl⟩ (fun _ q => q.elim) (fun _ q => q.elim) (fun _ h => cw_x h) (fun _ h => h) (fun _ _ _ h _ _ => h) dX1_leadsTo_2
set_option maxHeartbeats 4000000 in
set_option maxRecDepth 100000 in
theorem m_X1_reachOf (l : Launch) (E : EN) {ad : Int → Nat} (hj : INJ ad) (sp : Int → SpT) (se : Int → Int) (al : Int → Nat) (ta : Int → Int) (n pg : Int) (u : Int) (hh : 0 ≤ u ∧ u < n) (hn : 0 ≤ n ∧ n ≤ 24) (hgr : GR se al n) : Met l yX1_reachOf wsX1_reachOf ({ frames := 4, cells := 0, slots := 0, locals := 88 }) (CI E [.ref (ad 0), .int (iI u)] (CW E ad sp se al ta n pg)) (QW (some (.int (iI (RCH se al n u)))) (CW E ad sp se al ta n pg) (fun _ => False)) 0 0 (fun _ => False) := by
  refine g_met (cc := cX1_reachOf) (maxL := 2) (ret := (some .int)) (lv := [(0, .ref (ad 0)), (1, .int (iI u))]) (by decide) rfl (Nat.le_of_ble_eq_true rfl) rfl ?_
  intro xp xe xs xm xa xb xh xc S xK xr xlk xin
  refine g_aload_n S dX1_reachOf_0 rfl 0 rfl ?_
  refine g_iload_n S dX1_reachOf_1 rfl 1 rfl ?_
  refine g_callV S xK (As := [.int (iI u)]) (st := []) (stk' := []) (Wp' := CW E ad sp se al ta n pg) (r := (RX1, TX1, 9)) (m_X1_needHeading l E hj sp se al ta n pg u (by omega) hn) (cwV 1 S.2.2.2.2 gX1_reachOf_X1_needHeading rfl rfl rfl (by decide +kernel) ⟨Nat.le_of_ble_eq_true rfl, Nat.le_of_ble_eq_true rfl⟩) rfl rfl rfl rfl (Nat.le_of_ble_eq_true rfl) ⟨Nat.le_of_ble_eq_true rfl, Nat.le_of_ble_eq_true rfl⟩ (fun _ q => q.elim) (fun _ h => cw_x h) (fun _ h => h) (fun _ _ _ h _ _ => h) dX1_reachOf_2 ?_
  refine g_aload_n S dX1_reachOf_5 rfl 0 rfl ?_
  refine g_iload_n S dX1_reachOf_6 rfl 1 rfl ?_
  refine g_callV S xK (As := [.int (iI u)]) (st := []) (stk' := [.int (iI ((pop (itS se al n 24 (2 ^ u.toNat)) 24 : Nat) : Int))]) (Wp' := CW E ad sp se al ta n pg) (r := (RX1, TX1, 9)) (m_X1_countReached l E hj sp se al ta n pg u (by omega) hn hgr) (cwV 1 S.2.2.2.2 gX1_reachOf_X1_countReached rfl rfl rfl (by decide +kernel) ⟨Nat.le_of_ble_eq_true rfl, Nat.le_of_ble_eq_true rfl⟩) rfl rfl rfl rfl (Nat.le_of_ble_eq_true rfl) ⟨Nat.le_of_ble_eq_true rfl, Nat.le_of_ble_eq_true rfl⟩ (fun _ q => q.elim) (fun _ h => cw_x h) (fun _ h => h) (fun _ _ _ h _ _ => h) dX1_reachOf_7 ?_
  exact g_iret S xr xlk dX1_reachOf_10 (fun _ h => h)
set_option maxHeartbeats 4000000 in
set_option maxRecDepth 100000 in
theorem m_X1_reachOfX (l : Launch) (hlt : l.stackTraces = false) (E : EN) (bs : Nat) {ad : Int → Nat} (hj : INJ ad) (sp : Int → SpT) (se : Int → Int) (al : Int → Nat) (ta : Int → Int) (n pg : Int) (u : Int) (hh : u < 0 ∨ n ≤ u) (hr : -2147483648 ≤ u ∧ u ≤ 2147483647) (hn : 0 ≤ n ∧ n ≤ 24) : vx_Met l yX1_reachOf wsX1_reachOf ({ frames := 7, cells := 1, slots := 6, locals := 103 }) (CX E bs [.ref (ad 0), .int (iI u)] (CW E ad sp se al ta n pg)) QF (XW "java/lang/IndexOutOfBoundsException" (CW E ad sp se al ta n pg) (fun _ => False)) 1 6 (fun _ => False) := by
  refine g_metX (cc := cX1_reachOf) (maxL := 2) (ret := (some .int)) (lv := [(0, .ref (ad 0)), (1, .int (iI u))]) (by decide) rfl (Nat.le_of_ble_eq_true rfl) rfl ?_
  intro xp xe xs xm xa xb xh xc S xK xX xlk xno
  refine g_aload_n S dX1_reachOf_0 rfl 0 rfl ?_
  refine g_iload_n S dX1_reachOf_1 rfl 1 rfl ?_
  exact g_callVX S xK xlk xno xX (As := [.int (iI u)]) (st := []) (r := (RX1, TX1, 9)) (m_X1_needHeadingX l hlt E bs hj sp se al ta n pg u (by omega) (by omega) hn) (cwV 1 S.2.2.2.2 gX1_reachOf_X1_needHeading rfl rfl rfl (by decide +kernel) ⟨Nat.le_of_ble_eq_true rfl, Nat.le_of_ble_eq_true rfl⟩) rfl rfl rfl (Nat.le_of_ble_eq_true rfl) ⟨Nat.le_of_ble_eq_true rfl, Nat.le_of_ble_eq_true rfl, Nat.le_of_ble_eq_true rfl, Nat.le_of_ble_eq_true rfl⟩ (fun _ q => q.elim) (fun _ q => q.elim) (fun _ h => cw_x h) (fun _ h => h) (fun _ _ _ h _ _ => h) dX1_reachOf_2
set_option maxHeartbeats 4000000 in
set_option maxRecDepth 100000 in
theorem m_X1_isInRing (l : Launch) (E : EN) {ad : Int → Nat} (hj : INJ ad) (sp : Int → SpT) (se : Int → Int) (al : Int → Nat) (ta : Int → Int) (n pg : Int) (u : Int) (hh : 0 ≤ u ∧ u < n) (hn : 0 ≤ n ∧ n ≤ 24) (hgr : GR se al n) : Met l yX1_isInRing wsX1_isInRing ({ frames := 4, cells := 0, slots := 0, locals := 89 }) (CI E [.ref (ad 0), .int (iI u)] (CW E ad sp se al ta n pg)) (QW (some (.int (iI (pI (RNG se al n u))))) (CW E ad sp se al ta n pg) (fun _ => False)) 0 0 (fun _ => False) := by
  refine g_met (cc := cX1_isInRing) (maxL := 2) (ret := (some .boolean)) (lv := [(0, .ref (ad 0)), (1, .int (iI u))]) (by decide) rfl (Nat.le_of_ble_eq_true rfl) rfl ?_
  intro xp xe xs xm xa xb xh xc S xK xr xlk xin
  refine g_aload_n S dX1_isInRing_0 rfl 0 rfl ?_
  refine g_iload_n S dX1_isInRing_1 rfl 1 rfl ?_
  refine g_callV S xK (As := [.int (iI u)]) (st := []) (stk' := []) (Wp' := CW E ad sp se al ta n pg) (r := (RX1, TX1, 9)) (m_X1_needHeading l E hj sp se al ta n pg u (by omega) hn) (cwV 1 S.2.2.2.2 gX1_isInRing_X1_needHeading rfl rfl rfl (by decide +kernel) ⟨Nat.le_of_ble_eq_true rfl, Nat.le_of_ble_eq_true rfl⟩) rfl rfl rfl rfl (Nat.le_of_ble_eq_true rfl) ⟨Nat.le_of_ble_eq_true rfl, Nat.le_of_ble_eq_true rfl⟩ (fun _ q => q.elim) (fun _ h => cw_x h) (fun _ h => h) (fun _ _ _ h _ _ => h) dX1_isInRing_2 ?_
  refine g_aload_n S dX1_isInRing_5 rfl 0 rfl ?_
  refine g_iload_n S dX1_isInRing_6 rfl 1 rfl ?_
  refine g_callV S xK (As := [.int (iI u)]) (st := []) (stk' := [.int (iI (pI ((itS se al n 24 (stS se al (2 ^ u.toNat) n.toNat)).testBit u.toNat = true)))]) (Wp' := CW E ad sp se al ta n pg) (r := (RX1, TX1, 9)) (m_X1_comesBack l E hj sp se al ta n pg u (by omega) hn hgr) (cwV 1 S.2.2.2.2 gX1_isInRing_X1_comesBack rfl rfl rfl (by decide +kernel) ⟨Nat.le_of_ble_eq_true rfl, Nat.le_of_ble_eq_true rfl⟩) rfl rfl rfl rfl (Nat.le_of_ble_eq_true rfl) ⟨Nat.le_of_ble_eq_true rfl, Nat.le_of_ble_eq_true rfl⟩ (fun _ q => q.elim) (fun _ h => cw_x h) (fun _ h => h) (fun _ _ _ h _ _ => h) dX1_isInRing_7 ?_
  exact g_zret S xr xlk (pI_01 _) dX1_isInRing_10 (fun _ h => h)
set_option maxHeartbeats 4000000 in
set_option maxRecDepth 100000 in
theorem m_X1_isInRingX (l : Launch) (hlt : l.stackTraces = false) (E : EN) (bs : Nat) {ad : Int → Nat} (hj : INJ ad) (sp : Int → SpT) (se : Int → Int) (al : Int → Nat) (ta : Int → Int) (n pg : Int) (u : Int) (hh : u < 0 ∨ n ≤ u) (hr : -2147483648 ≤ u ∧ u ≤ 2147483647) (hn : 0 ≤ n ∧ n ≤ 24) : vx_Met l yX1_isInRing wsX1_isInRing ({ frames := 7, cells := 1, slots := 6, locals := 103 }) (CX E bs [.ref (ad 0), .int (iI u)] (CW E ad sp se al ta n pg)) QF (XW "java/lang/IndexOutOfBoundsException" (CW E ad sp se al ta n pg) (fun _ => False)) 1 6 (fun _ => False) := by
  refine g_metX (cc := cX1_isInRing) (maxL := 2) (ret := (some .boolean)) (lv := [(0, .ref (ad 0)), (1, .int (iI u))]) (by decide) rfl (Nat.le_of_ble_eq_true rfl) rfl ?_
  intro xp xe xs xm xa xb xh xc S xK xX xlk xno
  refine g_aload_n S dX1_isInRing_0 rfl 0 rfl ?_
  refine g_iload_n S dX1_isInRing_1 rfl 1 rfl ?_
  exact g_callVX S xK xlk xno xX (As := [.int (iI u)]) (st := []) (r := (RX1, TX1, 9)) (m_X1_needHeadingX l hlt E bs hj sp se al ta n pg u (by omega) (by omega) hn) (cwV 1 S.2.2.2.2 gX1_isInRing_X1_needHeading rfl rfl rfl (by decide +kernel) ⟨Nat.le_of_ble_eq_true rfl, Nat.le_of_ble_eq_true rfl⟩) rfl rfl rfl (Nat.le_of_ble_eq_true rfl) ⟨Nat.le_of_ble_eq_true rfl, Nat.le_of_ble_eq_true rfl, Nat.le_of_ble_eq_true rfl, Nat.le_of_ble_eq_true rfl⟩ (fun _ q => q.elim) (fun _ q => q.elim) (fun _ h => cw_x h) (fun _ h => h) (fun _ _ _ h _ _ => h) dX1_isInRing_2
set_option maxHeartbeats 4000000 in
set_option maxRecDepth 100000 in
theorem m_X1_nearest (l : Launch) (E : EN) {ad : Int → Nat} (hj : INJ ad) (sp : Int → SpT) (se : Int → Int) (al : Int → Nat) (ta : Int → Int) (n pg : Int) (u : Int) (hh : 0 ≤ u ∧ u < n) (hn : 0 ≤ n ∧ n ≤ 24) (hpg : 1 ≤ pg ∧ pg ≤ 300) (hsp : SPV sp n pg) : Met l yX1_nearest wsX1_nearest ({ frames := 3, cells := 0, slots := 0, locals := 68 }) (CI E [.ref (ad 0), .int (iI u)] (CW E ad sp se al ta n pg)) (QW (some (.int (iI (NEAR sp n u)))) (CW E ad sp se al ta n pg) (fun _ => False)) 0 0 (fun _ => False) := by
  refine g_met (cc := cX1_nearest) (maxL := 2) (ret := (some .int)) (lv := [(0, .ref (ad 0)), (1, .int (iI u))]) (by decide) rfl (Nat.le_of_ble_eq_true rfl) rfl ?_
  intro xp xe xs xm xa xb xh xc S xK xr xlk xin
  refine g_aload_n S dX1_nearest_0 rfl 0 rfl ?_
  refine g_iload_n S dX1_nearest_1 rfl 1 rfl ?_
  refine g_callV S xK (As := [.int (iI u)]) (st := []) (stk' := []) (Wp' := CW E ad sp se al ta n pg) (r := (RX1, TX1, 9)) (m_X1_needHeading l E hj sp se al ta n pg u (by omega) hn) (cwV 1 S.2.2.2.2 gX1_nearest_X1_needHeading rfl rfl rfl (by decide +kernel) ⟨Nat.le_of_ble_eq_true rfl, Nat.le_of_ble_eq_true rfl⟩) rfl rfl rfl rfl (Nat.le_of_ble_eq_true rfl) ⟨Nat.le_of_ble_eq_true rfl, Nat.le_of_ble_eq_true rfl⟩ (fun _ q => q.elim) (fun _ h => cw_x h) (fun _ h => h) (fun _ _ _ h _ _ => h) dX1_nearest_2 ?_
  refine g_aload_n S dX1_nearest_5 rfl 0 rfl ?_
  refine g_iload_n S dX1_nearest_6 rfl 1 rfl ?_
  refine g_callV S xK (As := [.int (iI u)]) (st := []) (stk' := [.int (iI ((nrS (fun o => if o = u then 0 else pic (sp u) (sp o) ((sp u).1 + (sp o).1).toNat 0 0 0) n.toNat).1))]) (Wp' := CW E ad sp se al ta n pg) (r := (RX1, TX1, 9)) (m_X1_nearestOther l E hj sp se al ta n pg u (by omega) hn hpg hsp) (cwV 1 S.2.2.2.2 gX1_nearest_X1_nearestOther rfl rfl rfl (by decide +kernel) ⟨Nat.le_of_ble_eq_true rfl, Nat.le_of_ble_eq_true rfl⟩) rfl rfl rfl rfl (Nat.le_of_ble_eq_true rfl) ⟨Nat.le_of_ble_eq_true rfl, Nat.le_of_ble_eq_true rfl⟩ (fun _ q => q.elim) (fun _ h => cw_x h) (fun _ h => h) (fun _ _ _ h _ _ => h) dX1_nearest_7 ?_
  exact g_iret S xr xlk dX1_nearest_10 (fun _ h => h)
set_option maxHeartbeats 4000000 in
set_option maxRecDepth 100000 in
theorem m_X1_nearestX (l : Launch) (hlt : l.stackTraces = false) (E : EN) (bs : Nat) {ad : Int → Nat} (hj : INJ ad) (sp : Int → SpT) (se : Int → Int) (al : Int → Nat) (ta : Int → Int) (n pg : Int) (u : Int) (hh : u < 0 ∨ n ≤ u) (hr : -2147483648 ≤ u ∧ u ≤ 2147483647) (hn : 0 ≤ n ∧ n ≤ 24) : vx_Met l yX1_nearest wsX1_nearest ({ frames := 7, cells := 1, slots := 6, locals := 103 }) (CX E bs [.ref (ad 0), .int (iI u)] (CW E ad sp se al ta n pg)) QF (XW "java/lang/IndexOutOfBoundsException" (CW E ad sp se al ta n pg) (fun _ => False)) 1 6 (fun _ => False) := by
  refine g_metX (cc := cX1_nearest) (maxL := 2) (ret := (some .int)) (lv := [(0, .ref (ad 0)), (1, .int (iI u))]) (by decide) rfl (Nat.le_of_ble_eq_true rfl) rfl ?_
  intro xp xe xs xm xa xb xh xc S xK xX xlk xno
  refine g_aload_n S dX1_nearest_0 rfl 0 rfl ?_
  refine g_iload_n S dX1_nearest_1 rfl 1 rfl ?_
  exact g_callVX S xK xlk xno xX (As := [.int (iI u)]) (st := []) (r := (RX1, TX1, 9)) (m_X1_needHeadingX l hlt E bs hj sp se al ta n pg u (by omega) (by omega) hn) (cwV 1 S.2.2.2.2 gX1_nearest_X1_needHeading rfl rfl rfl (by decide +kernel) ⟨Nat.le_of_ble_eq_true rfl, Nat.le_of_ble_eq_true rfl⟩) rfl rfl rfl (Nat.le_of_ble_eq_true rfl) ⟨Nat.le_of_ble_eq_true rfl, Nat.le_of_ble_eq_true rfl, Nat.le_of_ble_eq_true rfl, Nat.le_of_ble_eq_true rfl⟩ (fun _ q => q.elim) (fun _ q => q.elim) (fun _ h => cw_x h) (fun _ h => h) (fun _ _ _ h _ _ => h) dX1_nearest_2
set_option maxHeartbeats 4000000 in
set_option maxRecDepth 100000 in
theorem m_X1_startOf (l : Launch) (E : EN) {ad : Int → Nat} (hj : INJ ad) (sp : Int → SpT) (se : Int → Int) (al : Int → Nat) (ta : Int → Int) (n pg : Int) (u k : Int) (hh : 0 ≤ u ∧ u < n) (hn : 0 ≤ n ∧ n ≤ 24) (hpg : 1 ≤ pg ∧ pg ≤ 300) (hsp : SPV sp n pg) (hk : 0 ≤ k ∧ k < (sp u).1) : Met l yX1_startOf wsX1_startOf ({ frames := 3, cells := 0, slots := 0, locals := 65 }) (CI E [.ref (ad 0), .int (iI u), .int (iI k)] (CW E ad sp se al ta n pg)) (QW (some (.int (iI ((sp u).2.1 k)))) (CW E ad sp se al ta n pg) (fun _ => False)) 0 0 (fun _ => False) := by
  refine g_met (cc := cX1_startOf) (maxL := 3) (ret := (some .int)) (lv := [(0, .ref (ad 0)), (1, .int (iI u)), (2, .int (iI k))]) (by decide) rfl (Nat.le_of_ble_eq_true rfl) rfl ?_
  intro xp xe xs xm xa xb xh xc S xK xr xlk xin
  have v9 := (hsp u (by omega) (by omega)).2
  refine g_aload_n S dX1_startOf_0 rfl 0 rfl ?_
  refine g_iload_n S dX1_startOf_1 rfl 1 rfl ?_
  refine g_callV S xK (As := [.int (iI u)]) (st := []) (stk' := []) (Wp' := CW E ad sp se al ta n pg) (r := (RX1, TX1, 9)) (m_X1_needHeading l E hj sp se al ta n pg u (by omega) hn) (cwV 1 S.2.2.2.2 gX1_startOf_X1_needHeading rfl rfl rfl (by decide +kernel) ⟨Nat.le_of_ble_eq_true rfl, Nat.le_of_ble_eq_true rfl⟩) rfl rfl rfl rfl (Nat.le_of_ble_eq_true rfl) ⟨Nat.le_of_ble_eq_true rfl, Nat.le_of_ble_eq_true rfl⟩ (fun _ q => q.elim) (fun _ h => cw_x h) (fun _ h => h) (fun _ _ _ h _ _ => h) dX1_startOf_2 ?_
  refine g_aload_n S dX1_startOf_5 rfl 0 rfl ?_
  refine g_iload_n S dX1_startOf_6 rfl 1 rfl ?_
  refine g_iload_n S dX1_startOf_7 rfl 2 rfl ?_
  refine g_callV S xK (As := [.int (iI u), .int (iI k)]) (st := []) (stk' := []) (Wp' := CW E ad sp se al ta n pg) (r := (RX1, TX1, 9)) (m_X1_needSpan l E hj sp se al ta n pg u k (by omega) hn hsp (by omega)) (cwV 2 S.2.2.2.2 gX1_startOf_X1_needSpan rfl rfl rfl (by decide +kernel) ⟨Nat.le_of_ble_eq_true rfl, Nat.le_of_ble_eq_true rfl⟩) rfl rfl rfl rfl (Nat.le_of_ble_eq_true rfl) ⟨Nat.le_of_ble_eq_true rfl, Nat.le_of_ble_eq_true rfl⟩ (fun _ q => q.elim) (fun _ h => cw_x h) (fun _ h => h) (fun _ _ _ h _ _ => h) dX1_startOf_8 ?_
  refine g_aload_n S dX1_startOf_11 rfl 0 rfl ?_
  refine g_iload_n S dX1_startOf_12 rfl 1 rfl ?_
  refine g_callV S xK (As := [.int (iI u)]) (st := []) (stk' := [.ref (ad (5 + 3 * u))]) (Wp' := CW E ad sp se al ta n pg) (r := (RX1, TX1, 9)) (m_X1_spansAt l E hj sp se al ta n pg u (by omega) hn) (cwV 1 S.2.2.2.2 gX1_startOf_X1_spansAt rfl rfl rfl (by decide +kernel) ⟨Nat.le_of_ble_eq_true rfl, Nat.le_of_ble_eq_true rfl⟩) rfl rfl rfl rfl (Nat.le_of_ble_eq_true rfl) ⟨Nat.le_of_ble_eq_true rfl, Nat.le_of_ble_eq_true rfl⟩ (fun _ q => q.elim) (fun _ h => cw_x h) (fun _ h => h) (fun _ _ _ h _ _ => h) dX1_startOf_13 ?_
  refine g_iload_n S dX1_startOf_16 rfl 2 rfl ?_
  refine g_callV S xK (As := [.int (iI k)]) (st := []) (stk' := [.int (iI (spF (sp u) k))]) (Wp' := CW E ad sp se al ta n pg) (r := (RX0, TX0, 3)) (m_X0_first l E hj sp se al ta n pg u (by omega) (sp u) (rfl) k (vl_wb (by omega) (hsp u (by omega) (by omega)).1) (by omega)) (cwV 1 S.2.2.2.2 gX1_startOf_X0_first rfl rfl rfl (by decide +kernel) ⟨Nat.le_of_ble_eq_true rfl, Nat.le_of_ble_eq_true rfl⟩) rfl rfl rfl rfl (Nat.le_of_ble_eq_true rfl) ⟨Nat.le_of_ble_eq_true rfl, Nat.le_of_ble_eq_true rfl⟩ (fun _ q => q.elim) (fun _ h => cw_o (i := u) h (by omega) (rfl)) (fun _ h => h) (fun _ _ _ h _ _ => h) dX1_startOf_17 ?_
  rw [show ((sp u).2.1 k) = (spF (sp u) k) from (if_pos (by omega)).symm]
  exact g_iret S xr xlk dX1_startOf_20 (fun _ h => h)
set_option maxHeartbeats 4000000 in
set_option maxRecDepth 100000 in
theorem m_X1_startOfX (l : Launch) (hlt : l.stackTraces = false) (E : EN) (bs : Nat) {ad : Int → Nat} (hj : INJ ad) (sp : Int → SpT) (se : Int → Int) (al : Int → Nat) (ta : Int → Int) (n pg : Int) (u k : Int) (hh : u < 0 ∨ n ≤ u) (hr : -2147483648 ≤ u ∧ u ≤ 2147483647 ∧ -2147483648 ≤ k ∧ k ≤ 2147483647) (hn : 0 ≤ n ∧ n ≤ 24) : vx_Met l yX1_startOf wsX1_startOf ({ frames := 7, cells := 1, slots := 6, locals := 103 }) (CX E bs [.ref (ad 0), .int (iI u), .int (iI k)] (CW E ad sp se al ta n pg)) QF (XW "java/lang/IndexOutOfBoundsException" (CW E ad sp se al ta n pg) (fun _ => False)) 1 6 (fun _ => False) := by
  refine g_metX (cc := cX1_startOf) (maxL := 3) (ret := (some .int)) (lv := [(0, .ref (ad 0)), (1, .int (iI u)), (2, .int (iI k))]) (by decide) rfl (Nat.le_of_ble_eq_true rfl) rfl ?_
  intro xp xe xs xm xa xb xh xc S xK xX xlk xno
  refine g_aload_n S dX1_startOf_0 rfl 0 rfl ?_
  refine g_iload_n S dX1_startOf_1 rfl 1 rfl ?_
  exact g_callVX S xK xlk xno xX (As := [.int (iI u)]) (st := []) (r := (RX1, TX1, 9)) (m_X1_needHeadingX l hlt E bs hj sp se al ta n pg u (by omega) (by omega) hn) (cwV 1 S.2.2.2.2 gX1_startOf_X1_needHeading rfl rfl rfl (by decide +kernel) ⟨Nat.le_of_ble_eq_true rfl, Nat.le_of_ble_eq_true rfl⟩) rfl rfl rfl (Nat.le_of_ble_eq_true rfl) ⟨Nat.le_of_ble_eq_true rfl, Nat.le_of_ble_eq_true rfl, Nat.le_of_ble_eq_true rfl, Nat.le_of_ble_eq_true rfl⟩ (fun _ q => q.elim) (fun _ q => q.elim) (fun _ h => cw_x h) (fun _ h => h) (fun _ _ _ h _ _ => h) dX1_startOf_2
set_option maxHeartbeats 4000000 in
set_option maxRecDepth 100000 in
theorem m_X1_startOfY (l : Launch) (hlt : l.stackTraces = false) (E : EN) (bs : Nat) {ad : Int → Nat} (hj : INJ ad) (sp : Int → SpT) (se : Int → Int) (al : Int → Nat) (ta : Int → Int) (n pg : Int) (u k : Int) (hh : 0 ≤ u ∧ u < n) (hn : 0 ≤ n ∧ n ≤ 24) (hsp : SPV sp n pg) (hk : k < 0 ∨ (sp u).1 ≤ k) (hr : -2147483648 ≤ k ∧ k ≤ 2147483647) : vx_Met l yX1_startOf wsX1_startOf ({ frames := 7, cells := 1, slots := 6, locals := 104 }) (CX E bs [.ref (ad 0), .int (iI u), .int (iI k)] (CW E ad sp se al ta n pg)) QF (XW "java/lang/IndexOutOfBoundsException" (CW E ad sp se al ta n pg) (fun _ => False)) 1 6 (fun _ => False) := by
  refine g_metX (cc := cX1_startOf) (maxL := 3) (ret := (some .int)) (lv := [(0, .ref (ad 0)), (1, .int (iI u)), (2, .int (iI k))]) (by decide) rfl (Nat.le_of_ble_eq_true rfl) rfl ?_
  intro xp xe xs xm xa xb xh xc S xK xX xlk xno
  refine g_aload_n S dX1_startOf_0 rfl 0 rfl ?_
  refine g_iload_n S dX1_startOf_1 rfl 1 rfl ?_
  refine g_callV S xK (As := [.int (iI u)]) (st := []) (stk' := []) (Wp' := CW E ad sp se al ta n pg) (r := (RX1, TX1, 9)) (m_X1_needHeading l E hj sp se al ta n pg u (by omega) hn) (cwV 1 S.2.2.2.2 gX1_startOf_X1_needHeading rfl rfl rfl (by decide +kernel) ⟨Nat.le_of_ble_eq_true rfl, Nat.le_of_ble_eq_true rfl⟩) rfl rfl rfl rfl (Nat.le_of_ble_eq_true rfl) ⟨Nat.le_of_ble_eq_true rfl, Nat.le_of_ble_eq_true rfl⟩ (fun _ q => q.elim) (fun _ h => cw_x h) (fun _ h => h) (fun _ _ _ h _ _ => h) dX1_startOf_2 ?_
  refine g_aload_n S dX1_startOf_5 rfl 0 rfl ?_
  refine g_iload_n S dX1_startOf_6 rfl 1 rfl ?_
  refine g_iload_n S dX1_startOf_7 rfl 2 rfl ?_
  exact g_callVX S xK xlk xno xX (As := [.int (iI u), .int (iI k)]) (st := []) (r := (RX1, TX1, 9)) (m_X1_needSpanX l hlt E bs hj sp se al ta n pg u k (by omega) hn hsp (by omega) (by omega)) (cwV 2 S.2.2.2.2 gX1_startOf_X1_needSpan rfl rfl rfl (by decide +kernel) ⟨Nat.le_of_ble_eq_true rfl, Nat.le_of_ble_eq_true rfl⟩) rfl rfl rfl (Nat.le_of_ble_eq_true rfl) ⟨Nat.le_of_ble_eq_true rfl, Nat.le_of_ble_eq_true rfl, Nat.le_of_ble_eq_true rfl, Nat.le_of_ble_eq_true rfl⟩ (fun _ q => q.elim) (fun _ q => q.elim) (fun _ h => cw_x h) (fun _ h => h) (fun _ _ _ h _ _ => h) dX1_startOf_8
set_option maxHeartbeats 4000000 in
set_option maxRecDepth 100000 in
theorem m_X1_endOf (l : Launch) (E : EN) {ad : Int → Nat} (hj : INJ ad) (sp : Int → SpT) (se : Int → Int) (al : Int → Nat) (ta : Int → Int) (n pg : Int) (u k : Int) (hh : 0 ≤ u ∧ u < n) (hn : 0 ≤ n ∧ n ≤ 24) (hpg : 1 ≤ pg ∧ pg ≤ 300) (hsp : SPV sp n pg) (hk : 0 ≤ k ∧ k < (sp u).1) : Met l yX1_endOf wsX1_endOf ({ frames := 3, cells := 0, slots := 0, locals := 65 }) (CI E [.ref (ad 0), .int (iI u), .int (iI k)] (CW E ad sp se al ta n pg)) (QW (some (.int (iI ((sp u).2.2 k)))) (CW E ad sp se al ta n pg) (fun _ => False)) 0 0 (fun _ => False) := by
  refine g_met (cc := cX1_endOf) (maxL := 3) (ret := (some .int)) (lv := [(0, .ref (ad 0)), (1, .int (iI u)), (2, .int (iI k))]) (by decide) rfl (Nat.le_of_ble_eq_true rfl) rfl ?_
  intro xp xe xs xm xa xb xh xc S xK xr xlk xin
  have v9 := (hsp u (by omega) (by omega)).2
  refine g_aload_n S dX1_endOf_0 rfl 0 rfl ?_
  refine g_iload_n S dX1_endOf_1 rfl 1 rfl ?_
  refine g_callV S xK (As := [.int (iI u)]) (st := []) (stk' := []) (Wp' := CW E ad sp se al ta n pg) (r := (RX1, TX1, 9)) (m_X1_needHeading l E hj sp se al ta n pg u (by omega) hn) (cwV 1 S.2.2.2.2 gX1_endOf_X1_needHeading rfl rfl rfl (by decide +kernel) ⟨Nat.le_of_ble_eq_true rfl, Nat.le_of_ble_eq_true rfl⟩) rfl rfl rfl rfl (Nat.le_of_ble_eq_true rfl) ⟨Nat.le_of_ble_eq_true rfl, Nat.le_of_ble_eq_true rfl⟩ (fun _ q => q.elim) (fun _ h => cw_x h) (fun _ h => h) (fun _ _ _ h _ _ => h) dX1_endOf_2 ?_
  refine g_aload_n S dX1_endOf_5 rfl 0 rfl ?_
  refine g_iload_n S dX1_endOf_6 rfl 1 rfl ?_
  refine g_iload_n S dX1_endOf_7 rfl 2 rfl ?_
  refine g_callV S xK (As := [.int (iI u), .int (iI k)]) (st := []) (stk' := []) (Wp' := CW E ad sp se al ta n pg) (r := (RX1, TX1, 9)) (m_X1_needSpan l E hj sp se al ta n pg u k (by omega) hn hsp (by omega)) (cwV 2 S.2.2.2.2 gX1_endOf_X1_needSpan rfl rfl rfl (by decide +kernel) ⟨Nat.le_of_ble_eq_true rfl, Nat.le_of_ble_eq_true rfl⟩) rfl rfl rfl rfl (Nat.le_of_ble_eq_true rfl) ⟨Nat.le_of_ble_eq_true rfl, Nat.le_of_ble_eq_true rfl⟩ (fun _ q => q.elim) (fun _ h => cw_x h) (fun _ h => h) (fun _ _ _ h _ _ => h) dX1_endOf_8 ?_
  refine g_aload_n S dX1_endOf_11 rfl 0 rfl ?_
  refine g_iload_n S dX1_endOf_12 rfl 1 rfl ?_
  refine g_callV S xK (As := [.int (iI u)]) (st := []) (stk' := [.ref (ad (5 + 3 * u))]) (Wp' := CW E ad sp se al ta n pg) (r := (RX1, TX1, 9)) (m_X1_spansAt l E hj sp se al ta n pg u (by omega) hn) (cwV 1 S.2.2.2.2 gX1_endOf_X1_spansAt rfl rfl rfl (by decide +kernel) ⟨Nat.le_of_ble_eq_true rfl, Nat.le_of_ble_eq_true rfl⟩) rfl rfl rfl rfl (Nat.le_of_ble_eq_true rfl) ⟨Nat.le_of_ble_eq_true rfl, Nat.le_of_ble_eq_true rfl⟩ (fun _ q => q.elim) (fun _ h => cw_x h) (fun _ h => h) (fun _ _ _ h _ _ => h) dX1_endOf_13 ?_
  refine g_iload_n S dX1_endOf_16 rfl 2 rfl ?_
  refine g_callV S xK (As := [.int (iI k)]) (st := []) (stk' := [.int (iI (spL (sp u) k))]) (Wp' := CW E ad sp se al ta n pg) (r := (RX0, TX0, 3)) (m_X0_last l E hj sp se al ta n pg u (by omega) (sp u) (rfl) k (vl_wb (by omega) (hsp u (by omega) (by omega)).1) (by omega)) (cwV 1 S.2.2.2.2 gX1_endOf_X0_last rfl rfl rfl (by decide +kernel) ⟨Nat.le_of_ble_eq_true rfl, Nat.le_of_ble_eq_true rfl⟩) rfl rfl rfl rfl (Nat.le_of_ble_eq_true rfl) ⟨Nat.le_of_ble_eq_true rfl, Nat.le_of_ble_eq_true rfl⟩ (fun _ q => q.elim) (fun _ h => cw_o (i := u) h (by omega) (rfl)) (fun _ h => h) (fun _ _ _ h _ _ => h) dX1_endOf_17 ?_
  rw [show ((sp u).2.2 k) = (spL (sp u) k) from (if_pos (by omega)).symm]
  exact g_iret S xr xlk dX1_endOf_20 (fun _ h => h)
set_option maxHeartbeats 4000000 in
set_option maxRecDepth 100000 in
theorem m_X1_endOfX (l : Launch) (hlt : l.stackTraces = false) (E : EN) (bs : Nat) {ad : Int → Nat} (hj : INJ ad) (sp : Int → SpT) (se : Int → Int) (al : Int → Nat) (ta : Int → Int) (n pg : Int) (u k : Int) (hh : u < 0 ∨ n ≤ u) (hr : -2147483648 ≤ u ∧ u ≤ 2147483647 ∧ -2147483648 ≤ k ∧ k ≤ 2147483647) (hn : 0 ≤ n ∧ n ≤ 24) : vx_Met l yX1_endOf wsX1_endOf ({ frames := 7, cells := 1, slots := 6, locals := 103 }) (CX E bs [.ref (ad 0), .int (iI u), .int (iI k)] (CW E ad sp se al ta n pg)) QF (XW "java/lang/IndexOutOfBoundsException" (CW E ad sp se al ta n pg) (fun _ => False)) 1 6 (fun _ => False) := by
  refine g_metX (cc := cX1_endOf) (maxL := 3) (ret := (some .int)) (lv := [(0, .ref (ad 0)), (1, .int (iI u)), (2, .int (iI k))]) (by decide) rfl (Nat.le_of_ble_eq_true rfl) rfl ?_
  intro xp xe xs xm xa xb xh xc S xK xX xlk xno
  refine g_aload_n S dX1_endOf_0 rfl 0 rfl ?_
  refine g_iload_n S dX1_endOf_1 rfl 1 rfl ?_
  exact g_callVX S xK xlk xno xX (As := [.int (iI u)]) (st := []) (r := (RX1, TX1, 9)) (m_X1_needHeadingX l hlt E bs hj sp se al ta n pg u (by omega) (by omega) hn) (cwV 1 S.2.2.2.2 gX1_endOf_X1_needHeading rfl rfl rfl (by decide +kernel) ⟨Nat.le_of_ble_eq_true rfl, Nat.le_of_ble_eq_true rfl⟩) rfl rfl rfl (Nat.le_of_ble_eq_true rfl) ⟨Nat.le_of_ble_eq_true rfl, Nat.le_of_ble_eq_true rfl, Nat.le_of_ble_eq_true rfl, Nat.le_of_ble_eq_true rfl⟩ (fun _ q => q.elim) (fun _ q => q.elim) (fun _ h => cw_x h) (fun _ h => h) (fun _ _ _ h _ _ => h) dX1_endOf_2
set_option maxHeartbeats 4000000 in
set_option maxRecDepth 100000 in
theorem m_X1_endOfY (l : Launch) (hlt : l.stackTraces = false) (E : EN) (bs : Nat) {ad : Int → Nat} (hj : INJ ad) (sp : Int → SpT) (se : Int → Int) (al : Int → Nat) (ta : Int → Int) (n pg : Int) (u k : Int) (hh : 0 ≤ u ∧ u < n) (hn : 0 ≤ n ∧ n ≤ 24) (hsp : SPV sp n pg) (hk : k < 0 ∨ (sp u).1 ≤ k) (hr : -2147483648 ≤ k ∧ k ≤ 2147483647) : vx_Met l yX1_endOf wsX1_endOf ({ frames := 7, cells := 1, slots := 6, locals := 104 }) (CX E bs [.ref (ad 0), .int (iI u), .int (iI k)] (CW E ad sp se al ta n pg)) QF (XW "java/lang/IndexOutOfBoundsException" (CW E ad sp se al ta n pg) (fun _ => False)) 1 6 (fun _ => False) := by
  refine g_metX (cc := cX1_endOf) (maxL := 3) (ret := (some .int)) (lv := [(0, .ref (ad 0)), (1, .int (iI u)), (2, .int (iI k))]) (by decide) rfl (Nat.le_of_ble_eq_true rfl) rfl ?_
  intro xp xe xs xm xa xb xh xc S xK xX xlk xno
  refine g_aload_n S dX1_endOf_0 rfl 0 rfl ?_
  refine g_iload_n S dX1_endOf_1 rfl 1 rfl ?_
  refine g_callV S xK (As := [.int (iI u)]) (st := []) (stk' := []) (Wp' := CW E ad sp se al ta n pg) (r := (RX1, TX1, 9)) (m_X1_needHeading l E hj sp se al ta n pg u (by omega) hn) (cwV 1 S.2.2.2.2 gX1_endOf_X1_needHeading rfl rfl rfl (by decide +kernel) ⟨Nat.le_of_ble_eq_true rfl, Nat.le_of_ble_eq_true rfl⟩) rfl rfl rfl rfl (Nat.le_of_ble_eq_true rfl) ⟨Nat.le_of_ble_eq_true rfl, Nat.le_of_ble_eq_true rfl⟩ (fun _ q => q.elim) (fun _ h => cw_x h) (fun _ h => h) (fun _ _ _ h _ _ => h) dX1_endOf_2 ?_
  refine g_aload_n S dX1_endOf_5 rfl 0 rfl ?_
  refine g_iload_n S dX1_endOf_6 rfl 1 rfl ?_
  refine g_iload_n S dX1_endOf_7 rfl 2 rfl ?_
  exact g_callVX S xK xlk xno xX (As := [.int (iI u), .int (iI k)]) (st := []) (r := (RX1, TX1, 9)) (m_X1_needSpanX l hlt E bs hj sp se al ta n pg u k (by omega) hn hsp (by omega) (by omega)) (cwV 2 S.2.2.2.2 gX1_endOf_X1_needSpan rfl rfl rfl (by decide +kernel) ⟨Nat.le_of_ble_eq_true rfl, Nat.le_of_ble_eq_true rfl⟩) rfl rfl rfl (Nat.le_of_ble_eq_true rfl) ⟨Nat.le_of_ble_eq_true rfl, Nat.le_of_ble_eq_true rfl, Nat.le_of_ble_eq_true rfl, Nat.le_of_ble_eq_true rfl⟩ (fun _ q => q.elim) (fun _ q => q.elim) (fun _ h => cw_x h) (fun _ h => h) (fun _ _ _ h _ _ => h) dX1_endOf_8
set_option maxHeartbeats 4000000 in
set_option maxRecDepth 100000 in
theorem m_X1_isOn (l : Launch) (E : EN) {ad : Int → Nat} (hj : INJ ad) (sp : Int → SpT) (se : Int → Int) (al : Int → Nat) (ta : Int → Int) (n pg : Int) (u q : Int) (hh : 0 ≤ u ∧ u < n) (hn : 0 ≤ n ∧ n ≤ 24) (hpg : 1 ≤ pg ∧ pg ≤ 300) (hsp : SPV sp n pg) (hq : 1 ≤ q ∧ q ≤ pg) : Met l yX1_isOn wsX1_isOn ({ frames := 2, cells := 0, slots := 0, locals := 43 }) (CI E [.ref (ad 0), .int (iI u), .int (iI q)] (CW E ad sp se al ta n pg)) (QW (some (.int (iI (pI (cov (sp u) q))))) (CW E ad sp se al ta n pg) (fun _ => False)) 0 0 (fun _ => False) := by
  refine g_met (cc := cX1_isOn) (maxL := 3) (ret := (some .boolean)) (lv := [(0, .ref (ad 0)), (1, .int (iI u)), (2, .int (iI q))]) (by decide) rfl (Nat.le_of_ble_eq_true rfl) rfl ?_
  intro xp xe xs xm xa xb xh xc S xK xr xlk xin
  refine g_aload_n S dX1_isOn_0 rfl 0 rfl ?_
  refine g_iload_n S dX1_isOn_1 rfl 1 rfl ?_
  refine g_callV S xK (As := [.int (iI u)]) (st := []) (stk' := []) (Wp' := CW E ad sp se al ta n pg) (r := (RX1, TX1, 9)) (m_X1_needHeading l E hj sp se al ta n pg u (by omega) hn) (cwV 1 S.2.2.2.2 gX1_isOn_X1_needHeading rfl rfl rfl (by decide +kernel) ⟨Nat.le_of_ble_eq_true rfl, Nat.le_of_ble_eq_true rfl⟩) rfl rfl rfl rfl (Nat.le_of_ble_eq_true rfl) ⟨Nat.le_of_ble_eq_true rfl, Nat.le_of_ble_eq_true rfl⟩ (fun _ q => q.elim) (fun _ h => cw_x h) (fun _ h => h) (fun _ _ _ h _ _ => h) dX1_isOn_2 ?_
  refine g_aload_n S dX1_isOn_5 rfl 0 rfl ?_
  refine g_iload_n S dX1_isOn_6 rfl 2 rfl ?_
  refine g_callV S xK (As := [.int (iI q)]) (st := []) (stk' := []) (Wp' := CW E ad sp se al ta n pg) (r := (RX1, TX1, 9)) (m_X1_needPage l E hj sp se al ta n pg q (by omega) hpg) (cwV 1 S.2.2.2.2 gX1_isOn_X1_needPage rfl rfl rfl (by decide +kernel) ⟨Nat.le_of_ble_eq_true rfl, Nat.le_of_ble_eq_true rfl⟩) rfl rfl rfl rfl (Nat.le_of_ble_eq_true rfl) ⟨Nat.le_of_ble_eq_true rfl, Nat.le_of_ble_eq_true rfl⟩ (fun _ q => q.elim) (fun _ h => cw_x h) (fun _ h => h) (fun _ _ _ h _ _ => h) dX1_isOn_7 ?_
  refine g_aload_n S dX1_isOn_10 rfl 0 rfl ?_
  refine g_iload_n S dX1_isOn_11 rfl 1 rfl ?_
  refine g_callV S xK (As := [.int (iI u)]) (st := []) (stk' := [.ref (ad (5 + 3 * u))]) (Wp' := CW E ad sp se al ta n pg) (r := (RX1, TX1, 9)) (m_X1_spansAt l E hj sp se al ta n pg u (by omega) hn) (cwV 1 S.2.2.2.2 gX1_isOn_X1_spansAt rfl rfl rfl (by decide +kernel) ⟨Nat.le_of_ble_eq_true rfl, Nat.le_of_ble_eq_true rfl⟩) rfl rfl rfl rfl (Nat.le_of_ble_eq_true rfl) ⟨Nat.le_of_ble_eq_true rfl, Nat.le_of_ble_eq_true rfl⟩ (fun _ q => q.elim) (fun _ h => cw_x h) (fun _ h => h) (fun _ _ _ h _ _ => h) dX1_isOn_12 ?_
  refine g_iload_n S dX1_isOn_15 rfl 2 rfl ?_
  refine g_callV S xK (As := [.int (iI q)]) (st := []) (stk' := [.int (iI (pI (cov (sp u) q)))]) (Wp' := CW E ad sp se al ta n pg) (r := (RX0, TX0, 3)) (m_X0_has l E hj sp se al ta n pg u (by omega) (sp u) (rfl) q (vl_wb (by omega) (hsp u (by omega) (by omega)).1) (by omega)) (cwV 1 S.2.2.2.2 gX1_isOn_X0_has rfl rfl rfl (by decide +kernel) ⟨Nat.le_of_ble_eq_true rfl, Nat.le_of_ble_eq_true rfl⟩) rfl rfl rfl rfl (Nat.le_of_ble_eq_true rfl) ⟨Nat.le_of_ble_eq_true rfl, Nat.le_of_ble_eq_true rfl⟩ (fun _ q => q.elim) (fun _ h => cw_o (i := u) h (by omega) (rfl)) (fun _ h => h) (fun _ _ _ h _ _ => h) dX1_isOn_16 ?_
  exact g_zret S xr xlk (pI_01 _) dX1_isOn_19 (fun _ h => h)
set_option maxHeartbeats 4000000 in
set_option maxRecDepth 100000 in
theorem m_X1_isOnX (l : Launch) (hlt : l.stackTraces = false) (E : EN) (bs : Nat) {ad : Int → Nat} (hj : INJ ad) (sp : Int → SpT) (se : Int → Int) (al : Int → Nat) (ta : Int → Int) (n pg : Int) (u q : Int) (hh : u < 0 ∨ n ≤ u) (hr : -2147483648 ≤ u ∧ u ≤ 2147483647) (hn : 0 ≤ n ∧ n ≤ 24) : vx_Met l yX1_isOn wsX1_isOn ({ frames := 7, cells := 1, slots := 6, locals := 103 }) (CX E bs [.ref (ad 0), .int (iI u), .int (iI q)] (CW E ad sp se al ta n pg)) QF (XW "java/lang/IndexOutOfBoundsException" (CW E ad sp se al ta n pg) (fun _ => False)) 1 6 (fun _ => False) := by
  refine g_metX (cc := cX1_isOn) (maxL := 3) (ret := (some .boolean)) (lv := [(0, .ref (ad 0)), (1, .int (iI u)), (2, .int (iI q))]) (by decide) rfl (Nat.le_of_ble_eq_true rfl) rfl ?_
  intro xp xe xs xm xa xb xh xc S xK xX xlk xno
  refine g_aload_n S dX1_isOn_0 rfl 0 rfl ?_
  refine g_iload_n S dX1_isOn_1 rfl 1 rfl ?_
  exact g_callVX S xK xlk xno xX (As := [.int (iI u)]) (st := []) (r := (RX1, TX1, 9)) (m_X1_needHeadingX l hlt E bs hj sp se al ta n pg u (by omega) (by omega) hn) (cwV 1 S.2.2.2.2 gX1_isOn_X1_needHeading rfl rfl rfl (by decide +kernel) ⟨Nat.le_of_ble_eq_true rfl, Nat.le_of_ble_eq_true rfl⟩) rfl rfl rfl (Nat.le_of_ble_eq_true rfl) ⟨Nat.le_of_ble_eq_true rfl, Nat.le_of_ble_eq_true rfl, Nat.le_of_ble_eq_true rfl, Nat.le_of_ble_eq_true rfl⟩ (fun _ q => q.elim) (fun _ q => q.elim) (fun _ h => cw_x h) (fun _ h => h) (fun _ _ _ h _ _ => h) dX1_isOn_2
set_option maxHeartbeats 4000000 in
set_option maxRecDepth 100000 in
theorem m_X1_isOnY (l : Launch) (hlt : l.stackTraces = false) (E : EN) (bs : Nat) {ad : Int → Nat} (hj : INJ ad) (sp : Int → SpT) (se : Int → Int) (al : Int → Nat) (ta : Int → Int) (n pg : Int) (u q : Int) (hh : 0 ≤ u ∧ u < n) (hn : 0 ≤ n ∧ n ≤ 24) (hpg : 1 ≤ pg ∧ pg ≤ 300) (hq : q < 1 ∨ pg < q) (hr : -2147483648 ≤ q ∧ q ≤ 2147483647) : vx_Met l yX1_isOn wsX1_isOn ({ frames := 7, cells := 1, slots := 6, locals := 103 }) (CX E bs [.ref (ad 0), .int (iI u), .int (iI q)] (CW E ad sp se al ta n pg)) QF (XW "java/lang/IllegalArgumentException" (CW E ad sp se al ta n pg) (fun _ => False)) 1 6 (fun _ => False) := by
  refine g_metX (cc := cX1_isOn) (maxL := 3) (ret := (some .boolean)) (lv := [(0, .ref (ad 0)), (1, .int (iI u)), (2, .int (iI q))]) (by decide) rfl (Nat.le_of_ble_eq_true rfl) rfl ?_
  intro xp xe xs xm xa xb xh xc S xK xX xlk xno
  refine g_aload_n S dX1_isOn_0 rfl 0 rfl ?_
  refine g_iload_n S dX1_isOn_1 rfl 1 rfl ?_
  refine g_callV S xK (As := [.int (iI u)]) (st := []) (stk' := []) (Wp' := CW E ad sp se al ta n pg) (r := (RX1, TX1, 9)) (m_X1_needHeading l E hj sp se al ta n pg u (by omega) hn) (cwV 1 S.2.2.2.2 gX1_isOn_X1_needHeading rfl rfl rfl (by decide +kernel) ⟨Nat.le_of_ble_eq_true rfl, Nat.le_of_ble_eq_true rfl⟩) rfl rfl rfl rfl (Nat.le_of_ble_eq_true rfl) ⟨Nat.le_of_ble_eq_true rfl, Nat.le_of_ble_eq_true rfl⟩ (fun _ q => q.elim) (fun _ h => cw_x h) (fun _ h => h) (fun _ _ _ h _ _ => h) dX1_isOn_2 ?_
  refine g_aload_n S dX1_isOn_5 rfl 0 rfl ?_
  refine g_iload_n S dX1_isOn_6 rfl 2 rfl ?_
  exact g_callVX S xK xlk xno xX (As := [.int (iI q)]) (st := []) (r := (RX1, TX1, 9)) (m_X1_needPageX l hlt E bs hj sp se al ta n pg q (by omega) (by omega) hpg) (cwV 1 S.2.2.2.2 gX1_isOn_X1_needPage rfl rfl rfl (by decide +kernel) ⟨Nat.le_of_ble_eq_true rfl, Nat.le_of_ble_eq_true rfl⟩) rfl rfl rfl (Nat.le_of_ble_eq_true rfl) ⟨Nat.le_of_ble_eq_true rfl, Nat.le_of_ble_eq_true rfl, Nat.le_of_ble_eq_true rfl, Nat.le_of_ble_eq_true rfl⟩ (fun _ q => q.elim) (fun _ q => q.elim) (fun _ h => cw_x h) (fun _ h => h) (fun _ _ _ h _ _ => h) dX1_isOn_7
set_option maxHeartbeats 4000000 in
set_option maxRecDepth 100000 in
theorem m_X1_headingsOn (l : Launch) (E : EN) {ad : Int → Nat} (hj : INJ ad) (sp : Int → SpT) (se : Int → Int) (al : Int → Nat) (ta : Int → Int) (n pg : Int) (q : Int) (hn : 0 ≤ n ∧ n ≤ 24) (hpg : 1 ≤ pg ∧ pg ≤ 300) (hsp : SPV sp n pg) (hq : 1 ≤ q ∧ q ≤ pg) : Met l yX1_headingsOn wsX1_headingsOn ({ frames := 3, cells := 0, slots := 0, locals := 66 }) (CI E [.ref (ad 0), .int (iI q)] (CW E ad sp se al ta n pg)) (QW (some (.int (iI (CHN sp n q)))) (CW E ad sp se al ta n pg) (fun _ => False)) 0 0 (fun _ => False) := by
  refine g_met (cc := cX1_headingsOn) (maxL := 2) (ret := (some .int)) (lv := [(0, .ref (ad 0)), (1, .int (iI q))]) (by decide) rfl (Nat.le_of_ble_eq_true rfl) rfl ?_
  intro xp xe xs xm xa xb xh xc S xK xr xlk xin
  refine g_aload_n S dX1_headingsOn_0 rfl 0 rfl ?_
  refine g_iload_n S dX1_headingsOn_1 rfl 1 rfl ?_
  refine g_callV S xK (As := [.int (iI q)]) (st := []) (stk' := []) (Wp' := CW E ad sp se al ta n pg) (r := (RX1, TX1, 9)) (m_X1_needPage l E hj sp se al ta n pg q (by omega) hpg) (cwV 1 S.2.2.2.2 gX1_headingsOn_X1_needPage rfl rfl rfl (by decide +kernel) ⟨Nat.le_of_ble_eq_true rfl, Nat.le_of_ble_eq_true rfl⟩) rfl rfl rfl rfl (Nat.le_of_ble_eq_true rfl) ⟨Nat.le_of_ble_eq_true rfl, Nat.le_of_ble_eq_true rfl⟩ (fun _ q => q.elim) (fun _ h => cw_x h) (fun _ h => h) (fun _ _ _ h _ _ => h) dX1_headingsOn_2 ?_
  refine g_aload_n S dX1_headingsOn_5 rfl 0 rfl ?_
  refine g_iload_n S dX1_headingsOn_6 rfl 1 rfl ?_
  refine g_callV S xK (As := [.int (iI q)]) (st := []) (stk' := [.int (iI (smI (fun i => pI (cov (sp i) q)) n.toNat))]) (Wp' := CW E ad sp se al ta n pg) (r := (RX1, TX1, 9)) (m_X1_countHeadingsOn l E hj sp se al ta n pg q (by omega) hn hpg hsp) (cwV 1 S.2.2.2.2 gX1_headingsOn_X1_countHeadingsOn rfl rfl rfl (by decide +kernel) ⟨Nat.le_of_ble_eq_true rfl, Nat.le_of_ble_eq_true rfl⟩) rfl rfl rfl rfl (Nat.le_of_ble_eq_true rfl) ⟨Nat.le_of_ble_eq_true rfl, Nat.le_of_ble_eq_true rfl⟩ (fun _ q => q.elim) (fun _ h => cw_x h) (fun _ h => h) (fun _ _ _ h _ _ => h) dX1_headingsOn_7 ?_
  exact g_iret S xr xlk dX1_headingsOn_10 (fun _ h => h)
set_option maxHeartbeats 4000000 in
set_option maxRecDepth 100000 in
theorem m_X1_headingsOnX (l : Launch) (hlt : l.stackTraces = false) (E : EN) (bs : Nat) {ad : Int → Nat} (hj : INJ ad) (sp : Int → SpT) (se : Int → Int) (al : Int → Nat) (ta : Int → Int) (n pg : Int) (q : Int) (hpg : 1 ≤ pg ∧ pg ≤ 300) (hq : q < 1 ∨ pg < q) (hr : -2147483648 ≤ q ∧ q ≤ 2147483647) : vx_Met l yX1_headingsOn wsX1_headingsOn ({ frames := 7, cells := 1, slots := 6, locals := 103 }) (CX E bs [.ref (ad 0), .int (iI q)] (CW E ad sp se al ta n pg)) QF (XW "java/lang/IllegalArgumentException" (CW E ad sp se al ta n pg) (fun _ => False)) 1 6 (fun _ => False) := by
  refine g_metX (cc := cX1_headingsOn) (maxL := 2) (ret := (some .int)) (lv := [(0, .ref (ad 0)), (1, .int (iI q))]) (by decide) rfl (Nat.le_of_ble_eq_true rfl) rfl ?_
  intro xp xe xs xm xa xb xh xc S xK xX xlk xno
  refine g_aload_n S dX1_headingsOn_0 rfl 0 rfl ?_
  refine g_iload_n S dX1_headingsOn_1 rfl 1 rfl ?_
  exact g_callVX S xK xlk xno xX (As := [.int (iI q)]) (st := []) (r := (RX1, TX1, 9)) (m_X1_needPageX l hlt E bs hj sp se al ta n pg q (by omega) (by omega) hpg) (cwV 1 S.2.2.2.2 gX1_headingsOn_X1_needPage rfl rfl rfl (by decide +kernel) ⟨Nat.le_of_ble_eq_true rfl, Nat.le_of_ble_eq_true rfl⟩) rfl rfl rfl (Nat.le_of_ble_eq_true rfl) ⟨Nat.le_of_ble_eq_true rfl, Nat.le_of_ble_eq_true rfl, Nat.le_of_ble_eq_true rfl, Nat.le_of_ble_eq_true rfl⟩ (fun _ q => q.elim) (fun _ q => q.elim) (fun _ h => cw_x h) (fun _ h => h) (fun _ _ _ h _ _ => h) dX1_headingsOn_2
set_option maxHeartbeats 4000000 in
set_option maxRecDepth 100000 in
theorem m_X1_steps (l : Launch) (E : EN) {ad : Int → Nat} (hj : INJ ad) (sp : Int → SpT) (se : Int → Int) (al : Int → Nat) (ta : Int → Int) (n pg : Int) (u o : Int) (hh : 0 ≤ u ∧ u < n) (hn : 0 ≤ n ∧ n ≤ 24) (ho : 0 ≤ o ∧ o < n) (hgr : GR se al n) : Met l yX1_steps wsX1_steps ({ frames := 2, cells := 0, slots := 0, locals := 43 }) (CI E [.ref (ad 0), .int (iI u), .int (iI o)] (CW E ad sp se al ta n pg)) (QW (some (.int (iI (fsS se al n o.toNat 24 (2 ^ u.toNat) 0)))) (CW E ad sp se al ta n pg) (fun _ => False)) 0 0 (fun _ => False) := by
  refine g_met (cc := cX1_steps) (maxL := 5) (ret := (some .int)) (lv := [(0, .ref (ad 0)), (1, .int (iI u)), (2, .int (iI o))]) (by decide) rfl (Nat.le_of_ble_eq_true rfl) rfl ?_
  intro xp xe xs xm xa xb xh xc S xK xr xlk xin
  have h1l : 2 ^ u.toNat < 2 ^ n.toNat := Nat.pow_lt_pow_right (by decide) (by omega)
  refine g_aload_n S dX1_steps_0 rfl 0 rfl ?_
  refine g_iload_n S dX1_steps_1 rfl 1 rfl ?_
  refine g_callV S xK (As := [.int (iI u)]) (st := []) (stk' := []) (Wp' := CW E ad sp se al ta n pg) (r := (RX1, TX1, 9)) (m_X1_needHeading l E hj sp se al ta n pg u (by omega) hn) (cwV 1 S.2.2.2.2 gX1_steps_X1_needHeading rfl rfl rfl (by decide +kernel) ⟨Nat.le_of_ble_eq_true rfl, Nat.le_of_ble_eq_true rfl⟩) rfl rfl rfl rfl (Nat.le_of_ble_eq_true rfl) ⟨Nat.le_of_ble_eq_true rfl, Nat.le_of_ble_eq_true rfl⟩ (fun _ q => q.elim) (fun _ h => cw_x h) (fun _ h => h) (fun _ _ _ h _ _ => h) dX1_steps_2 ?_
  refine g_aload_n S dX1_steps_5 rfl 0 rfl ?_
  refine g_iload_n S dX1_steps_6 rfl 2 rfl ?_
  refine g_callV S xK (As := [.int (iI o)]) (st := []) (stk' := []) (Wp' := CW E ad sp se al ta n pg) (r := (RX1, TX1, 9)) (m_X1_needHeading l E hj sp se al ta n pg o (by omega) hn) (cwV 1 S.2.2.2.2 gX1_steps_X1_needHeading rfl rfl rfl (by decide +kernel) ⟨Nat.le_of_ble_eq_true rfl, Nat.le_of_ble_eq_true rfl⟩) rfl rfl rfl rfl (Nat.le_of_ble_eq_true rfl) ⟨Nat.le_of_ble_eq_true rfl, Nat.le_of_ble_eq_true rfl⟩ (fun _ q => q.elim) (fun _ h => cw_x h) (fun _ h => h) (fun _ _ _ h _ _ => h) dX1_steps_7 ?_
  refine g_iload_n S dX1_steps_10 rfl 1 rfl ?_
  refine g_callS S xK (As := [.int (iI u)]) (st := []) (stk' := [.int (iI ((2 ^ u.toNat : Nat) : Int))]) (Wp' := CW E ad sp se al ta n pg) (m_X1_only l E (Wp := CW E ad sp se al ta n pg) u (by omega)) (cwS 1 S.2.2.2.2 gX1_steps_X1_only rfl rfl rfl (by decide +kernel) ⟨Nat.le_of_ble_eq_true rfl, Nat.le_of_ble_eq_true rfl⟩) rfl rfl rfl (Nat.le_of_ble_eq_true rfl) ⟨Nat.le_of_ble_eq_true rfl, Nat.le_of_ble_eq_true rfl⟩ (fun _ q => q.elim) (fun _ h => h) (fun _ _ _ h _ _ => h) dX1_steps_11 ?_
  refine g_istore_n S (lv' := [(3, .int (iI ((2 ^ u.toNat : Nat) : Int))), (0, .ref (ad 0)), (1, .int (iI u)), (2, .int (iI o))]) dX1_steps_14 rfl (Nat.le_of_ble_eq_true rfl) rfl ?_
  refine g_iconst S dX1_steps_15 ?_
  refine g_istore S (lv' := [(4, .int (iI 0)), (3, .int (iI ((2 ^ u.toNat : Nat) : Int))), (0, .ref (ad 0)), (1, .int (iI u)), (2, .int (iI o))]) dX1_steps_16 (Nat.le_of_ble_eq_true rfl) rfl ?_
  have L18 : ∀ (nf : Nat) (m : Nat) (k : Int), (0 ≤ k ∧ k ≤ 24) → (m < 2 ^ n.toNat) → (fsS se al n o.toNat (24 - k).toNat m k = fsS se al n o.toNat 24 (2 ^ u.toNat) 0) → ((24 : Int) - k < (nf : Int)) → G xp l xe ({ frames := 2, cells := 0, slots := 0, locals := 43 }) xs xm xa xb xh xc 5 (fun _ => False) 0 0 (MQ xb (QW (some (.int (iI (fsS se al n o.toNat 24 (2 ^ u.toNat) 0)))) (CW E ad sp se al ta n pg) (fun _ => False)) xa xs 0 0 (fun _ => False)) 18 [(0, .ref (ad 0)), (1, .int (iI u)), (2, .int (iI o)), (3, .int (iI ((m : Nat) : Int))), (4, .int (iI k))] [] (CW E ad sp se al ta n pg) := by
    intro nf
    induction nf with
    | zero =>
      intro m k hk hm hf hmf
      exfalso
      omega
    | succ nf ihL18 =>
      intro m k hk hm hf hmf
      have hmr := mk_r (lt24 hn hm)
      refine g_iload S dX1_steps_18 4 rfl ?_
      refine g_bipush S dX1_steps_20 (by decide) ?_
      refine g_icmp_ge S (tgt := 51) dX1_steps_22 (by decide) (by omega) (fun c22 => ?_) (fun c22 => ?_)
      · skip
        refine g_iconst S dX1_steps_51 ?_
        rw [show (fsS se al n o.toNat 24 (2 ^ u.toNat) 0) = (-1) from by rw [← hf, show (24 - k).toNat = 0 by omega]; rfl]
        exact g_iret S xr xlk dX1_steps_52 (fun _ h => h)
      · skip
        refine g_iload_n S dX1_steps_25 rfl 3 rfl ?_
        refine g_iload_n S dX1_steps_26 rfl 2 rfl ?_
        refine g_callS S xK (As := [.int (iI o)]) (st := [.int (iI ((m : Nat) : Int))]) (stk' := [.int (iI ((2 ^ o.toNat : Nat) : Int)), .int (iI ((m : Nat) : Int))]) (Wp' := CW E ad sp se al ta n pg) (m_X1_only l E (Wp := CW E ad sp se al ta n pg) o (by omega)) (cwS 1 S.2.2.2.2 gX1_steps_X1_only rfl rfl rfl (by decide +kernel) ⟨Nat.le_of_ble_eq_true rfl, Nat.le_of_ble_eq_true rfl⟩) rfl rfl rfl (Nat.le_of_ble_eq_true rfl) ⟨Nat.le_of_ble_eq_true rfl, Nat.le_of_ble_eq_true rfl⟩ (fun _ q => q.elim) (fun _ h => h) (fun _ _ _ h _ _ => h) dX1_steps_27 ?_
        refine g_iand S (z := (iI ((m &&& 2 ^ o.toNat : Nat) : Int))) dX1_steps_30 (iI_and _ _) ?_
        have z31 : (m &&& 2 ^ o.toNat) ≤ m := Nat.and_le_left
        refine g_if_eq S (tgt := 37) dX1_steps_31 (by decide) (by omega) (fun c31 => ?_) (fun c31 => ?_)
        · skip
          refine g_iload_n S dX1_steps_37 rfl 3 rfl ?_
          refine g_aload_n S dX1_steps_38 rfl 0 rfl ?_
          refine g_iload_n S dX1_steps_39 rfl 3 rfl ?_
          refine g_callV S xK (As := [.int (iI ((m : Nat) : Int))]) (st := [.int (iI ((m : Nat) : Int))]) (stk' := [.int (iI ((stS se al m n.toNat : Nat) : Int)), .int (iI ((m : Nat) : Int))]) (Wp' := CW E ad sp se al ta n pg) (r := (RX1, TX1, 9)) (m_X1_oneStepFrom l E hj sp se al ta n pg m hm hn hgr) (cwV 1 S.2.2.2.2 gX1_steps_X1_oneStepFrom rfl rfl rfl (by decide +kernel) ⟨Nat.le_of_ble_eq_true rfl, Nat.le_of_ble_eq_true rfl⟩) rfl rfl rfl rfl (Nat.le_of_ble_eq_true rfl) ⟨Nat.le_of_ble_eq_true rfl, Nat.le_of_ble_eq_true rfl⟩ (fun _ q => q.elim) (fun _ h => cw_x h) (fun _ h => h) (fun _ _ _ h _ _ => h) dX1_steps_40 ?_
          refine g_ior S (z := (iI ((m ||| (stS se al m n.toNat) : Nat) : Int))) dX1_steps_43 (iI_or _ _) ?_
          refine g_istore_n S (lv' := [(3, .int (iI ((m ||| (stS se al m n.toNat) : Nat) : Int))), (0, .ref (ad 0)), (1, .int (iI u)), (2, .int (iI o)), (4, .int (iI k))]) dX1_steps_44 rfl (Nat.le_of_ble_eq_true rfl) rfl ?_
          refine g_iinc S (lv' := [(4, .int (iI (k + 1))), (3, .int (iI ((m ||| (stS se al m n.toNat) : Nat) : Int))), (0, .ref (ad 0)), (1, .int (iI u)), (2, .int (iI o))]) dX1_steps_45 4 rfl (Nat.le_of_ble_eq_true rfl) rfl ?_
          refine g_goto S (tgt := 18) dX1_steps_48 (by decide) ?_
          refine g_lv [2, 3, 4, 1, 0] rfl ?_
          exact ihL18 (m ||| (stS se al m n.toNat)) (k + 1) (by omega) (Nat.or_lt_two_pow hm (stS_lt hgr m n.toNat (by omega))) (by rw [← hf, fsS_n (z := 24 - k) (by omega) (fun z => bit_ne.mpr z c31), show 24 - (k + 1) = 24 - k - 1 by omega]) (by omega)
        · skip
          refine g_iload S dX1_steps_34 4 rfl ?_
          rw [show (fsS se al n o.toNat 24 (2 ^ u.toNat) 0) = k from by rw [← hf]; exact fsS_y (by omega) (bit_ne.mp c31)]
          exact g_iret S xr xlk dX1_steps_36 (fun _ h => h)
  refine g_lv [2, 3, 4, 1, 0] rfl ?_
  exact L18 (((24 : Int) - 0) + 1).toNat (2 ^ u.toNat) 0 (by omega) (h1l) (rfl) (by omega)
set_option maxHeartbeats 4000000 in
set_option maxRecDepth 100000 in
theorem m_X1_stepsX (l : Launch) (hlt : l.stackTraces = false) (E : EN) (bs : Nat) {ad : Int → Nat} (hj : INJ ad) (sp : Int → SpT) (se : Int → Int) (al : Int → Nat) (ta : Int → Int) (n pg : Int) (u o : Int) (hh : u < 0 ∨ n ≤ u) (hr : -2147483648 ≤ u ∧ u ≤ 2147483647) (hn : 0 ≤ n ∧ n ≤ 24) : vx_Met l yX1_steps wsX1_steps ({ frames := 7, cells := 1, slots := 6, locals := 103 }) (CX E bs [.ref (ad 0), .int (iI u), .int (iI o)] (CW E ad sp se al ta n pg)) QF (XW "java/lang/IndexOutOfBoundsException" (CW E ad sp se al ta n pg) (fun _ => False)) 1 6 (fun _ => False) := by
  refine g_metX (cc := cX1_steps) (maxL := 5) (ret := (some .int)) (lv := [(0, .ref (ad 0)), (1, .int (iI u)), (2, .int (iI o))]) (by decide) rfl (Nat.le_of_ble_eq_true rfl) rfl ?_
  intro xp xe xs xm xa xb xh xc S xK xX xlk xno
  refine g_aload_n S dX1_steps_0 rfl 0 rfl ?_
  refine g_iload_n S dX1_steps_1 rfl 1 rfl ?_
  exact g_callVX S xK xlk xno xX (As := [.int (iI u)]) (st := []) (r := (RX1, TX1, 9)) (m_X1_needHeadingX l hlt E bs hj sp se al ta n pg u (by omega) (by omega) hn) (cwV 1 S.2.2.2.2 gX1_steps_X1_needHeading rfl rfl rfl (by decide +kernel) ⟨Nat.le_of_ble_eq_true rfl, Nat.le_of_ble_eq_true rfl⟩) rfl rfl rfl (Nat.le_of_ble_eq_true rfl) ⟨Nat.le_of_ble_eq_true rfl, Nat.le_of_ble_eq_true rfl, Nat.le_of_ble_eq_true rfl, Nat.le_of_ble_eq_true rfl⟩ (fun _ q => q.elim) (fun _ q => q.elim) (fun _ h => cw_x h) (fun _ h => h) (fun _ _ _ h _ _ => h) dX1_steps_2
set_option maxHeartbeats 4000000 in
set_option maxRecDepth 100000 in
theorem m_X1_stepsY (l : Launch) (hlt : l.stackTraces = false) (E : EN) (bs : Nat) {ad : Int → Nat} (hj : INJ ad) (sp : Int → SpT) (se : Int → Int) (al : Int → Nat) (ta : Int → Int) (n pg : Int) (u o : Int) (hh : 0 ≤ u ∧ u < n) (hn : 0 ≤ n ∧ n ≤ 24) (ho : o < 0 ∨ n ≤ o) (hr : -2147483648 ≤ o ∧ o ≤ 2147483647) : vx_Met l yX1_steps wsX1_steps ({ frames := 7, cells := 1, slots := 6, locals := 103 }) (CX E bs [.ref (ad 0), .int (iI u), .int (iI o)] (CW E ad sp se al ta n pg)) QF (XW "java/lang/IndexOutOfBoundsException" (CW E ad sp se al ta n pg) (fun _ => False)) 1 6 (fun _ => False) := by
  refine g_metX (cc := cX1_steps) (maxL := 5) (ret := (some .int)) (lv := [(0, .ref (ad 0)), (1, .int (iI u)), (2, .int (iI o))]) (by decide) rfl (Nat.le_of_ble_eq_true rfl) rfl ?_
  intro xp xe xs xm xa xb xh xc S xK xX xlk xno
  refine g_aload_n S dX1_steps_0 rfl 0 rfl ?_
  refine g_iload_n S dX1_steps_1 rfl 1 rfl ?_
  refine g_callV S xK (As := [.int (iI u)]) (st := []) (stk' := []) (Wp' := CW E ad sp se al ta n pg) (r := (RX1, TX1, 9)) (m_X1_needHeading l E hj sp se al ta n pg u (by omega) hn) (cwV 1 S.2.2.2.2 gX1_steps_X1_needHeading rfl rfl rfl (by decide +kernel) ⟨Nat.le_of_ble_eq_true rfl, Nat.le_of_ble_eq_true rfl⟩) rfl rfl rfl rfl (Nat.le_of_ble_eq_true rfl) ⟨Nat.le_of_ble_eq_true rfl, Nat.le_of_ble_eq_true rfl⟩ (fun _ q => q.elim) (fun _ h => cw_x h) (fun _ h => h) (fun _ _ _ h _ _ => h) dX1_steps_2 ?_
  refine g_aload_n S dX1_steps_5 rfl 0 rfl ?_
  refine g_iload_n S dX1_steps_6 rfl 2 rfl ?_
  exact g_callVX S xK xlk xno xX (As := [.int (iI o)]) (st := []) (r := (RX1, TX1, 9)) (m_X1_needHeadingX l hlt E bs hj sp se al ta n pg o (by omega) (by omega) hn) (cwV 1 S.2.2.2.2 gX1_steps_X1_needHeading rfl rfl rfl (by decide +kernel) ⟨Nat.le_of_ble_eq_true rfl, Nat.le_of_ble_eq_true rfl⟩) rfl rfl rfl (Nat.le_of_ble_eq_true rfl) ⟨Nat.le_of_ble_eq_true rfl, Nat.le_of_ble_eq_true rfl, Nat.le_of_ble_eq_true rfl, Nat.le_of_ble_eq_true rfl⟩ (fun _ q => q.elim) (fun _ q => q.elim) (fun _ h => cw_x h) (fun _ h => h) (fun _ _ _ h _ _ => h) dX1_steps_7
set_option maxHeartbeats 4000000 in
set_option maxRecDepth 100000 in
theorem m_X1_commonPages (l : Launch) (E : EN) {ad : Int → Nat} (hj : INJ ad) (sp : Int → SpT) (se : Int → Int) (al : Int → Nat) (ta : Int → Int) (n pg : Int) (u o : Int) (hh : 0 ≤ u ∧ u < n) (hn : 0 ≤ n ∧ n ≤ 24) (ho : 0 ≤ o ∧ o < n) (hpg : 1 ≤ pg ∧ pg ≤ 300) (hsp : SPV sp n pg) : Met l yX1_commonPages wsX1_commonPages ({ frames := 2, cells := 0, slots := 0, locals := 43 }) (CI E [.ref (ad 0), .int (iI u), .int (iI o)] (CW E ad sp se al ta n pg)) (QW (some (.int (iI (smI (fun r => pI (cov (sp u) (r + 1) ∧ cov (sp o) (r + 1))) pg.toNat)))) (CW E ad sp se al ta n pg) (fun _ => False)) 0 0 (fun _ => False) := by
  refine g_met (cc := cX1_commonPages) (maxL := 3) (ret := (some .int)) (lv := [(0, .ref (ad 0)), (1, .int (iI u)), (2, .int (iI o))]) (by decide) rfl (Nat.le_of_ble_eq_true rfl) rfl ?_
  intro xp xe xs xm xa xb xh xc S xK xr xlk xin
  refine g_aload_n S dX1_commonPages_0 rfl 0 rfl ?_
  refine g_iload_n S dX1_commonPages_1 rfl 1 rfl ?_
  refine g_callV S xK (As := [.int (iI u)]) (st := []) (stk' := []) (Wp' := CW E ad sp se al ta n pg) (r := (RX1, TX1, 9)) (m_X1_needHeading l E hj sp se al ta n pg u (by omega) hn) (cwV 1 S.2.2.2.2 gX1_commonPages_X1_needHeading rfl rfl rfl (by decide +kernel) ⟨Nat.le_of_ble_eq_true rfl, Nat.le_of_ble_eq_true rfl⟩) rfl rfl rfl rfl (Nat.le_of_ble_eq_true rfl) ⟨Nat.le_of_ble_eq_true rfl, Nat.le_of_ble_eq_true rfl⟩ (fun _ q => q.elim) (fun _ h => cw_x h) (fun _ h => h) (fun _ _ _ h _ _ => h) dX1_commonPages_2 ?_
  refine g_aload_n S dX1_commonPages_5 rfl 0 rfl ?_
  refine g_iload_n S dX1_commonPages_6 rfl 2 rfl ?_
  refine g_callV S xK (As := [.int (iI o)]) (st := []) (stk' := []) (Wp' := CW E ad sp se al ta n pg) (r := (RX1, TX1, 9)) (m_X1_needHeading l E hj sp se al ta n pg o (by omega) hn) (cwV 1 S.2.2.2.2 gX1_commonPages_X1_needHeading rfl rfl rfl (by decide +kernel) ⟨Nat.le_of_ble_eq_true rfl, Nat.le_of_ble_eq_true rfl⟩) rfl rfl rfl rfl (Nat.le_of_ble_eq_true rfl) ⟨Nat.le_of_ble_eq_true rfl, Nat.le_of_ble_eq_true rfl⟩ (fun _ q => q.elim) (fun _ h => cw_x h) (fun _ h => h) (fun _ _ _ h _ _ => h) dX1_commonPages_7 ?_
  refine g_aload_n S dX1_commonPages_10 rfl 0 rfl ?_
  refine g_iload_n S dX1_commonPages_11 rfl 1 rfl ?_
  refine g_callV S xK (As := [.int (iI u)]) (st := []) (stk' := [.ref (ad (5 + 3 * u))]) (Wp' := CW E ad sp se al ta n pg) (r := (RX1, TX1, 9)) (m_X1_spansAt l E hj sp se al ta n pg u (by omega) hn) (cwV 1 S.2.2.2.2 gX1_commonPages_X1_spansAt rfl rfl rfl (by decide +kernel) ⟨Nat.le_of_ble_eq_true rfl, Nat.le_of_ble_eq_true rfl⟩) rfl rfl rfl rfl (Nat.le_of_ble_eq_true rfl) ⟨Nat.le_of_ble_eq_true rfl, Nat.le_of_ble_eq_true rfl⟩ (fun _ q => q.elim) (fun _ h => cw_x h) (fun _ h => h) (fun _ _ _ h _ _ => h) dX1_commonPages_12 ?_
  refine g_aload_n S dX1_commonPages_15 rfl 0 rfl ?_
  refine g_iload_n S dX1_commonPages_16 rfl 2 rfl ?_
  refine g_callV S xK (As := [.int (iI o)]) (st := [.ref (ad (5 + 3 * u))]) (stk' := [.ref (ad (5 + 3 * o)), .ref (ad (5 + 3 * u))]) (Wp' := CW E ad sp se al ta n pg) (r := (RX1, TX1, 9)) (m_X1_spansAt l E hj sp se al ta n pg o (by omega) hn) (cwV 1 S.2.2.2.2 gX1_commonPages_X1_spansAt rfl rfl rfl (by decide +kernel) ⟨Nat.le_of_ble_eq_true rfl, Nat.le_of_ble_eq_true rfl⟩) rfl rfl rfl rfl (Nat.le_of_ble_eq_true rfl) ⟨Nat.le_of_ble_eq_true rfl, Nat.le_of_ble_eq_true rfl⟩ (fun _ q => q.elim) (fun _ h => cw_x h) (fun _ h => h) (fun _ _ _ h _ _ => h) dX1_commonPages_17 ?_
  refine g_callV S xK (As := [.ref (ad (5 + 3 * o))]) (st := []) (stk' := [.int (iI (pic (sp u) (sp o) ((sp u).1 + (sp o).1).toNat 0 0 0))]) (Wp' := CW E ad sp se al ta n pg) (r := (RX0, TX0, 3)) (m_X0_pagesInCommon l E hj sp se al ta n pg u (by omega) (sp u) (rfl) o (by omega) (sp o) (rfl) (vl_wb (by omega) (hsp u (by omega) (by omega)).1) (vl_wb (by omega) (hsp o (by omega) (by omega)).1)) (cwV 1 S.2.2.2.2 gX1_commonPages_X0_pagesInCommon rfl rfl rfl (by decide +kernel) ⟨Nat.le_of_ble_eq_true rfl, Nat.le_of_ble_eq_true rfl⟩) rfl rfl rfl rfl (Nat.le_of_ble_eq_true rfl) ⟨Nat.le_of_ble_eq_true rfl, Nat.le_of_ble_eq_true rfl⟩ (fun _ q => q.elim) (fun _ h => cw_o (i := u) h (by omega) (rfl)) (fun _ h => h) (fun _ _ _ h _ _ => h) dX1_commonPages_20 ?_
  rw [show (smI (fun r => pI (cov (sp u) (r + 1) ∧ cov (sp o) (r + 1))) pg.toNat) = (pic (sp u) (sp o) ((sp u).1 + (sp o).1).toNat 0 0 0) from (pic_all (hsp u (by omega) (by omega)).1 (hsp o (by omega) (by omega)).1 (by omega)).symm]
  exact g_iret S xr xlk dX1_commonPages_23 (fun _ h => h)
set_option maxHeartbeats 4000000 in
set_option maxRecDepth 100000 in
theorem m_X1_commonPagesX (l : Launch) (hlt : l.stackTraces = false) (E : EN) (bs : Nat) {ad : Int → Nat} (hj : INJ ad) (sp : Int → SpT) (se : Int → Int) (al : Int → Nat) (ta : Int → Int) (n pg : Int) (u o : Int) (hh : u < 0 ∨ n ≤ u) (hr : -2147483648 ≤ u ∧ u ≤ 2147483647) (hn : 0 ≤ n ∧ n ≤ 24) : vx_Met l yX1_commonPages wsX1_commonPages ({ frames := 7, cells := 1, slots := 6, locals := 103 }) (CX E bs [.ref (ad 0), .int (iI u), .int (iI o)] (CW E ad sp se al ta n pg)) QF (XW "java/lang/IndexOutOfBoundsException" (CW E ad sp se al ta n pg) (fun _ => False)) 1 6 (fun _ => False) := by
  refine g_metX (cc := cX1_commonPages) (maxL := 3) (ret := (some .int)) (lv := [(0, .ref (ad 0)), (1, .int (iI u)), (2, .int (iI o))]) (by decide) rfl (Nat.le_of_ble_eq_true rfl) rfl ?_
  intro xp xe xs xm xa xb xh xc S xK xX xlk xno
  refine g_aload_n S dX1_commonPages_0 rfl 0 rfl ?_
  refine g_iload_n S dX1_commonPages_1 rfl 1 rfl ?_
  exact g_callVX S xK xlk xno xX (As := [.int (iI u)]) (st := []) (r := (RX1, TX1, 9)) (m_X1_needHeadingX l hlt E bs hj sp se al ta n pg u (by omega) (by omega) hn) (cwV 1 S.2.2.2.2 gX1_commonPages_X1_needHeading rfl rfl rfl (by decide +kernel) ⟨Nat.le_of_ble_eq_true rfl, Nat.le_of_ble_eq_true rfl⟩) rfl rfl rfl (Nat.le_of_ble_eq_true rfl) ⟨Nat.le_of_ble_eq_true rfl, Nat.le_of_ble_eq_true rfl, Nat.le_of_ble_eq_true rfl, Nat.le_of_ble_eq_true rfl⟩ (fun _ q => q.elim) (fun _ q => q.elim) (fun _ h => cw_x h) (fun _ h => h) (fun _ _ _ h _ _ => h) dX1_commonPages_2
set_option maxHeartbeats 4000000 in
set_option maxRecDepth 100000 in
theorem m_X1_commonPagesY (l : Launch) (hlt : l.stackTraces = false) (E : EN) (bs : Nat) {ad : Int → Nat} (hj : INJ ad) (sp : Int → SpT) (se : Int → Int) (al : Int → Nat) (ta : Int → Int) (n pg : Int) (u o : Int) (hh : 0 ≤ u ∧ u < n) (hn : 0 ≤ n ∧ n ≤ 24) (ho : o < 0 ∨ n ≤ o) (hr : -2147483648 ≤ o ∧ o ≤ 2147483647) : vx_Met l yX1_commonPages wsX1_commonPages ({ frames := 7, cells := 1, slots := 6, locals := 103 }) (CX E bs [.ref (ad 0), .int (iI u), .int (iI o)] (CW E ad sp se al ta n pg)) QF (XW "java/lang/IndexOutOfBoundsException" (CW E ad sp se al ta n pg) (fun _ => False)) 1 6 (fun _ => False) := by
  refine g_metX (cc := cX1_commonPages) (maxL := 3) (ret := (some .int)) (lv := [(0, .ref (ad 0)), (1, .int (iI u)), (2, .int (iI o))]) (by decide) rfl (Nat.le_of_ble_eq_true rfl) rfl ?_
  intro xp xe xs xm xa xb xh xc S xK xX xlk xno
  refine g_aload_n S dX1_commonPages_0 rfl 0 rfl ?_
  refine g_iload_n S dX1_commonPages_1 rfl 1 rfl ?_
  refine g_callV S xK (As := [.int (iI u)]) (st := []) (stk' := []) (Wp' := CW E ad sp se al ta n pg) (r := (RX1, TX1, 9)) (m_X1_needHeading l E hj sp se al ta n pg u (by omega) hn) (cwV 1 S.2.2.2.2 gX1_commonPages_X1_needHeading rfl rfl rfl (by decide +kernel) ⟨Nat.le_of_ble_eq_true rfl, Nat.le_of_ble_eq_true rfl⟩) rfl rfl rfl rfl (Nat.le_of_ble_eq_true rfl) ⟨Nat.le_of_ble_eq_true rfl, Nat.le_of_ble_eq_true rfl⟩ (fun _ q => q.elim) (fun _ h => cw_x h) (fun _ h => h) (fun _ _ _ h _ _ => h) dX1_commonPages_2 ?_
  refine g_aload_n S dX1_commonPages_5 rfl 0 rfl ?_
  refine g_iload_n S dX1_commonPages_6 rfl 2 rfl ?_
  exact g_callVX S xK xlk xno xX (As := [.int (iI o)]) (st := []) (r := (RX1, TX1, 9)) (m_X1_needHeadingX l hlt E bs hj sp se al ta n pg o (by omega) (by omega) hn) (cwV 1 S.2.2.2.2 gX1_commonPages_X1_needHeading rfl rfl rfl (by decide +kernel) ⟨Nat.le_of_ble_eq_true rfl, Nat.le_of_ble_eq_true rfl⟩) rfl rfl rfl (Nat.le_of_ble_eq_true rfl) ⟨Nat.le_of_ble_eq_true rfl, Nat.le_of_ble_eq_true rfl, Nat.le_of_ble_eq_true rfl, Nat.le_of_ble_eq_true rfl⟩ (fun _ q => q.elim) (fun _ q => q.elim) (fun _ h => cw_x h) (fun _ h => h) (fun _ _ _ h _ _ => h) dX1_commonPages_7
set_option maxHeartbeats 4000000 in
set_option maxRecDepth 100000 in
theorem m_X1_spansTogether (l : Launch) (E : EN) {ad : Int → Nat} (hj : INJ ad) (sp : Int → SpT) (se : Int → Int) (al : Int → Nat) (ta : Int → Int) (n pg : Int) (u o : Int) (hh : 0 ≤ u ∧ u < n) (hn : 0 ≤ n ∧ n ≤ 24) (ho : 0 ≤ o ∧ o < n) (hpg : 1 ≤ pg ∧ pg ≤ 300) (hsp : SPV sp n pg) : Met l yX1_spansTogether wsX1_spansTogether ({ frames := 3, cells := 0, slots := 0, locals := 64 }) (CI E [.ref (ad 0), .int (iI u), .int (iI o)] (CW E ad sp se al ta n pg)) (QW (some (.int (iI ((spS (fun q => cov (sp u) q ∨ cov (sp o) q) 0 pg.toNat).1)))) (CQ E ad se al n pg (fun i g => g = sp i)) (AX ad)) 0 0 (AX ad) := by
  refine g_met (cc := cX1_spansTogether) (maxL := 3) (ret := (some .int)) (lv := [(0, .ref (ad 0)), (1, .int (iI u)), (2, .int (iI o))]) (by decide) rfl (Nat.le_of_ble_eq_true rfl) rfl ?_
  intro xp xe xs xm xa xb xh xc S xK xr xlk xin
  have kf30 := S.2.2.2.2 (.fieldLink RX1 30 "BookIndex" "made" "LBookIndex$Spans;") (by decide +kernel)
  have hin1 : ∀ w ∈ wsX10, w ∈ wsX1_spansTogether := by decide +kernel
  have vu := hsp u (by omega) (by omega)
  have vo := hsp o (by omega) (by omega)
  refine g_aload_n S dX1_spansTogether_0 rfl 0 rfl ?_
  refine g_iload_n S dX1_spansTogether_1 rfl 1 rfl ?_
  refine g_callV S xK (As := [.int (iI u)]) (st := []) (stk' := []) (Wp' := CW E ad sp se al ta n pg) (r := (RX1, TX1, 9)) (m_X1_needHeading l E hj sp se al ta n pg u (by omega) hn) (cwV 1 S.2.2.2.2 gX1_spansTogether_X1_needHeading rfl rfl rfl (by decide +kernel) ⟨Nat.le_of_ble_eq_true rfl, Nat.le_of_ble_eq_true rfl⟩) rfl rfl rfl rfl (Nat.le_of_ble_eq_true rfl) ⟨Nat.le_of_ble_eq_true rfl, Nat.le_of_ble_eq_true rfl⟩ (fun _ q => q.elim) (fun _ h => cw_x h) (fun _ h => h) (fun _ _ _ h _ _ => h) dX1_spansTogether_2 ?_
  refine g_aload_n S dX1_spansTogether_5 rfl 0 rfl ?_
  refine g_iload_n S dX1_spansTogether_6 rfl 2 rfl ?_
  refine g_callV S xK (As := [.int (iI o)]) (st := []) (stk' := []) (Wp' := CW E ad sp se al ta n pg) (r := (RX1, TX1, 9)) (m_X1_needHeading l E hj sp se al ta n pg o (by omega) hn) (cwV 1 S.2.2.2.2 gX1_spansTogether_X1_needHeading rfl rfl rfl (by decide +kernel) ⟨Nat.le_of_ble_eq_true rfl, Nat.le_of_ble_eq_true rfl⟩) rfl rfl rfl rfl (Nat.le_of_ble_eq_true rfl) ⟨Nat.le_of_ble_eq_true rfl, Nat.le_of_ble_eq_true rfl⟩ (fun _ q => q.elim) (fun _ h => cw_x h) (fun _ h => h) (fun _ _ _ h _ _ => h) dX1_spansTogether_7 ?_
  refine g_aload_n S dX1_spansTogether_10 rfl 0 rfl ?_
  refine g_get S xK (ref := "BookIndex") hin1 5 (by decide) (show vwCl[1]? = some (RX1, TX1, 9) from rfl) kf30 (fun _ h9 => h9) (fun _ h => cw_x h) rfl dX1_spansTogether_11 ?_
  refine g_aload_n S dX1_spansTogether_14 rfl 0 rfl ?_
  refine g_iload_n S dX1_spansTogether_15 rfl 1 rfl ?_
  refine g_callV S xK (As := [.int (iI u)]) (st := [.ref (ad (5 + 3 * 25))]) (stk' := [.ref (ad (5 + 3 * u)), .ref (ad (5 + 3 * 25))]) (Wp' := CW E ad sp se al ta n pg) (r := (RX1, TX1, 9)) (m_X1_spansAt l E hj sp se al ta n pg u (by omega) hn) (cwV 1 S.2.2.2.2 gX1_spansTogether_X1_spansAt rfl rfl rfl (by decide +kernel) ⟨Nat.le_of_ble_eq_true rfl, Nat.le_of_ble_eq_true rfl⟩) rfl rfl rfl rfl (Nat.le_of_ble_eq_true rfl) ⟨Nat.le_of_ble_eq_true rfl, Nat.le_of_ble_eq_true rfl⟩ (fun _ q => q.elim) (fun _ h => cw_x h) (fun _ h => h) (fun _ _ _ h _ _ => h) dX1_spansTogether_16 ?_
  refine g_aload_n S dX1_spansTogether_19 rfl 0 rfl ?_
  refine g_iload_n S dX1_spansTogether_20 rfl 2 rfl ?_
  refine g_callV S xK (As := [.int (iI o)]) (st := [.ref (ad (5 + 3 * u)), .ref (ad (5 + 3 * 25))]) (stk' := [.ref (ad (5 + 3 * o)), .ref (ad (5 + 3 * u)), .ref (ad (5 + 3 * 25))]) (Wp' := CW E ad sp se al ta n pg) (r := (RX1, TX1, 9)) (m_X1_spansAt l E hj sp se al ta n pg o (by omega) hn) (cwV 1 S.2.2.2.2 gX1_spansTogether_X1_spansAt rfl rfl rfl (by decide +kernel) ⟨Nat.le_of_ble_eq_true rfl, Nat.le_of_ble_eq_true rfl⟩) rfl rfl rfl rfl (Nat.le_of_ble_eq_true rfl) ⟨Nat.le_of_ble_eq_true rfl, Nat.le_of_ble_eq_true rfl⟩ (fun _ q => q.elim) (fun _ h => cw_x h) (fun _ h => h) (fun _ _ _ h _ _ => h) dX1_spansTogether_21 ?_
  refine g_callV S xK (As := [.ref (ad (5 + 3 * u)), .ref (ad (5 + 3 * o))]) (st := []) (stk' := []) (Wp' := CW E ad (upI sp 25 (uni (sp u) (sp o) ((sp u).1 + (sp o).1).toNat 0 0 (0, (sp 25).2.1, (sp 25).2.2))) se al ta n pg) (r := (RX0, TX0, 3)) (m_X0_becomeUnion l E hj sp se al ta n pg 25 (by omega) (sp 25) (rfl) u (by omega) (sp u) (rfl) o (by omega) (sp o) (rfl) (by omega) (by omega) (vl_wb (by omega) (hsp u (by omega) (by omega)).1) (vl_wb (by omega) (hsp o (by omega) (by omega)).1)) (cwV 2 S.2.2.2.2 gX1_spansTogether_X0_becomeUnion rfl rfl rfl (by decide +kernel) ⟨Nat.le_of_ble_eq_true rfl, Nat.le_of_ble_eq_true rfl⟩) rfl rfl rfl rfl (Nat.le_of_ble_eq_true rfl) ⟨Nat.le_of_ble_eq_true rfl, Nat.le_of_ble_eq_true rfl⟩ (fun _ q => q) (fun _ h => cw_o (i := 25) h (by omega) (rfl)) (fun _ h => h) (fun _ _ _ h _ _ => h) dX1_spansTogether_24 ?_
  refine g_aload_n S dX1_spansTogether_27 rfl 0 rfl ?_
  refine g_get S xK (ref := "BookIndex") hin1 5 (by decide) (show vwCl[1]? = some (RX1, TX1, 9) from rfl) kf30 (fun _ h9 => h9) (fun _ h => cw_x h) rfl dX1_spansTogether_28 ?_
  refine g_callV S xK (As := []) (st := []) (stk' := [.int (iI ((uni (sp u) (sp o) ((sp u).1 + (sp o).1).toNat 0 0 (0, (sp 25).2.1, (sp 25).2.2)).1))]) (Wp' := CW E ad (upI sp 25 (uni (sp u) (sp o) ((sp u).1 + (sp o).1).toNat 0 0 (0, (sp 25).2.1, (sp 25).2.2))) se al ta n pg) (r := (RX0, TX0, 3)) (m_X0_count l E hj (upI sp 25 (uni (sp u) (sp o) ((sp u).1 + (sp o).1).toNat 0 0 (0, (sp 25).2.1, (sp 25).2.2))) se al ta n pg 25 (by omega) (uni (sp u) (sp o) ((sp u).1 + (sp o).1).toNat 0 0 (0, (sp 25).2.1, (sp 25).2.2)) (upI_s _ _ _) ) (cwV 0 S.2.2.2.2 gX1_spansTogether_X0_count rfl rfl rfl (by decide +kernel) ⟨Nat.le_of_ble_eq_true rfl, Nat.le_of_ble_eq_true rfl⟩) rfl rfl rfl rfl (Nat.le_of_ble_eq_true rfl) ⟨Nat.le_of_ble_eq_true rfl, Nat.le_of_ble_eq_true rfl⟩ (fun _ q => q.elim) (fun _ h => cw_o (i := 25) h (by omega) (upI_s _ _ _)) (fun _ h => h) (fun _ _ _ h _ _ => h) dX1_spansTogether_31 ?_
  rw [show ((spS (fun q => cov (sp u) q ∨ cov (sp o) q) 0 pg.toNat).1) = ((uni (sp u) (sp o) ((sp u).1 + (sp o).1).toNat 0 0 (0, (sp 25).2.1, (sp 25).2.2)).1) from by have hU := uni_vl vu.1 vo.1 (by omega) (sp 25).2.1 (sp 25).2.2; rw [vl_ns hU.1 (by omega)]; exact congrArg Prod.fst (spS_c (fun q _ _ => (hU.2 q).symm))]
  exact g_iret S xr xlk dX1_spansTogether_34 (fun _ h => ⟨_, _, fun i h0 h1 => upI_n _ _ (by omega), h⟩)
set_option maxHeartbeats 4000000 in
set_option maxRecDepth 100000 in
theorem m_X1_spansTogetherX (l : Launch) (hlt : l.stackTraces = false) (E : EN) (bs : Nat) {ad : Int → Nat} (hj : INJ ad) (sp : Int → SpT) (se : Int → Int) (al : Int → Nat) (ta : Int → Int) (n pg : Int) (u o : Int) (hh : u < 0 ∨ n ≤ u) (hr : -2147483648 ≤ u ∧ u ≤ 2147483647) (hn : 0 ≤ n ∧ n ≤ 24) : vx_Met l yX1_spansTogether wsX1_spansTogether ({ frames := 7, cells := 1, slots := 6, locals := 103 }) (CX E bs [.ref (ad 0), .int (iI u), .int (iI o)] (CW E ad sp se al ta n pg)) QF (XW "java/lang/IndexOutOfBoundsException" (CW E ad sp se al ta n pg) (fun _ => False)) 1 6 (fun _ => False) := by
  refine g_metX (cc := cX1_spansTogether) (maxL := 3) (ret := (some .int)) (lv := [(0, .ref (ad 0)), (1, .int (iI u)), (2, .int (iI o))]) (by decide) rfl (Nat.le_of_ble_eq_true rfl) rfl ?_
  intro xp xe xs xm xa xb xh xc S xK xX xlk xno
  refine g_aload_n S dX1_spansTogether_0 rfl 0 rfl ?_
  refine g_iload_n S dX1_spansTogether_1 rfl 1 rfl ?_
  exact g_callVX S xK xlk xno xX (As := [.int (iI u)]) (st := []) (r := (RX1, TX1, 9)) (m_X1_needHeadingX l hlt E bs hj sp se al ta n pg u (by omega) (by omega) hn) (cwV 1 S.2.2.2.2 gX1_spansTogether_X1_needHeading rfl rfl rfl (by decide +kernel) ⟨Nat.le_of_ble_eq_true rfl, Nat.le_of_ble_eq_true rfl⟩) rfl rfl rfl (Nat.le_of_ble_eq_true rfl) ⟨Nat.le_of_ble_eq_true rfl, Nat.le_of_ble_eq_true rfl, Nat.le_of_ble_eq_true rfl, Nat.le_of_ble_eq_true rfl⟩ (fun _ q => q.elim) (fun _ q => q.elim) (fun _ h => cw_x h) (fun _ h => h) (fun _ _ _ h _ _ => h) dX1_spansTogether_2
set_option maxHeartbeats 4000000 in
set_option maxRecDepth 100000 in
theorem m_X1_spansTogetherY (l : Launch) (hlt : l.stackTraces = false) (E : EN) (bs : Nat) {ad : Int → Nat} (hj : INJ ad) (sp : Int → SpT) (se : Int → Int) (al : Int → Nat) (ta : Int → Int) (n pg : Int) (u o : Int) (hh : 0 ≤ u ∧ u < n) (hn : 0 ≤ n ∧ n ≤ 24) (ho : o < 0 ∨ n ≤ o) (hr : -2147483648 ≤ o ∧ o ≤ 2147483647) : vx_Met l yX1_spansTogether wsX1_spansTogether ({ frames := 7, cells := 1, slots := 6, locals := 103 }) (CX E bs [.ref (ad 0), .int (iI u), .int (iI o)] (CW E ad sp se al ta n pg)) QF (XW "java/lang/IndexOutOfBoundsException" (CW E ad sp se al ta n pg) (fun _ => False)) 1 6 (fun _ => False) := by
  refine g_metX (cc := cX1_spansTogether) (maxL := 3) (ret := (some .int)) (lv := [(0, .ref (ad 0)), (1, .int (iI u)), (2, .int (iI o))]) (by decide) rfl (Nat.le_of_ble_eq_true rfl) rfl ?_
  intro xp xe xs xm xa xb xh xc S xK xX xlk xno
  refine g_aload_n S dX1_spansTogether_0 rfl 0 rfl ?_
  refine g_iload_n S dX1_spansTogether_1 rfl 1 rfl ?_
  refine g_callV S xK (As := [.int (iI u)]) (st := []) (stk' := []) (Wp' := CW E ad sp se al ta n pg) (r := (RX1, TX1, 9)) (m_X1_needHeading l E hj sp se al ta n pg u (by omega) hn) (cwV 1 S.2.2.2.2 gX1_spansTogether_X1_needHeading rfl rfl rfl (by decide +kernel) ⟨Nat.le_of_ble_eq_true rfl, Nat.le_of_ble_eq_true rfl⟩) rfl rfl rfl rfl (Nat.le_of_ble_eq_true rfl) ⟨Nat.le_of_ble_eq_true rfl, Nat.le_of_ble_eq_true rfl⟩ (fun _ q => q.elim) (fun _ h => cw_x h) (fun _ h => h) (fun _ _ _ h _ _ => h) dX1_spansTogether_2 ?_
  refine g_aload_n S dX1_spansTogether_5 rfl 0 rfl ?_
  refine g_iload_n S dX1_spansTogether_6 rfl 2 rfl ?_
  exact g_callVX S xK xlk xno xX (As := [.int (iI o)]) (st := []) (r := (RX1, TX1, 9)) (m_X1_needHeadingX l hlt E bs hj sp se al ta n pg o (by omega) (by omega) hn) (cwV 1 S.2.2.2.2 gX1_spansTogether_X1_needHeading rfl rfl rfl (by decide +kernel) ⟨Nat.le_of_ble_eq_true rfl, Nat.le_of_ble_eq_true rfl⟩) rfl rfl rfl (Nat.le_of_ble_eq_true rfl) ⟨Nat.le_of_ble_eq_true rfl, Nat.le_of_ble_eq_true rfl, Nat.le_of_ble_eq_true rfl, Nat.le_of_ble_eq_true rfl⟩ (fun _ q => q.elim) (fun _ q => q.elim) (fun _ h => cw_x h) (fun _ h => h) (fun _ _ _ h _ _ => h) dX1_spansTogether_7
set_option maxHeartbeats 4000000 in
set_option maxRecDepth 100000 in
theorem m_X1_spansWithGap (l : Launch) (E : EN) {ad : Int → Nat} (hj : INJ ad) (sp : Int → SpT) (se : Int → Int) (al : Int → Nat) (ta : Int → Int) (n pg : Int) (u gap : Int) (hh : 0 ≤ u ∧ u < n) (hn : 0 ≤ n ∧ n ≤ 24) (hpg : 1 ≤ pg ∧ pg ≤ 300) (hsp : SPV sp n pg) (hgap : 0 ≤ gap ∧ gap ≤ 100) : Met l yX1_spansWithGap wsX1_spansWithGap ({ frames := 3, cells := 0, slots := 0, locals := 61 }) (CI E [.ref (ad 0), .int (iI u), .int (iI gap)] (CW E ad sp se al ta n pg)) (QW (some (.int (iI ((spS (cov (sp u)) gap pg.toNat).1)))) (CQ E ad se al n pg (fun i g => g = sp i)) (AX ad)) 0 0 (AX ad) := by
  refine g_met (cc := cX1_spansWithGap) (maxL := 3) (ret := (some .int)) (lv := [(0, .ref (ad 0)), (1, .int (iI u)), (2, .int (iI gap))]) (by decide) rfl (Nat.le_of_ble_eq_true rfl) rfl ?_
  intro xp xe xs xm xa xb xh xc S xK xr xlk xin
  have kf30 := S.2.2.2.2 (.fieldLink RX1 30 "BookIndex" "made" "LBookIndex$Spans;") (by decide +kernel)
  have hin1 : ∀ w ∈ wsX10, w ∈ wsX1_spansWithGap := by decide +kernel
  refine g_aload_n S dX1_spansWithGap_0 rfl 0 rfl ?_
  refine g_iload_n S dX1_spansWithGap_1 rfl 1 rfl ?_
  refine g_callV S xK (As := [.int (iI u)]) (st := []) (stk' := []) (Wp' := CW E ad sp se al ta n pg) (r := (RX1, TX1, 9)) (m_X1_needHeading l E hj sp se al ta n pg u (by omega) hn) (cwV 1 S.2.2.2.2 gX1_spansWithGap_X1_needHeading rfl rfl rfl (by decide +kernel) ⟨Nat.le_of_ble_eq_true rfl, Nat.le_of_ble_eq_true rfl⟩) rfl rfl rfl rfl (Nat.le_of_ble_eq_true rfl) ⟨Nat.le_of_ble_eq_true rfl, Nat.le_of_ble_eq_true rfl⟩ (fun _ q => q.elim) (fun _ h => cw_x h) (fun _ h => h) (fun _ _ _ h _ _ => h) dX1_spansWithGap_2 ?_
  refine g_iload_n S dX1_spansWithGap_5 rfl 2 rfl ?_
  refine g_if_lt S (tgt := 15) dX1_spansWithGap_6 (by decide) (by omega) (fun c6 => ?_) (fun c6 => ?_)
  · skip
    exact absurd c6 (by omega)
  · skip
    refine g_iload_n S dX1_spansWithGap_9 rfl 2 rfl ?_
    refine g_bipush S dX1_spansWithGap_10 (by decide) ?_
    refine g_icmp_le S (tgt := 25) dX1_spansWithGap_12 (by decide) (by omega) (fun c12 => ?_) (fun c12 => ?_)
    · skip
      refine g_aload_n S dX1_spansWithGap_25 rfl 0 rfl ?_
      refine g_get S xK (ref := "BookIndex") hin1 5 (by decide) (show vwCl[1]? = some (RX1, TX1, 9) from rfl) kf30 (fun _ h9 => h9) (fun _ h => cw_x h) rfl dX1_spansWithGap_26 ?_
      refine g_aload_n S dX1_spansWithGap_29 rfl 0 rfl ?_
      refine g_iload_n S dX1_spansWithGap_30 rfl 1 rfl ?_
      refine g_callV S xK (As := [.int (iI u)]) (st := [.ref (ad (5 + 3 * 25))]) (stk' := [.ref (ad (5 + 3 * u)), .ref (ad (5 + 3 * 25))]) (Wp' := CW E ad sp se al ta n pg) (r := (RX1, TX1, 9)) (m_X1_spansAt l E hj sp se al ta n pg u (by omega) hn) (cwV 1 S.2.2.2.2 gX1_spansWithGap_X1_spansAt rfl rfl rfl (by decide +kernel) ⟨Nat.le_of_ble_eq_true rfl, Nat.le_of_ble_eq_true rfl⟩) rfl rfl rfl rfl (Nat.le_of_ble_eq_true rfl) ⟨Nat.le_of_ble_eq_true rfl, Nat.le_of_ble_eq_true rfl⟩ (fun _ q => q.elim) (fun _ h => cw_x h) (fun _ h => h) (fun _ _ _ h _ _ => h) dX1_spansWithGap_31 ?_
      refine g_iload_n S dX1_spansWithGap_34 rfl 2 rfl ?_
      refine g_callV S xK (As := [.ref (ad (5 + 3 * u)), .int (iI gap)]) (st := []) (stk' := []) (Wp' := CW E ad (upI sp 25 (brg (sp u) gap (0, (sp 25).2.1, (sp 25).2.2) (sp u).1.toNat)) se al ta n pg) (r := (RX0, TX0, 3)) (m_X0_becomeBridged l E hj sp se al ta n pg 25 (by omega) (sp 25) (rfl) u (by omega) (sp u) (rfl) (by omega) gap (vl_wb (by omega) (hsp u (by omega) (by omega)).1) (by omega)) (cwV 2 S.2.2.2.2 gX1_spansWithGap_X0_becomeBridged rfl rfl rfl (by decide +kernel) ⟨Nat.le_of_ble_eq_true rfl, Nat.le_of_ble_eq_true rfl⟩) rfl rfl rfl rfl (Nat.le_of_ble_eq_true rfl) ⟨Nat.le_of_ble_eq_true rfl, Nat.le_of_ble_eq_true rfl⟩ (fun _ q => q) (fun _ h => cw_o (i := 25) h (by omega) (rfl)) (fun _ h => h) (fun _ _ _ h _ _ => h) dX1_spansWithGap_35 ?_
      refine g_aload_n S dX1_spansWithGap_38 rfl 0 rfl ?_
      refine g_get S xK (ref := "BookIndex") hin1 5 (by decide) (show vwCl[1]? = some (RX1, TX1, 9) from rfl) kf30 (fun _ h9 => h9) (fun _ h => cw_x h) rfl dX1_spansWithGap_39 ?_
      refine g_callV S xK (As := []) (st := []) (stk' := [.int (iI ((brg (sp u) gap (0, (sp 25).2.1, (sp 25).2.2) (sp u).1.toNat).1))]) (Wp' := CW E ad (upI sp 25 (brg (sp u) gap (0, (sp 25).2.1, (sp 25).2.2) (sp u).1.toNat)) se al ta n pg) (r := (RX0, TX0, 3)) (m_X0_count l E hj (upI sp 25 (brg (sp u) gap (0, (sp 25).2.1, (sp 25).2.2) (sp u).1.toNat)) se al ta n pg 25 (by omega) (brg (sp u) gap (0, (sp 25).2.1, (sp 25).2.2) (sp u).1.toNat) (upI_s _ _ _) ) (cwV 0 S.2.2.2.2 gX1_spansWithGap_X0_count rfl rfl rfl (by decide +kernel) ⟨Nat.le_of_ble_eq_true rfl, Nat.le_of_ble_eq_true rfl⟩) rfl rfl rfl rfl (Nat.le_of_ble_eq_true rfl) ⟨Nat.le_of_ble_eq_true rfl, Nat.le_of_ble_eq_true rfl⟩ (fun _ q => q.elim) (fun _ h => cw_o (i := 25) h (by omega) (upI_s _ _ _)) (fun _ h => h) (fun _ _ _ h _ _ => h) dX1_spansWithGap_42 ?_
      rw [show ((spS (cov (sp u)) gap pg.toNat).1) = ((brg (sp u) gap (0, (sp 25).2.1, (sp 25).2.2) (sp u).1.toNat).1) from (brg_cnt (hsp u (by omega) (by omega)).1 (by omega) (by omega) _ _).symm]
      exact g_iret S xr xlk dX1_spansWithGap_45 (fun _ h => ⟨_, _, fun i h0 h1 => upI_n _ _ (by omega), h⟩)
    · skip
      exact absurd c12 (by omega)
set_option maxHeartbeats 4000000 in
set_option maxRecDepth 100000 in
theorem m_X1_spansWithGapX (l : Launch) (hlt : l.stackTraces = false) (E : EN) (bs : Nat) {ad : Int → Nat} (hj : INJ ad) (sp : Int → SpT) (se : Int → Int) (al : Int → Nat) (ta : Int → Int) (n pg : Int) (u gap : Int) (hh : u < 0 ∨ n ≤ u) (hr : -2147483648 ≤ u ∧ u ≤ 2147483647) (hn : 0 ≤ n ∧ n ≤ 24) : vx_Met l yX1_spansWithGap wsX1_spansWithGap ({ frames := 7, cells := 1, slots := 6, locals := 103 }) (CX E bs [.ref (ad 0), .int (iI u), .int (iI gap)] (CW E ad sp se al ta n pg)) QF (XW "java/lang/IndexOutOfBoundsException" (CW E ad sp se al ta n pg) (fun _ => False)) 1 6 (fun _ => False) := by
  refine g_metX (cc := cX1_spansWithGap) (maxL := 3) (ret := (some .int)) (lv := [(0, .ref (ad 0)), (1, .int (iI u)), (2, .int (iI gap))]) (by decide) rfl (Nat.le_of_ble_eq_true rfl) rfl ?_
  intro xp xe xs xm xa xb xh xc S xK xX xlk xno
  refine g_aload_n S dX1_spansWithGap_0 rfl 0 rfl ?_
  refine g_iload_n S dX1_spansWithGap_1 rfl 1 rfl ?_
  exact g_callVX S xK xlk xno xX (As := [.int (iI u)]) (st := []) (r := (RX1, TX1, 9)) (m_X1_needHeadingX l hlt E bs hj sp se al ta n pg u (by omega) (by omega) hn) (cwV 1 S.2.2.2.2 gX1_spansWithGap_X1_needHeading rfl rfl rfl (by decide +kernel) ⟨Nat.le_of_ble_eq_true rfl, Nat.le_of_ble_eq_true rfl⟩) rfl rfl rfl (Nat.le_of_ble_eq_true rfl) ⟨Nat.le_of_ble_eq_true rfl, Nat.le_of_ble_eq_true rfl, Nat.le_of_ble_eq_true rfl, Nat.le_of_ble_eq_true rfl⟩ (fun _ q => q.elim) (fun _ q => q.elim) (fun _ h => cw_x h) (fun _ h => h) (fun _ _ _ h _ _ => h) dX1_spansWithGap_2
set_option maxHeartbeats 4000000 in
set_option maxRecDepth 100000 in
theorem m_X1_spansWithGapY (l : Launch) (hlt : l.stackTraces = false) (E : EN) (bs : Nat) {ad : Int → Nat} (hj : INJ ad) (sp : Int → SpT) (se : Int → Int) (al : Int → Nat) (ta : Int → Int) (n pg : Int) (u gap : Int) (hh : 0 ≤ u ∧ u < n) (hn : 0 ≤ n ∧ n ≤ 24) (hgap : gap < 0 ∨ 100 < gap) (hr : -2147483648 ≤ gap ∧ gap ≤ 2147483647) : vx_Met l yX1_spansWithGap wsX1_spansWithGap ({ frames := 6, cells := 1, slots := 6, locals := 82 }) (CX E bs [.ref (ad 0), .int (iI u), .int (iI gap)] (CW E ad sp se al ta n pg)) QF (XW "java/lang/IllegalArgumentException" (CW E ad sp se al ta n pg) (fun _ => False)) 1 6 (fun _ => False) := by
  refine g_metX (cc := cX1_spansWithGap) (maxL := 3) (ret := (some .int)) (lv := [(0, .ref (ad 0)), (1, .int (iI u)), (2, .int (iI gap))]) (by decide) rfl (Nat.le_of_ble_eq_true rfl) rfl ?_
  intro xp xe xs xm xa xb xh xc S xK xX xlk xno
  have kk109 := S.2.2.2.2 (.classLink RX1 109 "java/lang/IllegalArgumentException") (by decide +kernel)
  have ki109 := S.2.2.2.2 (.initialized "java/lang/IllegalArgumentException") (by decide +kernel)
  have kg113 : ∀ w ∈ (vx_atS RX1 113 "java/lang/IllegalArgumentException" nm3).filter goodWord, w.before xa xs = true := fun w h => S.2.2.2.2 w (by first | exact List.mem_cons_of_mem _ (List.mem_append_right _ h) | exact List.mem_cons_of_mem _ (List.mem_append_left _ (List.mem_append_right _ h)) | exact List.mem_cons_of_mem _ (List.mem_append_left _ (List.mem_append_left _ (List.mem_append_right _ h))))
  refine g_aload_n S dX1_spansWithGap_0 rfl 0 rfl ?_
  refine g_iload_n S dX1_spansWithGap_1 rfl 1 rfl ?_
  refine g_callV S xK (As := [.int (iI u)]) (st := []) (stk' := []) (Wp' := CW E ad sp se al ta n pg) (r := (RX1, TX1, 9)) (m_X1_needHeading l E hj sp se al ta n pg u (by omega) hn) (cwV 1 S.2.2.2.2 gX1_spansWithGap_X1_needHeading rfl rfl rfl (by decide +kernel) ⟨Nat.le_of_ble_eq_true rfl, Nat.le_of_ble_eq_true rfl⟩) rfl rfl rfl rfl (Nat.le_of_ble_eq_true rfl) ⟨Nat.le_of_ble_eq_true rfl, Nat.le_of_ble_eq_true rfl⟩ (fun _ q => q.elim) (fun _ h => cw_x h) (fun _ h => h) (fun _ _ _ h _ _ => h) dX1_spansWithGap_2 ?_
  refine g_iload_n S dX1_spansWithGap_5 rfl 2 rfl ?_
  refine g_if_lt S (tgt := 15) dX1_spansWithGap_6 (by decide) (by omega) (fun c6 => ?_) (fun c6 => ?_)
  · skip
    exact g_throw S hlt xlk xno xX (cls := "java/lang/IllegalArgumentException") (text := "not a gap of 0 to 100 pages") rfl (by decide) (by decide) (by decide) kk109 ki109 kg113 bad113 ot113 (fun _ q => q.elim) ⟨Nat.le_of_ble_eq_true rfl, Nat.le_of_ble_eq_true rfl, Nat.le_of_ble_eq_true rfl, Nat.le_of_ble_eq_true rfl, Nat.le_of_ble_eq_true rfl, Nat.le_of_ble_eq_true rfl⟩ dX1_spansWithGap_15 dX1_spansWithGap_18 dX1_spansWithGap_19 dX1_spansWithGap_21 dX1_spansWithGap_24 (fun _ _ h h1 h2 => cw_grow h h1 h2)
  · skip
    refine g_iload_n S dX1_spansWithGap_9 rfl 2 rfl ?_
    refine g_bipush S dX1_spansWithGap_10 (by decide) ?_
    refine g_icmp_le S (tgt := 25) dX1_spansWithGap_12 (by decide) (by omega) (fun c12 => ?_) (fun c12 => ?_)
    · skip
      exact absurd c12 (by omega)
    · skip
      exact g_throw S hlt xlk xno xX (cls := "java/lang/IllegalArgumentException") (text := "not a gap of 0 to 100 pages") rfl (by decide) (by decide) (by decide) kk109 ki109 kg113 bad113 ot113 (fun _ q => q.elim) ⟨Nat.le_of_ble_eq_true rfl, Nat.le_of_ble_eq_true rfl, Nat.le_of_ble_eq_true rfl, Nat.le_of_ble_eq_true rfl, Nat.le_of_ble_eq_true rfl, Nat.le_of_ble_eq_true rfl⟩ dX1_spansWithGap_15 dX1_spansWithGap_18 dX1_spansWithGap_19 dX1_spansWithGap_21 dX1_spansWithGap_24 (fun _ _ h h1 h2 => cw_grow h h1 h2)
set_option maxHeartbeats 4000000 in
set_option maxRecDepth 100000 in
theorem m_X1_addHeading (l : Launch) (E : EN) {ad : Int → Nat} (hj : INJ ad) (sp : Int → SpT) (se : Int → Int) (al : Int → Nat) (ta : Int → Int) (n pg : Int) (hn : 0 ≤ n ∧ n < 24) : Met l yX1_addHeading wsX1_addHeading ({ frames := 0, cells := 0, slots := 0, locals := 0 }) (CI E [.ref (ad 0)] (CW E ad sp se al ta n pg)) (QW (some (.int (iI n))) (CW E ad sp (upI se n (-1)) al ta (n + 1) pg) (AX ad)) 0 0 (AX ad) := by
  refine g_met (cc := cX1_addHeading) (maxL := 2) (ret := (some .int)) (lv := [(0, .ref (ad 0))]) (by decide) rfl (Nat.le_of_ble_eq_true rfl) rfl ?_
  intro xp xe xs xm xa xb xh xc S xK xr xlk xin
  have kf36 := S.2.2.2.2 (.fieldLink RX1 36 "BookIndex" "headingCount" "I") (by decide +kernel)
  have kf16 := S.2.2.2.2 (.fieldLink RX1 16 "BookIndex" "sees" "[I") (by decide +kernel)
  have hin1 : ∀ w ∈ wsX10, w ∈ wsX1_addHeading := by decide +kernel
  refine g_aload_n S dX1_addHeading_0 rfl 0 rfl ?_
  refine g_get S xK (ref := "BookIndex") hin1 7 (by decide) (show vwCl[1]? = some (RX1, TX1, 9) from rfl) kf36 (fun _ h9 => h9) (fun _ h => cw_x h) rfl dX1_addHeading_1 ?_
  refine g_bipush S dX1_addHeading_4 (by decide) ?_
  refine g_icmp_lt S (tgt := 19) dX1_addHeading_6 (by decide) (by omega) (fun c6 => ?_) (fun c6 => ?_)
  · skip
    refine g_aload_n S dX1_addHeading_19 rfl 0 rfl ?_
    refine g_get S xK (ref := "BookIndex") hin1 7 (by decide) (show vwCl[1]? = some (RX1, TX1, 9) from rfl) kf36 (fun _ h9 => h9) (fun _ h => cw_x h) rfl dX1_addHeading_20 ?_
    refine g_istore_n S (lv' := [(1, .int (iI n)), (0, .ref (ad 0))]) dX1_addHeading_23 rfl (Nat.le_of_ble_eq_true rfl) rfl ?_
    refine g_aload_n S dX1_addHeading_24 rfl 1 rfl ?_
    refine g_get S xK (ref := "BookIndex") hin1 1 (by decide) (show vwCl[1]? = some (RX1, TX1, 9) from rfl) kf16 (fun _ h9 => h9) (fun _ h => cw_x h) rfl dX1_addHeading_25 ?_
    refine g_iload_n S dX1_addHeading_28 rfl 0 rfl ?_
    refine g_iconst S dX1_addHeading_29 ?_
    refine g_iast S xK (Wp' := CW E ad sp (upI se n (-1)) al ta n pg) (n := 24) (fun _ h => cw_se h) (by omega) (by decide) (ax_in (by omega)) (fun _ _ h hv _ oq => cw_sSe hj h hv oq) dX1_addHeading_30 ?_
    refine g_aload_n S dX1_addHeading_31 rfl 1 rfl ?_
    refine g_dup S dX1_addHeading_32 rfl ?_
    refine g_get S xK (ref := "BookIndex") hin1 7 (by decide) (show vwCl[1]? = some (RX1, TX1, 9) from rfl) kf36 (fun _ h9 => h9) (fun _ h => cw_x h) rfl dX1_addHeading_33 ?_
    refine g_iconst S dX1_addHeading_36 ?_
    refine g_iadd S dX1_addHeading_37 ?_
    refine g_put S xK (Wp' := CW E ad sp (upI se n (-1)) al ta (n + 1) pg) (ref := "BookIndex") (ty := .int) hin1 tyX1 tyX1_ok nmX1 7 (by decide) (show vwCl[1]? = some (RX1, TX1, 9) from rfl) kf36 (fun _ h9 => h9) rfl (by decide +kernel) rfl rfl (fun _ h => cw_x h) (Nat.le_of_ble_eq_true rfl) (ax_in (by omega)) (fun _ _ h hv _ oq => cw_sX hj h hv oq) dX1_addHeading_38 ?_
    refine g_iload_n S dX1_addHeading_41 rfl 0 rfl ?_
    exact g_iret S xr xlk dX1_addHeading_42 (fun _ h => h)
  · skip
    exact absurd c6 (by omega)
set_option maxHeartbeats 4000000 in
set_option maxRecDepth 100000 in
theorem m_X1_addHeadingX (l : Launch) (hlt : l.stackTraces = false) (E : EN) (bs : Nat) {ad : Int → Nat} (hj : INJ ad) (sp : Int → SpT) (se : Int → Int) (al : Int → Nat) (ta : Int → Int) (n pg : Int) (hn : n = 24) : vx_Met l yX1_addHeading wsX1_addHeading ({ frames := 6, cells := 1, slots := 6, locals := 82 }) (CX E bs [.ref (ad 0)] (CW E ad sp se al ta n pg)) QF (XW "java/lang/IllegalStateException" (CW E ad sp se al ta n pg) (fun _ => False)) 1 6 (fun _ => False) := by
  refine g_metX (cc := cX1_addHeading) (maxL := 2) (ret := (some .int)) (lv := [(0, .ref (ad 0))]) (by decide) rfl (Nat.le_of_ble_eq_true rfl) rfl ?_
  intro xp xe xs xm xa xb xh xc S xK xX xlk xno
  have kf36 := S.2.2.2.2 (.fieldLink RX1 36 "BookIndex" "headingCount" "I") (by decide +kernel)
  have kk43 := S.2.2.2.2 (.classLink RX1 43 "java/lang/IllegalStateException") (by decide +kernel)
  have ki43 := S.2.2.2.2 (.initialized "java/lang/IllegalStateException") (by decide +kernel)
  have kg47 : ∀ w ∈ (vx_atS RX1 47 "java/lang/IllegalStateException" nm3).filter goodWord, w.before xa xs = true := fun w h => S.2.2.2.2 w (by first | exact List.mem_cons_of_mem _ (List.mem_append_right _ h) | exact List.mem_cons_of_mem _ (List.mem_append_left _ (List.mem_append_right _ h)) | exact List.mem_cons_of_mem _ (List.mem_append_left _ (List.mem_append_left _ (List.mem_append_right _ h))))
  have hin1 : ∀ w ∈ wsX10, w ∈ wsX1_addHeading := by decide +kernel
  refine g_aload_n S dX1_addHeading_0 rfl 0 rfl ?_
  refine g_get S xK (ref := "BookIndex") hin1 7 (by decide) (show vwCl[1]? = some (RX1, TX1, 9) from rfl) kf36 (fun _ h9 => h9) (fun _ h => cw_x h) rfl dX1_addHeading_1 ?_
  refine g_bipush S dX1_addHeading_4 (by decide) ?_
  refine g_icmp_lt S (tgt := 19) dX1_addHeading_6 (by decide) (by omega) (fun c6 => ?_) (fun c6 => ?_)
  · skip
    exact absurd c6 (by omega)
  · skip
    exact g_throw S hlt xlk xno xX (cls := "java/lang/IllegalStateException") (text := "there are 24 headings") rfl (by decide) (by decide) (by decide) kk43 ki43 kg47 bad47 ot47 (fun _ q => q.elim) ⟨Nat.le_of_ble_eq_true rfl, Nat.le_of_ble_eq_true rfl, Nat.le_of_ble_eq_true rfl, Nat.le_of_ble_eq_true rfl, Nat.le_of_ble_eq_true rfl, Nat.le_of_ble_eq_true rfl⟩ dX1_addHeading_9 dX1_addHeading_12 dX1_addHeading_13 dX1_addHeading_15 dX1_addHeading_18 (fun _ _ h h1 h2 => cw_grow h h1 h2)
set_option maxHeartbeats 4000000 in
set_option maxRecDepth 100000 in
theorem m_X1_addPages (l : Launch) (E : EN) {ad : Int → Nat} (hj : INJ ad) (sp : Int → SpT) (se : Int → Int) (al : Int → Nat) (ta : Int → Int) (n pg : Int) (u fr to : Int) (hh : 0 ≤ u ∧ u < n) (hn : 0 ≤ n ∧ n ≤ 24) (hpg : 1 ≤ pg ∧ pg ≤ 300) (hsp : SPV sp n pg) (hf : 1 ≤ fr ∧ fr ≤ to ∧ to ≤ pg) (hse : se u = -1) (hc : (spS (fun q => cov (sp u) q ∨ (fr ≤ q ∧ q ≤ to)) 0 pg.toNat).1 ≤ 8) : Met l yX1_addPages wsX1_addPages ({ frames := 4, cells := 0, slots := 0, locals := 82 }) (CI E [.ref (ad 0), .int (iI u), .int (iI fr), .int (iI to)] (CW E ad sp se al ta n pg)) (QW (some (.int (iI ((spS (fun q => cov (sp u) q ∨ (fr ≤ q ∧ q ≤ to)) 0 pg.toNat).1)))) (CQ E ad se al n pg (fun i g => (i ≠ u → g = sp i) ∧ (i = u → VL g pg ∧ ∀ q, cov g q ↔ (fun q => cov (sp u) q ∨ (fr ≤ q ∧ q ≤ to)) q))) (AX ad)) 0 0 (AX ad) := by
  refine g_met (cc := cX1_addPages) (maxL := 5) (ret := (some .int)) (lv := [(0, .ref (ad 0)), (1, .int (iI u)), (2, .int (iI fr)), (3, .int (iI to))]) (by decide) rfl (Nat.le_of_ble_eq_true rfl) rfl ?_
  intro xp xe xs xm xa xb xh xc S xK xr xlk xin
  have kf26 := S.2.2.2.2 (.fieldLink RX1 26 "BookIndex" "asked" "LBookIndex$Spans;") (by decide +kernel)
  have kf30 := S.2.2.2.2 (.fieldLink RX1 30 "BookIndex" "made" "LBookIndex$Spans;") (by decide +kernel)
  have hin1 : ∀ w ∈ wsX10, w ∈ wsX1_addPages := by decide +kernel
  have vu := hsp u (by omega) (by omega)
  have hone := one_mk (F := (sp 24).2.1) (L := (sp 24).2.2) (f := fr) (l := to) (pg := pg) hf
  have hU := uni_vl vu.1 hone.1 (by have z := hone.2.1; omega) (sp 25).2.1 (sp 25).2.2
  have eQ : (spS (fun q => cov (sp u) q ∨ (fr ≤ q ∧ q ≤ to)) 0 pg.toNat).1 = (uni (sp u) (apd (0, (sp 24).2.1, (sp 24).2.2) fr to 0) ((sp u).1 + (apd (0, (sp 24).2.1, (sp 24).2.2) fr to 0).1).toNat 0 0 (0, (sp 25).2.1, (sp 25).2.2)).1 := by rw [vl_ns hU.1 (by omega)]; exact congrArg Prod.fst (spS_c (fun q _ _ => ((hU.2 q).trans (or_congr Iff.rfl (hone.2.2.2 q))).symm))
  have eU := hU.1.1
  have eV := hU.1.2.1
  have hbf : bnd fr := by unfold bnd; omega
  have hbt : bnd to := by unfold bnd; omega
  refine g_aload_n S dX1_addPages_0 rfl 0 rfl ?_
  refine g_iload_n S dX1_addPages_1 rfl 1 rfl ?_
  refine g_callV S xK (As := [.int (iI u)]) (st := []) (stk' := []) (Wp' := CW E ad sp se al ta n pg) (r := (RX1, TX1, 9)) (m_X1_needHeading l E hj sp se al ta n pg u (by omega) hn) (cwV 1 S.2.2.2.2 gX1_addPages_X1_needHeading rfl rfl rfl (by decide +kernel) ⟨Nat.le_of_ble_eq_true rfl, Nat.le_of_ble_eq_true rfl⟩) rfl rfl rfl rfl (Nat.le_of_ble_eq_true rfl) ⟨Nat.le_of_ble_eq_true rfl, Nat.le_of_ble_eq_true rfl⟩ (fun _ q => q.elim) (fun _ h => cw_x h) (fun _ h => h) (fun _ _ _ h _ _ => h) dX1_addPages_2 ?_
  refine g_aload_n S dX1_addPages_5 rfl 0 rfl ?_
  refine g_iload_n S dX1_addPages_6 rfl 2 rfl ?_
  refine g_iload_n S dX1_addPages_7 rfl 3 rfl ?_
  refine g_callV S xK (As := [.int (iI fr), .int (iI to)]) (st := []) (stk' := []) (Wp' := CW E ad sp se al ta n pg) (r := (RX1, TX1, 9)) (m_X1_needPages l E hj sp se al ta n pg fr to (by omega) hpg) (cwV 2 S.2.2.2.2 gX1_addPages_X1_needPages rfl rfl rfl (by decide +kernel) ⟨Nat.le_of_ble_eq_true rfl, Nat.le_of_ble_eq_true rfl⟩) rfl rfl rfl rfl (Nat.le_of_ble_eq_true rfl) ⟨Nat.le_of_ble_eq_true rfl, Nat.le_of_ble_eq_true rfl⟩ (fun _ q => q.elim) (fun _ h => cw_x h) (fun _ h => h) (fun _ _ _ h _ _ => h) dX1_addPages_8 ?_
  refine g_aload_n S dX1_addPages_11 rfl 0 rfl ?_
  refine g_iload_n S dX1_addPages_12 rfl 1 rfl ?_
  refine g_callV S xK (As := [.int (iI u)]) (st := []) (stk' := [.int (iI (se u))]) (Wp' := CW E ad sp se al ta n pg) (r := (RX1, TX1, 9)) (m_X1_seeAt l E hj sp se al ta n pg u (by omega) hn) (cwV 1 S.2.2.2.2 gX1_addPages_X1_seeAt rfl rfl rfl (by decide +kernel) ⟨Nat.le_of_ble_eq_true rfl, Nat.le_of_ble_eq_true rfl⟩) rfl rfl rfl rfl (Nat.le_of_ble_eq_true rfl) ⟨Nat.le_of_ble_eq_true rfl, Nat.le_of_ble_eq_true rfl⟩ (fun _ q => q.elim) (fun _ h => cw_x h) (fun _ h => h) (fun _ _ _ h _ _ => h) dX1_addPages_13 ?_
  refine g_iconst S dX1_addPages_16 ?_
  refine g_icmp_eq S (tgt := 30) dX1_addPages_17 (by decide) (by omega) (fun c17 => ?_) (fun c17 => ?_)
  · skip
    refine g_aload_n S dX1_addPages_30 rfl 0 rfl ?_
    refine g_iload_n S dX1_addPages_31 rfl 1 rfl ?_
    refine g_callV S xK (As := [.int (iI u)]) (st := []) (stk' := [.ref (ad (5 + 3 * u))]) (Wp' := CW E ad sp se al ta n pg) (r := (RX1, TX1, 9)) (m_X1_spansAt l E hj sp se al ta n pg u (by omega) hn) (cwV 1 S.2.2.2.2 gX1_addPages_X1_spansAt rfl rfl rfl (by decide +kernel) ⟨Nat.le_of_ble_eq_true rfl, Nat.le_of_ble_eq_true rfl⟩) rfl rfl rfl rfl (Nat.le_of_ble_eq_true rfl) ⟨Nat.le_of_ble_eq_true rfl, Nat.le_of_ble_eq_true rfl⟩ (fun _ q => q.elim) (fun _ h => cw_x h) (fun _ h => h) (fun _ _ _ h _ _ => h) dX1_addPages_32 ?_
    refine g_astore S (lv' := [(4, .ref (ad (5 + 3 * u))), (0, .ref (ad 0)), (1, .int (iI u)), (2, .int (iI fr)), (3, .int (iI to))]) dX1_addPages_35 (Nat.le_of_ble_eq_true rfl) rfl ?_
    refine g_aload_n S dX1_addPages_37 rfl 1 rfl ?_
    refine g_get S xK (ref := "BookIndex") hin1 4 (by decide) (show vwCl[1]? = some (RX1, TX1, 9) from rfl) kf26 (fun _ h9 => h9) (fun _ h => cw_x h) rfl dX1_addPages_38 ?_
    refine g_iload_n S dX1_addPages_41 rfl 3 rfl ?_
    refine g_iload_n S dX1_addPages_42 rfl 4 rfl ?_
    refine g_callV S xK (As := [.int (iI fr), .int (iI to)]) (st := []) (stk' := []) (Wp' := CW E ad (upI sp 24 (apd (0, (sp 24).2.1, (sp 24).2.2) fr to 0)) se al ta n pg) (r := (RX0, TX0, 3)) (m_X0_becomeOne l E hj sp se al ta n pg 24 (by omega) (sp 24) (rfl) fr to hbf hbt) (cwV 2 S.2.2.2.2 gX1_addPages_X0_becomeOne rfl rfl rfl (by decide +kernel) ⟨Nat.le_of_ble_eq_true rfl, Nat.le_of_ble_eq_true rfl⟩) rfl rfl rfl rfl (Nat.le_of_ble_eq_true rfl) ⟨Nat.le_of_ble_eq_true rfl, Nat.le_of_ble_eq_true rfl⟩ (fun _ q => q) (fun _ h => cw_o (i := 24) h (by omega) (rfl)) (fun _ h => h) (fun _ _ _ h _ _ => h) dX1_addPages_43 ?_
    refine g_aload_n S dX1_addPages_46 rfl 1 rfl ?_
    refine g_get S xK (ref := "BookIndex") hin1 5 (by decide) (show vwCl[1]? = some (RX1, TX1, 9) from rfl) kf30 (fun _ h9 => h9) (fun _ h => cw_x h) rfl dX1_addPages_47 ?_
    refine g_aload S dX1_addPages_50 0 rfl ?_
    refine g_aload_n S dX1_addPages_52 rfl 1 rfl ?_
    refine g_get S xK (ref := "BookIndex") hin1 4 (by decide) (show vwCl[1]? = some (RX1, TX1, 9) from rfl) kf26 (fun _ h9 => h9) (fun _ h => cw_x h) rfl dX1_addPages_53 ?_
    refine g_callV S xK (As := [.ref (ad (5 + 3 * u)), .ref (ad (5 + 3 * 24))]) (st := []) (stk' := []) (Wp' := CW E ad (upI (upI sp 24 (apd (0, (sp 24).2.1, (sp 24).2.2) fr to 0)) 25 (uni (sp u) (apd (0, (sp 24).2.1, (sp 24).2.2) fr to 0) ((sp u).1 + (apd (0, (sp 24).2.1, (sp 24).2.2) fr to 0).1).toNat 0 0 (0, (sp 25).2.1, (sp 25).2.2))) se al ta n pg) (r := (RX0, TX0, 3)) (m_X0_becomeUnion l E hj (upI sp 24 (apd (0, (sp 24).2.1, (sp 24).2.2) fr to 0)) se al ta n pg 25 (by omega) (sp 25) ((upI_n _ _ (by omega)).trans (rfl)) u (by omega) (sp u) ((upI_n _ _ (by omega)).trans (rfl)) 24 (by omega) (apd (0, (sp 24).2.1, (sp 24).2.2) fr to 0) (upI_s _ _ _) (by omega) (by omega) (vl_wb (by omega) (hsp u (by omega) (by omega)).1) (vl_wb (by omega) hone.1)) (cwV 2 S.2.2.2.2 gX1_addPages_X0_becomeUnion rfl rfl rfl (by decide +kernel) ⟨Nat.le_of_ble_eq_true rfl, Nat.le_of_ble_eq_true rfl⟩) rfl rfl rfl rfl (Nat.le_of_ble_eq_true rfl) ⟨Nat.le_of_ble_eq_true rfl, Nat.le_of_ble_eq_true rfl⟩ (fun _ q => q) (fun _ h => cw_o (i := 25) h (by omega) ((upI_n _ _ (by omega)).trans (rfl))) (fun _ h => h) (fun _ _ _ h _ _ => h) dX1_addPages_56 ?_
    refine g_aload_n S dX1_addPages_59 rfl 1 rfl ?_
    refine g_callV S xK (As := []) (st := []) (stk' := []) (Wp' := CW E ad (upI (upI sp 24 (apd (0, (sp 24).2.1, (sp 24).2.2) fr to 0)) 25 (uni (sp u) (apd (0, (sp 24).2.1, (sp 24).2.2) fr to 0) ((sp u).1 + (apd (0, (sp 24).2.1, (sp 24).2.2) fr to 0).1).toNat 0 0 (0, (sp 25).2.1, (sp 25).2.2))) se al ta n pg) (r := (RX1, TX1, 9)) (m_X1_needRoomForMade l E hj (upI (upI sp 24 (apd (0, (sp 24).2.1, (sp 24).2.2) fr to 0)) 25 (uni (sp u) (apd (0, (sp 24).2.1, (sp 24).2.2) fr to 0) ((sp u).1 + (apd (0, (sp 24).2.1, (sp 24).2.2) fr to 0).1).toNat 0 0 (0, (sp 25).2.1, (sp 25).2.2))) se al ta n pg  (by rw [upI_s]; omega)) (cwV 0 S.2.2.2.2 gX1_addPages_X1_needRoomForMade rfl rfl rfl (by decide +kernel) ⟨Nat.le_of_ble_eq_true rfl, Nat.le_of_ble_eq_true rfl⟩) rfl rfl rfl rfl (Nat.le_of_ble_eq_true rfl) ⟨Nat.le_of_ble_eq_true rfl, Nat.le_of_ble_eq_true rfl⟩ (fun _ q => q.elim) (fun _ h => cw_x h) (fun _ h => h) (fun _ _ _ h _ _ => h) dX1_addPages_60 ?_
    refine g_aload S dX1_addPages_63 0 rfl ?_
    refine g_aload_n S dX1_addPages_65 rfl 1 rfl ?_
    refine g_get S xK (ref := "BookIndex") hin1 5 (by decide) (show vwCl[1]? = some (RX1, TX1, 9) from rfl) kf30 (fun _ h9 => h9) (fun _ h => cw_x h) rfl dX1_addPages_66 ?_
    refine g_callV S xK (As := [.ref (ad (5 + 3 * 25))]) (st := []) (stk' := []) (Wp' := CW E ad (upI (upI (upI sp 24 (apd (0, (sp 24).2.1, (sp 24).2.2) fr to 0)) 25 (uni (sp u) (apd (0, (sp 24).2.1, (sp 24).2.2) fr to 0) ((sp u).1 + (apd (0, (sp 24).2.1, (sp 24).2.2) fr to 0).1).toNat 0 0 (0, (sp 25).2.1, (sp 25).2.2))) u (brg (uni (sp u) (apd (0, (sp 24).2.1, (sp 24).2.2) fr to 0) ((sp u).1 + (apd (0, (sp 24).2.1, (sp 24).2.2) fr to 0).1).toNat 0 0 (0, (sp 25).2.1, (sp 25).2.2)) 0 (0, (sp u).2.1, (sp u).2.2) (uni (sp u) (apd (0, (sp 24).2.1, (sp 24).2.2) fr to 0) ((sp u).1 + (apd (0, (sp 24).2.1, (sp 24).2.2) fr to 0).1).toNat 0 0 (0, (sp 25).2.1, (sp 25).2.2)).1.toNat)) se al ta n pg) (r := (RX0, TX0, 3)) (m_X0_becomeSame l E hj (upI (upI sp 24 (apd (0, (sp 24).2.1, (sp 24).2.2) fr to 0)) 25 (uni (sp u) (apd (0, (sp 24).2.1, (sp 24).2.2) fr to 0) ((sp u).1 + (apd (0, (sp 24).2.1, (sp 24).2.2) fr to 0).1).toNat 0 0 (0, (sp 25).2.1, (sp 25).2.2))) se al ta n pg u (by omega) (sp u) ((upI_n _ _ (by omega)).trans ((upI_n _ _ (by omega)).trans (rfl))) 25 (by omega) (uni (sp u) (apd (0, (sp 24).2.1, (sp 24).2.2) fr to 0) ((sp u).1 + (apd (0, (sp 24).2.1, (sp 24).2.2) fr to 0).1).toNat 0 0 (0, (sp 25).2.1, (sp 25).2.2)) (upI_s _ _ _) (by omega)  (vl_wb (by omega) hU.1)) (cwV 1 S.2.2.2.2 gX1_addPages_X0_becomeSame rfl rfl rfl (by decide +kernel) ⟨Nat.le_of_ble_eq_true rfl, Nat.le_of_ble_eq_true rfl⟩) rfl rfl rfl rfl (Nat.le_of_ble_eq_true rfl) ⟨Nat.le_of_ble_eq_true rfl, Nat.le_of_ble_eq_true rfl⟩ (fun _ q => q) (fun _ h => cw_o (i := u) h (by omega) ((upI_n _ _ (by omega)).trans ((upI_n _ _ (by omega)).trans (rfl)))) (fun _ h => h) (fun _ _ _ h _ _ => h) dX1_addPages_69 ?_
    refine g_aload S dX1_addPages_72 0 rfl ?_
    refine g_callV S xK (As := []) (st := []) (stk' := [.int (iI ((brg (uni (sp u) (apd (0, (sp 24).2.1, (sp 24).2.2) fr to 0) ((sp u).1 + (apd (0, (sp 24).2.1, (sp 24).2.2) fr to 0).1).toNat 0 0 (0, (sp 25).2.1, (sp 25).2.2)) 0 (0, (sp u).2.1, (sp u).2.2) (uni (sp u) (apd (0, (sp 24).2.1, (sp 24).2.2) fr to 0) ((sp u).1 + (apd (0, (sp 24).2.1, (sp 24).2.2) fr to 0).1).toNat 0 0 (0, (sp 25).2.1, (sp 25).2.2)).1.toNat).1))]) (Wp' := CW E ad (upI (upI (upI sp 24 (apd (0, (sp 24).2.1, (sp 24).2.2) fr to 0)) 25 (uni (sp u) (apd (0, (sp 24).2.1, (sp 24).2.2) fr to 0) ((sp u).1 + (apd (0, (sp 24).2.1, (sp 24).2.2) fr to 0).1).toNat 0 0 (0, (sp 25).2.1, (sp 25).2.2))) u (brg (uni (sp u) (apd (0, (sp 24).2.1, (sp 24).2.2) fr to 0) ((sp u).1 + (apd (0, (sp 24).2.1, (sp 24).2.2) fr to 0).1).toNat 0 0 (0, (sp 25).2.1, (sp 25).2.2)) 0 (0, (sp u).2.1, (sp u).2.2) (uni (sp u) (apd (0, (sp 24).2.1, (sp 24).2.2) fr to 0) ((sp u).1 + (apd (0, (sp 24).2.1, (sp 24).2.2) fr to 0).1).toNat 0 0 (0, (sp 25).2.1, (sp 25).2.2)).1.toNat)) se al ta n pg) (r := (RX0, TX0, 3)) (m_X0_count l E hj (upI (upI (upI sp 24 (apd (0, (sp 24).2.1, (sp 24).2.2) fr to 0)) 25 (uni (sp u) (apd (0, (sp 24).2.1, (sp 24).2.2) fr to 0) ((sp u).1 + (apd (0, (sp 24).2.1, (sp 24).2.2) fr to 0).1).toNat 0 0 (0, (sp 25).2.1, (sp 25).2.2))) u (brg (uni (sp u) (apd (0, (sp 24).2.1, (sp 24).2.2) fr to 0) ((sp u).1 + (apd (0, (sp 24).2.1, (sp 24).2.2) fr to 0).1).toNat 0 0 (0, (sp 25).2.1, (sp 25).2.2)) 0 (0, (sp u).2.1, (sp u).2.2) (uni (sp u) (apd (0, (sp 24).2.1, (sp 24).2.2) fr to 0) ((sp u).1 + (apd (0, (sp 24).2.1, (sp 24).2.2) fr to 0).1).toNat 0 0 (0, (sp 25).2.1, (sp 25).2.2)).1.toNat)) se al ta n pg u (by omega) (brg (uni (sp u) (apd (0, (sp 24).2.1, (sp 24).2.2) fr to 0) ((sp u).1 + (apd (0, (sp 24).2.1, (sp 24).2.2) fr to 0).1).toNat 0 0 (0, (sp 25).2.1, (sp 25).2.2)) 0 (0, (sp u).2.1, (sp u).2.2) (uni (sp u) (apd (0, (sp 24).2.1, (sp 24).2.2) fr to 0) ((sp u).1 + (apd (0, (sp 24).2.1, (sp 24).2.2) fr to 0).1).toNat 0 0 (0, (sp 25).2.1, (sp 25).2.2)).1.toNat) (upI_s _ _ _) ) (cwV 0 S.2.2.2.2 gX1_addPages_X0_count rfl rfl rfl (by decide +kernel) ⟨Nat.le_of_ble_eq_true rfl, Nat.le_of_ble_eq_true rfl⟩) rfl rfl rfl rfl (Nat.le_of_ble_eq_true rfl) ⟨Nat.le_of_ble_eq_true rfl, Nat.le_of_ble_eq_true rfl⟩ (fun _ q => q.elim) (fun _ h => cw_o (i := u) h (by omega) (upI_s _ _ _)) (fun _ h => h) (fun _ _ _ h _ _ => h) dX1_addPages_74 ?_
    rw [show ((spS (fun q => cov (sp u) q ∨ (fr ≤ q ∧ q ≤ to)) 0 pg.toNat).1) = ((brg (uni (sp u) (apd (0, (sp 24).2.1, (sp 24).2.2) fr to 0) ((sp u).1 + (apd (0, (sp 24).2.1, (sp 24).2.2) fr to 0).1).toNat 0 0 (0, (sp 25).2.1, (sp 25).2.2)) 0 (0, (sp u).2.1, (sp u).2.2) (uni (sp u) (apd (0, (sp 24).2.1, (sp 24).2.2) fr to 0) ((sp u).1 + (apd (0, (sp 24).2.1, (sp 24).2.2) fr to 0).1).toNat 0 0 (0, (sp 25).2.1, (sp 25).2.2)).1.toNat).1) from eQ.trans ((vl_ns hU.1 (by omega)).trans ((congrArg Prod.fst (spS_c (fun q _ _ => ((brg_same hU.1 (sp u).2.1 (sp u).2.2).2 q).symm))).trans (vl_ns (brg_same hU.1 (sp u).2.1 (sp u).2.2).1 (by omega)).symm))]
    exact g_iret S xr xlk dX1_addPages_77 (fun _ h => ⟨_, _, fun i h0 h1 => ⟨fun z => by rw [upI_n _ _ z, upI_n _ _ (by omega), upI_n _ _ (by omega)], fun z => by rw [z, upI_s]; exact ⟨(brg_same hU.1 (sp u).2.1 (sp u).2.2).1, fun q => ((brg_same hU.1 (sp u).2.1 (sp u).2.2).2 q).trans ((hU.2 q).trans (or_congr Iff.rfl (hone.2.2.2 q)))⟩⟩, h⟩)
  · skip
    exact absurd c17 (by omega)
set_option maxHeartbeats 4000000 in
set_option maxRecDepth 100000 in
theorem m_X1_addPagesX (l : Launch) (hlt : l.stackTraces = false) (E : EN) (bs : Nat) {ad : Int → Nat} (hj : INJ ad) (sp : Int → SpT) (se : Int → Int) (al : Int → Nat) (ta : Int → Int) (n pg : Int) (u fr to : Int) (hh : u < 0 ∨ n ≤ u) (hr : -2147483648 ≤ u ∧ u ≤ 2147483647) (hn : 0 ≤ n ∧ n ≤ 24) : vx_Met l yX1_addPages wsX1_addPages ({ frames := 7, cells := 1, slots := 6, locals := 103 }) (CX E bs [.ref (ad 0), .int (iI u), .int (iI fr), .int (iI to)] (CW E ad sp se al ta n pg)) QF (XW "java/lang/IndexOutOfBoundsException" (CW E ad sp se al ta n pg) (fun _ => False)) 1 6 (fun _ => False) := by
  refine g_metX (cc := cX1_addPages) (maxL := 5) (ret := (some .int)) (lv := [(0, .ref (ad 0)), (1, .int (iI u)), (2, .int (iI fr)), (3, .int (iI to))]) (by decide) rfl (Nat.le_of_ble_eq_true rfl) rfl ?_
  intro xp xe xs xm xa xb xh xc S xK xX xlk xno
  refine g_aload_n S dX1_addPages_0 rfl 0 rfl ?_
  refine g_iload_n S dX1_addPages_1 rfl 1 rfl ?_
  exact g_callVX S xK xlk xno xX (As := [.int (iI u)]) (st := []) (r := (RX1, TX1, 9)) (m_X1_needHeadingX l hlt E bs hj sp se al ta n pg u (by omega) (by omega) hn) (cwV 1 S.2.2.2.2 gX1_addPages_X1_needHeading rfl rfl rfl (by decide +kernel) ⟨Nat.le_of_ble_eq_true rfl, Nat.le_of_ble_eq_true rfl⟩) rfl rfl rfl (Nat.le_of_ble_eq_true rfl) ⟨Nat.le_of_ble_eq_true rfl, Nat.le_of_ble_eq_true rfl, Nat.le_of_ble_eq_true rfl, Nat.le_of_ble_eq_true rfl⟩ (fun _ q => q.elim) (fun _ q => q.elim) (fun _ h => cw_x h) (fun _ h => h) (fun _ _ _ h _ _ => h) dX1_addPages_2
set_option maxHeartbeats 4000000 in
set_option maxRecDepth 100000 in
theorem m_X1_addPagesY (l : Launch) (hlt : l.stackTraces = false) (E : EN) (bs : Nat) {ad : Int → Nat} (hj : INJ ad) (sp : Int → SpT) (se : Int → Int) (al : Int → Nat) (ta : Int → Int) (n pg : Int) (u fr to : Int) (hh : 0 ≤ u ∧ u < n) (hn : 0 ≤ n ∧ n ≤ 24) (hpg : 1 ≤ pg ∧ pg ≤ 300) (hf : fr < 1 ∨ to < fr ∨ pg < to) (hr : -2147483648 ≤ fr ∧ fr ≤ 2147483647 ∧ -2147483648 ≤ to ∧ to ≤ 2147483647) : vx_Met l yX1_addPages wsX1_addPages ({ frames := 7, cells := 1, slots := 6, locals := 104 }) (CX E bs [.ref (ad 0), .int (iI u), .int (iI fr), .int (iI to)] (CW E ad sp se al ta n pg)) QF (XW "java/lang/IllegalArgumentException" (CW E ad sp se al ta n pg) (fun _ => False)) 1 6 (fun _ => False) := by
  refine g_metX (cc := cX1_addPages) (maxL := 5) (ret := (some .int)) (lv := [(0, .ref (ad 0)), (1, .int (iI u)), (2, .int (iI fr)), (3, .int (iI to))]) (by decide) rfl (Nat.le_of_ble_eq_true rfl) rfl ?_
  intro xp xe xs xm xa xb xh xc S xK xX xlk xno
  refine g_aload_n S dX1_addPages_0 rfl 0 rfl ?_
  refine g_iload_n S dX1_addPages_1 rfl 1 rfl ?_
  refine g_callV S xK (As := [.int (iI u)]) (st := []) (stk' := []) (Wp' := CW E ad sp se al ta n pg) (r := (RX1, TX1, 9)) (m_X1_needHeading l E hj sp se al ta n pg u (by omega) hn) (cwV 1 S.2.2.2.2 gX1_addPages_X1_needHeading rfl rfl rfl (by decide +kernel) ⟨Nat.le_of_ble_eq_true rfl, Nat.le_of_ble_eq_true rfl⟩) rfl rfl rfl rfl (Nat.le_of_ble_eq_true rfl) ⟨Nat.le_of_ble_eq_true rfl, Nat.le_of_ble_eq_true rfl⟩ (fun _ q => q.elim) (fun _ h => cw_x h) (fun _ h => h) (fun _ _ _ h _ _ => h) dX1_addPages_2 ?_
  refine g_aload_n S dX1_addPages_5 rfl 0 rfl ?_
  refine g_iload_n S dX1_addPages_6 rfl 2 rfl ?_
  refine g_iload_n S dX1_addPages_7 rfl 3 rfl ?_
  exact g_callVX S xK xlk xno xX (As := [.int (iI fr), .int (iI to)]) (st := []) (r := (RX1, TX1, 9)) (m_X1_needPagesX l hlt E bs hj sp se al ta n pg fr to (by omega) (by omega) hpg) (cwV 2 S.2.2.2.2 gX1_addPages_X1_needPages rfl rfl rfl (by decide +kernel) ⟨Nat.le_of_ble_eq_true rfl, Nat.le_of_ble_eq_true rfl⟩) rfl rfl rfl (Nat.le_of_ble_eq_true rfl) ⟨Nat.le_of_ble_eq_true rfl, Nat.le_of_ble_eq_true rfl, Nat.le_of_ble_eq_true rfl, Nat.le_of_ble_eq_true rfl⟩ (fun _ q => q.elim) (fun _ q => q.elim) (fun _ h => cw_x h) (fun _ h => h) (fun _ _ _ h _ _ => h) dX1_addPages_8
set_option maxHeartbeats 4000000 in
set_option maxRecDepth 100000 in
theorem m_X1_addPagesZ (l : Launch) (hlt : l.stackTraces = false) (E : EN) (bs : Nat) {ad : Int → Nat} (hj : INJ ad) (sp : Int → SpT) (se : Int → Int) (al : Int → Nat) (ta : Int → Int) (n pg : Int) (u fr to : Int) (hh : 0 ≤ u ∧ u < n) (hn : 0 ≤ n ∧ n ≤ 24) (hpg : 1 ≤ pg ∧ pg ≤ 300) (hf : 1 ≤ fr ∧ fr ≤ to ∧ to ≤ pg) (hgr : GR se al n) (hse : se u ≠ -1) : vx_Met l yX1_addPages wsX1_addPages ({ frames := 6, cells := 1, slots := 6, locals := 82 }) (CX E bs [.ref (ad 0), .int (iI u), .int (iI fr), .int (iI to)] (CW E ad sp se al ta n pg)) QF (XW "java/lang/IllegalStateException" (CW E ad sp se al ta n pg) (fun _ => False)) 1 6 (fun _ => False) := by
  refine g_metX (cc := cX1_addPages) (maxL := 5) (ret := (some .int)) (lv := [(0, .ref (ad 0)), (1, .int (iI u)), (2, .int (iI fr)), (3, .int (iI to))]) (by decide) rfl (Nat.le_of_ble_eq_true rfl) rfl ?_
  intro xp xe xs xm xa xb xh xc S xK xX xlk xno
  have kk43 := S.2.2.2.2 (.classLink RX1 43 "java/lang/IllegalStateException") (by decide +kernel)
  have ki43 := S.2.2.2.2 (.initialized "java/lang/IllegalStateException") (by decide +kernel)
  have kg47 : ∀ w ∈ (vx_atS RX1 47 "java/lang/IllegalStateException" nm3).filter goodWord, w.before xa xs = true := fun w h => S.2.2.2.2 w (by first | exact List.mem_cons_of_mem _ (List.mem_append_right _ h) | exact List.mem_cons_of_mem _ (List.mem_append_left _ (List.mem_append_right _ h)) | exact List.mem_cons_of_mem _ (List.mem_append_left _ (List.mem_append_left _ (List.mem_append_right _ h))))
  refine g_aload_n S dX1_addPages_0 rfl 0 rfl ?_
  refine g_iload_n S dX1_addPages_1 rfl 1 rfl ?_
  refine g_callV S xK (As := [.int (iI u)]) (st := []) (stk' := []) (Wp' := CW E ad sp se al ta n pg) (r := (RX1, TX1, 9)) (m_X1_needHeading l E hj sp se al ta n pg u (by omega) hn) (cwV 1 S.2.2.2.2 gX1_addPages_X1_needHeading rfl rfl rfl (by decide +kernel) ⟨Nat.le_of_ble_eq_true rfl, Nat.le_of_ble_eq_true rfl⟩) rfl rfl rfl rfl (Nat.le_of_ble_eq_true rfl) ⟨Nat.le_of_ble_eq_true rfl, Nat.le_of_ble_eq_true rfl⟩ (fun _ q => q.elim) (fun _ h => cw_x h) (fun _ h => h) (fun _ _ _ h _ _ => h) dX1_addPages_2 ?_
  refine g_aload_n S dX1_addPages_5 rfl 0 rfl ?_
  refine g_iload_n S dX1_addPages_6 rfl 2 rfl ?_
  refine g_iload_n S dX1_addPages_7 rfl 3 rfl ?_
  refine g_callV S xK (As := [.int (iI fr), .int (iI to)]) (st := []) (stk' := []) (Wp' := CW E ad sp se al ta n pg) (r := (RX1, TX1, 9)) (m_X1_needPages l E hj sp se al ta n pg fr to (by omega) hpg) (cwV 2 S.2.2.2.2 gX1_addPages_X1_needPages rfl rfl rfl (by decide +kernel) ⟨Nat.le_of_ble_eq_true rfl, Nat.le_of_ble_eq_true rfl⟩) rfl rfl rfl rfl (Nat.le_of_ble_eq_true rfl) ⟨Nat.le_of_ble_eq_true rfl, Nat.le_of_ble_eq_true rfl⟩ (fun _ q => q.elim) (fun _ h => cw_x h) (fun _ h => h) (fun _ _ _ h _ _ => h) dX1_addPages_8 ?_
  refine g_aload_n S dX1_addPages_11 rfl 0 rfl ?_
  refine g_iload_n S dX1_addPages_12 rfl 1 rfl ?_
  refine g_callV S xK (As := [.int (iI u)]) (st := []) (stk' := [.int (iI (se u))]) (Wp' := CW E ad sp se al ta n pg) (r := (RX1, TX1, 9)) (m_X1_seeAt l E hj sp se al ta n pg u (by omega) hn) (cwV 1 S.2.2.2.2 gX1_addPages_X1_seeAt rfl rfl rfl (by decide +kernel) ⟨Nat.le_of_ble_eq_true rfl, Nat.le_of_ble_eq_true rfl⟩) rfl rfl rfl rfl (Nat.le_of_ble_eq_true rfl) ⟨Nat.le_of_ble_eq_true rfl, Nat.le_of_ble_eq_true rfl⟩ (fun _ q => q.elim) (fun _ h => cw_x h) (fun _ h => h) (fun _ _ _ h _ _ => h) dX1_addPages_13 ?_
  refine g_iconst S dX1_addPages_16 ?_
  have s17 := hgr.1 u (by omega) (by omega)
  refine g_icmp_eq S (tgt := 30) dX1_addPages_17 (by decide) (by omega) (fun c17 => ?_) (fun c17 => ?_)
  · skip
    exact absurd c17 (by omega)
  · skip
    exact g_throw S hlt xlk xno xX (cls := "java/lang/IllegalStateException") (text := "the heading has a see") rfl (by decide) (by decide) (by decide) kk43 ki43 kg47 bad47 ot47 (fun _ q => q.elim) ⟨Nat.le_of_ble_eq_true rfl, Nat.le_of_ble_eq_true rfl, Nat.le_of_ble_eq_true rfl, Nat.le_of_ble_eq_true rfl, Nat.le_of_ble_eq_true rfl, Nat.le_of_ble_eq_true rfl⟩ dX1_addPages_20 dX1_addPages_23 dX1_addPages_24 dX1_addPages_26 dX1_addPages_29 (fun _ _ h h1 h2 => cw_grow h h1 h2)
set_option maxHeartbeats 4000000 in
set_option maxRecDepth 100000 in
theorem m_X1_addPagesR (l : Launch) (hlt : l.stackTraces = false) (E : EN) (bs : Nat) {ad : Int → Nat} (hj : INJ ad) (sp : Int → SpT) (se : Int → Int) (al : Int → Nat) (ta : Int → Int) (n pg : Int) (u fr to : Int) (hh : 0 ≤ u ∧ u < n) (hn : 0 ≤ n ∧ n ≤ 24) (hpg : 1 ≤ pg ∧ pg ≤ 300) (hsp : SPV sp n pg) (hf : 1 ≤ fr ∧ fr ≤ to ∧ to ≤ pg) (hse : se u = -1) (hc : 8 < (spS (fun q => cov (sp u) q ∨ (fr ≤ q ∧ q ≤ to)) 0 pg.toNat).1) (hAb : ∀ q, AX ad q → bs ≤ q) : vx_Met l yX1_addPages wsX1_addPages ({ frames := 7, cells := 1, slots := 6, locals := 102 }) (CX E bs [.ref (ad 0), .int (iI u), .int (iI fr), .int (iI to)] (CW E ad sp se al ta n pg)) QF (XW "java/lang/IllegalStateException" (CQ E ad se al n pg (fun i g => g = sp i)) (AX ad)) 1 6 (AX ad) := by
  refine g_metX (cc := cX1_addPages) (maxL := 5) (ret := (some .int)) (lv := [(0, .ref (ad 0)), (1, .int (iI u)), (2, .int (iI fr)), (3, .int (iI to))]) (by decide) rfl (Nat.le_of_ble_eq_true rfl) rfl ?_
  intro xp xe xs xm xa xb xh xc S xK xX xlk xno
  have kf26 := S.2.2.2.2 (.fieldLink RX1 26 "BookIndex" "asked" "LBookIndex$Spans;") (by decide +kernel)
  have kf30 := S.2.2.2.2 (.fieldLink RX1 30 "BookIndex" "made" "LBookIndex$Spans;") (by decide +kernel)
  have hin1 : ∀ w ∈ wsX10, w ∈ wsX1_addPages := by decide +kernel
  have vu := hsp u (by omega) (by omega)
  have hone := one_mk (F := (sp 24).2.1) (L := (sp 24).2.2) (f := fr) (l := to) (pg := pg) hf
  have hU := uni_vl vu.1 hone.1 (by have z := hone.2.1; omega) (sp 25).2.1 (sp 25).2.2
  have eQ : (spS (fun q => cov (sp u) q ∨ (fr ≤ q ∧ q ≤ to)) 0 pg.toNat).1 = (uni (sp u) (apd (0, (sp 24).2.1, (sp 24).2.2) fr to 0) ((sp u).1 + (apd (0, (sp 24).2.1, (sp 24).2.2) fr to 0).1).toNat 0 0 (0, (sp 25).2.1, (sp 25).2.2)).1 := by rw [vl_ns hU.1 (by omega)]; exact congrArg Prod.fst (spS_c (fun q _ _ => ((hU.2 q).trans (or_congr Iff.rfl (hone.2.2.2 q))).symm))
  have eU := hU.1.1
  have eV := hU.1.2.1
  have hbf : bnd fr := by unfold bnd; omega
  have hbt : bnd to := by unfold bnd; omega
  refine g_aload_n S dX1_addPages_0 rfl 0 rfl ?_
  refine g_iload_n S dX1_addPages_1 rfl 1 rfl ?_
  refine g_callV S xK (As := [.int (iI u)]) (st := []) (stk' := []) (Wp' := CW E ad sp se al ta n pg) (r := (RX1, TX1, 9)) (m_X1_needHeading l E hj sp se al ta n pg u (by omega) hn) (cwV 1 S.2.2.2.2 gX1_addPages_X1_needHeading rfl rfl rfl (by decide +kernel) ⟨Nat.le_of_ble_eq_true rfl, Nat.le_of_ble_eq_true rfl⟩) rfl rfl rfl rfl (Nat.le_of_ble_eq_true rfl) ⟨Nat.le_of_ble_eq_true rfl, Nat.le_of_ble_eq_true rfl⟩ (fun _ q => q.elim) (fun _ h => cw_x h) (fun _ h => h) (fun _ _ _ h _ _ => h) dX1_addPages_2 ?_
  refine g_aload_n S dX1_addPages_5 rfl 0 rfl ?_
  refine g_iload_n S dX1_addPages_6 rfl 2 rfl ?_
  refine g_iload_n S dX1_addPages_7 rfl 3 rfl ?_
  refine g_callV S xK (As := [.int (iI fr), .int (iI to)]) (st := []) (stk' := []) (Wp' := CW E ad sp se al ta n pg) (r := (RX1, TX1, 9)) (m_X1_needPages l E hj sp se al ta n pg fr to (by omega) hpg) (cwV 2 S.2.2.2.2 gX1_addPages_X1_needPages rfl rfl rfl (by decide +kernel) ⟨Nat.le_of_ble_eq_true rfl, Nat.le_of_ble_eq_true rfl⟩) rfl rfl rfl rfl (Nat.le_of_ble_eq_true rfl) ⟨Nat.le_of_ble_eq_true rfl, Nat.le_of_ble_eq_true rfl⟩ (fun _ q => q.elim) (fun _ h => cw_x h) (fun _ h => h) (fun _ _ _ h _ _ => h) dX1_addPages_8 ?_
  refine g_aload_n S dX1_addPages_11 rfl 0 rfl ?_
  refine g_iload_n S dX1_addPages_12 rfl 1 rfl ?_
  refine g_callV S xK (As := [.int (iI u)]) (st := []) (stk' := [.int (iI (se u))]) (Wp' := CW E ad sp se al ta n pg) (r := (RX1, TX1, 9)) (m_X1_seeAt l E hj sp se al ta n pg u (by omega) hn) (cwV 1 S.2.2.2.2 gX1_addPages_X1_seeAt rfl rfl rfl (by decide +kernel) ⟨Nat.le_of_ble_eq_true rfl, Nat.le_of_ble_eq_true rfl⟩) rfl rfl rfl rfl (Nat.le_of_ble_eq_true rfl) ⟨Nat.le_of_ble_eq_true rfl, Nat.le_of_ble_eq_true rfl⟩ (fun _ q => q.elim) (fun _ h => cw_x h) (fun _ h => h) (fun _ _ _ h _ _ => h) dX1_addPages_13 ?_
  refine g_iconst S dX1_addPages_16 ?_
  refine g_icmp_eq S (tgt := 30) dX1_addPages_17 (by decide) (by omega) (fun c17 => ?_) (fun c17 => ?_)
  · skip
    refine g_aload_n S dX1_addPages_30 rfl 0 rfl ?_
    refine g_iload_n S dX1_addPages_31 rfl 1 rfl ?_
    refine g_callV S xK (As := [.int (iI u)]) (st := []) (stk' := [.ref (ad (5 + 3 * u))]) (Wp' := CW E ad sp se al ta n pg) (r := (RX1, TX1, 9)) (m_X1_spansAt l E hj sp se al ta n pg u (by omega) hn) (cwV 1 S.2.2.2.2 gX1_addPages_X1_spansAt rfl rfl rfl (by decide +kernel) ⟨Nat.le_of_ble_eq_true rfl, Nat.le_of_ble_eq_true rfl⟩) rfl rfl rfl rfl (Nat.le_of_ble_eq_true rfl) ⟨Nat.le_of_ble_eq_true rfl, Nat.le_of_ble_eq_true rfl⟩ (fun _ q => q.elim) (fun _ h => cw_x h) (fun _ h => h) (fun _ _ _ h _ _ => h) dX1_addPages_32 ?_
    refine g_astore S (lv' := [(4, .ref (ad (5 + 3 * u))), (0, .ref (ad 0)), (1, .int (iI u)), (2, .int (iI fr)), (3, .int (iI to))]) dX1_addPages_35 (Nat.le_of_ble_eq_true rfl) rfl ?_
    refine g_aload_n S dX1_addPages_37 rfl 1 rfl ?_
    refine g_get S xK (ref := "BookIndex") hin1 4 (by decide) (show vwCl[1]? = some (RX1, TX1, 9) from rfl) kf26 (fun _ h9 => h9) (fun _ h => cw_x h) rfl dX1_addPages_38 ?_
    refine g_iload_n S dX1_addPages_41 rfl 3 rfl ?_
    refine g_iload_n S dX1_addPages_42 rfl 4 rfl ?_
    refine g_callV S xK (As := [.int (iI fr), .int (iI to)]) (st := []) (stk' := []) (Wp' := CW E ad (upI sp 24 (apd (0, (sp 24).2.1, (sp 24).2.2) fr to 0)) se al ta n pg) (r := (RX0, TX0, 3)) (m_X0_becomeOne l E hj sp se al ta n pg 24 (by omega) (sp 24) (rfl) fr to hbf hbt) (cwV 2 S.2.2.2.2 gX1_addPages_X0_becomeOne rfl rfl rfl (by decide +kernel) ⟨Nat.le_of_ble_eq_true rfl, Nat.le_of_ble_eq_true rfl⟩) rfl rfl rfl rfl (Nat.le_of_ble_eq_true rfl) ⟨Nat.le_of_ble_eq_true rfl, Nat.le_of_ble_eq_true rfl⟩ (fun _ q => q) (fun _ h => cw_o (i := 24) h (by omega) (rfl)) (fun _ h => h) (fun _ _ _ h _ _ => h) dX1_addPages_43 ?_
    refine g_aload_n S dX1_addPages_46 rfl 1 rfl ?_
    refine g_get S xK (ref := "BookIndex") hin1 5 (by decide) (show vwCl[1]? = some (RX1, TX1, 9) from rfl) kf30 (fun _ h9 => h9) (fun _ h => cw_x h) rfl dX1_addPages_47 ?_
    refine g_aload S dX1_addPages_50 0 rfl ?_
    refine g_aload_n S dX1_addPages_52 rfl 1 rfl ?_
    refine g_get S xK (ref := "BookIndex") hin1 4 (by decide) (show vwCl[1]? = some (RX1, TX1, 9) from rfl) kf26 (fun _ h9 => h9) (fun _ h => cw_x h) rfl dX1_addPages_53 ?_
    refine g_callV S xK (As := [.ref (ad (5 + 3 * u)), .ref (ad (5 + 3 * 24))]) (st := []) (stk' := []) (Wp' := CW E ad (upI (upI sp 24 (apd (0, (sp 24).2.1, (sp 24).2.2) fr to 0)) 25 (uni (sp u) (apd (0, (sp 24).2.1, (sp 24).2.2) fr to 0) ((sp u).1 + (apd (0, (sp 24).2.1, (sp 24).2.2) fr to 0).1).toNat 0 0 (0, (sp 25).2.1, (sp 25).2.2))) se al ta n pg) (r := (RX0, TX0, 3)) (m_X0_becomeUnion l E hj (upI sp 24 (apd (0, (sp 24).2.1, (sp 24).2.2) fr to 0)) se al ta n pg 25 (by omega) (sp 25) ((upI_n _ _ (by omega)).trans (rfl)) u (by omega) (sp u) ((upI_n _ _ (by omega)).trans (rfl)) 24 (by omega) (apd (0, (sp 24).2.1, (sp 24).2.2) fr to 0) (upI_s _ _ _) (by omega) (by omega) (vl_wb (by omega) (hsp u (by omega) (by omega)).1) (vl_wb (by omega) hone.1)) (cwV 2 S.2.2.2.2 gX1_addPages_X0_becomeUnion rfl rfl rfl (by decide +kernel) ⟨Nat.le_of_ble_eq_true rfl, Nat.le_of_ble_eq_true rfl⟩) rfl rfl rfl rfl (Nat.le_of_ble_eq_true rfl) ⟨Nat.le_of_ble_eq_true rfl, Nat.le_of_ble_eq_true rfl⟩ (fun _ q => q) (fun _ h => cw_o (i := 25) h (by omega) ((upI_n _ _ (by omega)).trans (rfl))) (fun _ h => h) (fun _ _ _ h _ _ => h) dX1_addPages_56 ?_
    refine g_aload_n S dX1_addPages_59 rfl 1 rfl ?_
    exact g_callVX S xK xlk xno xX (As := []) (st := []) (r := (RX1, TX1, 9)) (m_X1_needRoomForMadeX l hlt E bs hj (upI (upI sp 24 (apd (0, (sp 24).2.1, (sp 24).2.2) fr to 0)) 25 (uni (sp u) (apd (0, (sp 24).2.1, (sp 24).2.2) fr to 0) ((sp u).1 + (apd (0, (sp 24).2.1, (sp 24).2.2) fr to 0).1).toNat 0 0 (0, (sp 25).2.1, (sp 25).2.2))) se al ta n pg  (by rw [upI_s]; omega)) (cwV 0 S.2.2.2.2 gX1_addPages_X1_needRoomForMade rfl rfl rfl (by decide +kernel) ⟨Nat.le_of_ble_eq_true rfl, Nat.le_of_ble_eq_true rfl⟩) rfl rfl rfl (Nat.le_of_ble_eq_true rfl) ⟨Nat.le_of_ble_eq_true rfl, Nat.le_of_ble_eq_true rfl, Nat.le_of_ble_eq_true rfl, Nat.le_of_ble_eq_true rfl⟩ (fun _ q => q.elim) (hAb) (fun _ h => cw_x h) (fun _ h => h) (fun _ _ _ h _ _ => ⟨_, _, fun i h0 h1 => by rw [upI_n _ _ (by omega), upI_n _ _ (by omega)], h⟩) dX1_addPages_60
  · skip
    exact absurd c17 (by omega)
set_option maxHeartbeats 4000000 in
set_option maxRecDepth 100000 in
theorem m_X1_takePages (l : Launch) (E : EN) {ad : Int → Nat} (hj : INJ ad) (sp : Int → SpT) (se : Int → Int) (al : Int → Nat) (ta : Int → Int) (n pg : Int) (u fr to : Int) (hh : 0 ≤ u ∧ u < n) (hn : 0 ≤ n ∧ n ≤ 24) (hpg : 1 ≤ pg ∧ pg ≤ 300) (hsp : SPV sp n pg) (hf : 1 ≤ fr ∧ fr ≤ to ∧ to ≤ pg) (hc : (spS (fun q => cov (sp u) q ∧ ¬ (fr ≤ q ∧ q ≤ to)) 0 pg.toNat).1 ≤ 8) : Met l yX1_takePages wsX1_takePages ({ frames := 4, cells := 0, slots := 0, locals := 84 }) (CI E [.ref (ad 0), .int (iI u), .int (iI fr), .int (iI to)] (CW E ad sp se al ta n pg)) (QW (some (.int (iI (smI (fun k => pI (cov (sp u) (k + 1))) pg.toNat - smI (fun k => pI ((fun q => cov (sp u) q ∧ ¬ (fr ≤ q ∧ q ≤ to)) (k + 1))) pg.toNat)))) (CQ E ad se al n pg (fun i g => (i ≠ u → g = sp i) ∧ (i = u → VL g pg ∧ ∀ q, cov g q ↔ (fun q => cov (sp u) q ∧ ¬ (fr ≤ q ∧ q ≤ to)) q))) (AX ad)) 0 0 (AX ad) := by
  refine g_met (cc := cX1_takePages) (maxL := 6) (ret := (some .int)) (lv := [(0, .ref (ad 0)), (1, .int (iI u)), (2, .int (iI fr)), (3, .int (iI to))]) (by decide) rfl (Nat.le_of_ble_eq_true rfl) rfl ?_
  intro xp xe xs xm xa xb xh xc S xK xr xlk xin
  have kf30 := S.2.2.2.2 (.fieldLink RX1 30 "BookIndex" "made" "LBookIndex$Spans;") (by decide +kernel)
  have hin1 : ∀ w ∈ wsX10, w ∈ wsX1_takePages := by decide +kernel
  have vu := hsp u (by omega) (by omega)
  have hU := rst_vl vu.1 vu.2 (a := fr) (b := to) hf (sp 25).2.1 (sp 25).2.2
  have eQ : (spS (fun q => cov (sp u) q ∧ ¬ (fr ≤ q ∧ q ≤ to)) 0 pg.toNat).1 = (rst (sp u) fr to (0, (sp 25).2.1, (sp 25).2.2) (sp u).1.toNat).1 := by rw [vl_ns hU.1 (by omega)]; exact congrArg Prod.fst (spS_c (fun q _ _ => (hU.2 q).symm))
  have eU := hU.1.1
  have eV := hU.1.2.1
  refine g_aload_n S dX1_takePages_0 rfl 0 rfl ?_
  refine g_iload_n S dX1_takePages_1 rfl 1 rfl ?_
  refine g_callV S xK (As := [.int (iI u)]) (st := []) (stk' := []) (Wp' := CW E ad sp se al ta n pg) (r := (RX1, TX1, 9)) (m_X1_needHeading l E hj sp se al ta n pg u (by omega) hn) (cwV 1 S.2.2.2.2 gX1_takePages_X1_needHeading rfl rfl rfl (by decide +kernel) ⟨Nat.le_of_ble_eq_true rfl, Nat.le_of_ble_eq_true rfl⟩) rfl rfl rfl rfl (Nat.le_of_ble_eq_true rfl) ⟨Nat.le_of_ble_eq_true rfl, Nat.le_of_ble_eq_true rfl⟩ (fun _ q => q.elim) (fun _ h => cw_x h) (fun _ h => h) (fun _ _ _ h _ _ => h) dX1_takePages_2 ?_
  refine g_aload_n S dX1_takePages_5 rfl 0 rfl ?_
  refine g_iload_n S dX1_takePages_6 rfl 2 rfl ?_
  refine g_iload_n S dX1_takePages_7 rfl 3 rfl ?_
  refine g_callV S xK (As := [.int (iI fr), .int (iI to)]) (st := []) (stk' := []) (Wp' := CW E ad sp se al ta n pg) (r := (RX1, TX1, 9)) (m_X1_needPages l E hj sp se al ta n pg fr to (by omega) hpg) (cwV 2 S.2.2.2.2 gX1_takePages_X1_needPages rfl rfl rfl (by decide +kernel) ⟨Nat.le_of_ble_eq_true rfl, Nat.le_of_ble_eq_true rfl⟩) rfl rfl rfl rfl (Nat.le_of_ble_eq_true rfl) ⟨Nat.le_of_ble_eq_true rfl, Nat.le_of_ble_eq_true rfl⟩ (fun _ q => q.elim) (fun _ h => cw_x h) (fun _ h => h) (fun _ _ _ h _ _ => h) dX1_takePages_8 ?_
  refine g_aload_n S dX1_takePages_11 rfl 0 rfl ?_
  refine g_iload_n S dX1_takePages_12 rfl 1 rfl ?_
  refine g_callV S xK (As := [.int (iI u)]) (st := []) (stk' := [.ref (ad (5 + 3 * u))]) (Wp' := CW E ad sp se al ta n pg) (r := (RX1, TX1, 9)) (m_X1_spansAt l E hj sp se al ta n pg u (by omega) hn) (cwV 1 S.2.2.2.2 gX1_takePages_X1_spansAt rfl rfl rfl (by decide +kernel) ⟨Nat.le_of_ble_eq_true rfl, Nat.le_of_ble_eq_true rfl⟩) rfl rfl rfl rfl (Nat.le_of_ble_eq_true rfl) ⟨Nat.le_of_ble_eq_true rfl, Nat.le_of_ble_eq_true rfl⟩ (fun _ q => q.elim) (fun _ h => cw_x h) (fun _ h => h) (fun _ _ _ h _ _ => h) dX1_takePages_13 ?_
  refine g_astore S (lv' := [(4, .ref (ad (5 + 3 * u))), (0, .ref (ad 0)), (1, .int (iI u)), (2, .int (iI fr)), (3, .int (iI to))]) dX1_takePages_16 (Nat.le_of_ble_eq_true rfl) rfl ?_
  refine g_aload_n S dX1_takePages_18 rfl 1 rfl ?_
  refine g_get S xK (ref := "BookIndex") hin1 5 (by decide) (show vwCl[1]? = some (RX1, TX1, 9) from rfl) kf30 (fun _ h9 => h9) (fun _ h => cw_x h) rfl dX1_takePages_19 ?_
  refine g_aload S dX1_takePages_22 0 rfl ?_
  refine g_iload_n S dX1_takePages_24 rfl 3 rfl ?_
  refine g_iload_n S dX1_takePages_25 rfl 4 rfl ?_
  refine g_callV S xK (As := [.ref (ad (5 + 3 * u)), .int (iI fr), .int (iI to)]) (st := []) (stk' := []) (Wp' := CW E ad (upI sp 25 (rst (sp u) fr to (0, (sp 25).2.1, (sp 25).2.2) (sp u).1.toNat)) se al ta n pg) (r := (RX0, TX0, 3)) (m_X0_becomeRest l E hj sp se al ta n pg 25 (by omega) (sp 25) (rfl) u (by omega) (sp u) (rfl) (by omega) fr to (vl_wb (by omega) (hsp u (by omega) (by omega)).1) (by omega)) (cwV 3 S.2.2.2.2 gX1_takePages_X0_becomeRest rfl rfl rfl (by decide +kernel) ⟨Nat.le_of_ble_eq_true rfl, Nat.le_of_ble_eq_true rfl⟩) rfl rfl rfl rfl (Nat.le_of_ble_eq_true rfl) ⟨Nat.le_of_ble_eq_true rfl, Nat.le_of_ble_eq_true rfl⟩ (fun _ q => q) (fun _ h => cw_o (i := 25) h (by omega) (rfl)) (fun _ h => h) (fun _ _ _ h _ _ => h) dX1_takePages_26 ?_
  refine g_aload_n S dX1_takePages_29 rfl 1 rfl ?_
  refine g_callV S xK (As := []) (st := []) (stk' := []) (Wp' := CW E ad (upI sp 25 (rst (sp u) fr to (0, (sp 25).2.1, (sp 25).2.2) (sp u).1.toNat)) se al ta n pg) (r := (RX1, TX1, 9)) (m_X1_needRoomForMade l E hj (upI sp 25 (rst (sp u) fr to (0, (sp 25).2.1, (sp 25).2.2) (sp u).1.toNat)) se al ta n pg  (by rw [upI_s]; omega)) (cwV 0 S.2.2.2.2 gX1_takePages_X1_needRoomForMade rfl rfl rfl (by decide +kernel) ⟨Nat.le_of_ble_eq_true rfl, Nat.le_of_ble_eq_true rfl⟩) rfl rfl rfl rfl (Nat.le_of_ble_eq_true rfl) ⟨Nat.le_of_ble_eq_true rfl, Nat.le_of_ble_eq_true rfl⟩ (fun _ q => q.elim) (fun _ h => cw_x h) (fun _ h => h) (fun _ _ _ h _ _ => h) dX1_takePages_30 ?_
  refine g_aload S dX1_takePages_33 0 rfl ?_
  refine g_callV S xK (As := []) (st := []) (stk' := [.int (iI (smI (fun k => (sp u).2.2 k - (sp u).2.1 k + 1) ((sp u).1).toNat))]) (Wp' := CW E ad (upI sp 25 (rst (sp u) fr to (0, (sp 25).2.1, (sp 25).2.2) (sp u).1.toNat)) se al ta n pg) (r := (RX0, TX0, 3)) (m_X0_pages l E hj (upI sp 25 (rst (sp u) fr to (0, (sp 25).2.1, (sp 25).2.2) (sp u).1.toNat)) se al ta n pg u (by omega) (sp u) ((upI_n _ _ (by omega)).trans (rfl)) (vl_wb (by omega) (hsp u (by omega) (by omega)).1)) (cwV 0 S.2.2.2.2 gX1_takePages_X0_pages rfl rfl rfl (by decide +kernel) ⟨Nat.le_of_ble_eq_true rfl, Nat.le_of_ble_eq_true rfl⟩) rfl rfl rfl rfl (Nat.le_of_ble_eq_true rfl) ⟨Nat.le_of_ble_eq_true rfl, Nat.le_of_ble_eq_true rfl⟩ (fun _ q => q.elim) (fun _ h => cw_o (i := u) h (by omega) ((upI_n _ _ (by omega)).trans (rfl))) (fun _ h => h) (fun _ _ _ h _ _ => h) dX1_takePages_35 ?_
  refine g_aload_n S dX1_takePages_38 rfl 1 rfl ?_
  refine g_get S xK (ref := "BookIndex") hin1 5 (by decide) (show vwCl[1]? = some (RX1, TX1, 9) from rfl) kf30 (fun _ h9 => h9) (fun _ h => cw_x h) rfl dX1_takePages_39 ?_
  refine g_callV S xK (As := []) (st := [.int (iI (smI (fun k => (sp u).2.2 k - (sp u).2.1 k + 1) ((sp u).1).toNat))]) (stk' := [.int (iI (smI (fun k => (rst (sp u) fr to (0, (sp 25).2.1, (sp 25).2.2) (sp u).1.toNat).2.2 k - (rst (sp u) fr to (0, (sp 25).2.1, (sp 25).2.2) (sp u).1.toNat).2.1 k + 1) ((rst (sp u) fr to (0, (sp 25).2.1, (sp 25).2.2) (sp u).1.toNat).1).toNat)), .int (iI (smI (fun k => (sp u).2.2 k - (sp u).2.1 k + 1) ((sp u).1).toNat))]) (Wp' := CW E ad (upI sp 25 (rst (sp u) fr to (0, (sp 25).2.1, (sp 25).2.2) (sp u).1.toNat)) se al ta n pg) (r := (RX0, TX0, 3)) (m_X0_pages l E hj (upI sp 25 (rst (sp u) fr to (0, (sp 25).2.1, (sp 25).2.2) (sp u).1.toNat)) se al ta n pg 25 (by omega) (rst (sp u) fr to (0, (sp 25).2.1, (sp 25).2.2) (sp u).1.toNat) (upI_s _ _ _) (vl_wb (by omega) hU.1)) (cwV 0 S.2.2.2.2 gX1_takePages_X0_pages rfl rfl rfl (by decide +kernel) ⟨Nat.le_of_ble_eq_true rfl, Nat.le_of_ble_eq_true rfl⟩) rfl rfl rfl rfl (Nat.le_of_ble_eq_true rfl) ⟨Nat.le_of_ble_eq_true rfl, Nat.le_of_ble_eq_true rfl⟩ (fun _ q => q.elim) (fun _ h => cw_o (i := 25) h (by omega) (upI_s _ _ _)) (fun _ h => h) (fun _ _ _ h _ _ => h) dX1_takePages_42 ?_
  refine g_isub S dX1_takePages_45 ?_
  refine g_istore S (lv' := [(5, .int (iI (smI (fun k => (sp u).2.2 k - (sp u).2.1 k + 1) ((sp u).1).toNat - smI (fun k => (rst (sp u) fr to (0, (sp 25).2.1, (sp 25).2.2) (sp u).1.toNat).2.2 k - (rst (sp u) fr to (0, (sp 25).2.1, (sp 25).2.2) (sp u).1.toNat).2.1 k + 1) ((rst (sp u) fr to (0, (sp 25).2.1, (sp 25).2.2) (sp u).1.toNat).1).toNat))), (4, .ref (ad (5 + 3 * u))), (0, .ref (ad 0)), (1, .int (iI u)), (2, .int (iI fr)), (3, .int (iI to))]) dX1_takePages_46 (Nat.le_of_ble_eq_true rfl) rfl ?_
  refine g_aload S dX1_takePages_48 1 rfl ?_
  refine g_aload_n S dX1_takePages_50 rfl 2 rfl ?_
  refine g_get S xK (ref := "BookIndex") hin1 5 (by decide) (show vwCl[1]? = some (RX1, TX1, 9) from rfl) kf30 (fun _ h9 => h9) (fun _ h => cw_x h) rfl dX1_takePages_51 ?_
  refine g_callV S xK (As := [.ref (ad (5 + 3 * 25))]) (st := []) (stk' := []) (Wp' := CW E ad (upI (upI sp 25 (rst (sp u) fr to (0, (sp 25).2.1, (sp 25).2.2) (sp u).1.toNat)) u (brg (rst (sp u) fr to (0, (sp 25).2.1, (sp 25).2.2) (sp u).1.toNat) 0 (0, (sp u).2.1, (sp u).2.2) (rst (sp u) fr to (0, (sp 25).2.1, (sp 25).2.2) (sp u).1.toNat).1.toNat)) se al ta n pg) (r := (RX0, TX0, 3)) (m_X0_becomeSame l E hj (upI sp 25 (rst (sp u) fr to (0, (sp 25).2.1, (sp 25).2.2) (sp u).1.toNat)) se al ta n pg u (by omega) (sp u) ((upI_n _ _ (by omega)).trans (rfl)) 25 (by omega) (rst (sp u) fr to (0, (sp 25).2.1, (sp 25).2.2) (sp u).1.toNat) (upI_s _ _ _) (by omega)  (vl_wb (by omega) hU.1)) (cwV 1 S.2.2.2.2 gX1_takePages_X0_becomeSame rfl rfl rfl (by decide +kernel) ⟨Nat.le_of_ble_eq_true rfl, Nat.le_of_ble_eq_true rfl⟩) rfl rfl rfl rfl (Nat.le_of_ble_eq_true rfl) ⟨Nat.le_of_ble_eq_true rfl, Nat.le_of_ble_eq_true rfl⟩ (fun _ q => q) (fun _ h => cw_o (i := u) h (by omega) ((upI_n _ _ (by omega)).trans (rfl))) (fun _ h => h) (fun _ _ _ h _ _ => h) dX1_takePages_54 ?_
  refine g_iload S dX1_takePages_57 0 rfl ?_
  rw [show (smI (fun k => pI (cov (sp u) (k + 1))) pg.toNat - smI (fun k => pI ((fun q => cov (sp u) q ∧ ¬ (fr ≤ q ∧ q ≤ to)) (k + 1))) pg.toNat) = (smI (fun k => (sp u).2.2 k - (sp u).2.1 k + 1) ((sp u).1).toNat - smI (fun k => (rst (sp u) fr to (0, (sp 25).2.1, (sp 25).2.2) (sp u).1.toNat).2.2 k - (rst (sp u) fr to (0, (sp 25).2.1, (sp 25).2.2) (sp u).1.toNat).2.1 k + 1) ((rst (sp u) fr to (0, (sp 25).2.1, (sp 25).2.2) (sp u).1.toNat).1).toNat) from by rw [pg_sum vu.1 (by omega), pg_sum hU.1 (by omega)]; exact congrArg (_ - ·) (smI_c (fun k _ _ => pI_c (hU.2 (k + 1)).symm))]
  exact g_iret S xr xlk dX1_takePages_59 (fun _ h => ⟨_, _, fun i h0 h1 => ⟨fun z => by rw [upI_n _ _ z, upI_n _ _ (by omega)], fun z => by rw [z, upI_s]; exact ⟨(brg_same hU.1 (sp u).2.1 (sp u).2.2).1, fun q => ((brg_same hU.1 (sp u).2.1 (sp u).2.2).2 q).trans (hU.2 q)⟩⟩, h⟩)
set_option maxHeartbeats 4000000 in
set_option maxRecDepth 100000 in
theorem m_X1_takePagesX (l : Launch) (hlt : l.stackTraces = false) (E : EN) (bs : Nat) {ad : Int → Nat} (hj : INJ ad) (sp : Int → SpT) (se : Int → Int) (al : Int → Nat) (ta : Int → Int) (n pg : Int) (u fr to : Int) (hh : u < 0 ∨ n ≤ u) (hr : -2147483648 ≤ u ∧ u ≤ 2147483647) (hn : 0 ≤ n ∧ n ≤ 24) : vx_Met l yX1_takePages wsX1_takePages ({ frames := 7, cells := 1, slots := 6, locals := 103 }) (CX E bs [.ref (ad 0), .int (iI u), .int (iI fr), .int (iI to)] (CW E ad sp se al ta n pg)) QF (XW "java/lang/IndexOutOfBoundsException" (CW E ad sp se al ta n pg) (fun _ => False)) 1 6 (fun _ => False) := by
  refine g_metX (cc := cX1_takePages) (maxL := 6) (ret := (some .int)) (lv := [(0, .ref (ad 0)), (1, .int (iI u)), (2, .int (iI fr)), (3, .int (iI to))]) (by decide) rfl (Nat.le_of_ble_eq_true rfl) rfl ?_
  intro xp xe xs xm xa xb xh xc S xK xX xlk xno
  refine g_aload_n S dX1_takePages_0 rfl 0 rfl ?_
  refine g_iload_n S dX1_takePages_1 rfl 1 rfl ?_
  exact g_callVX S xK xlk xno xX (As := [.int (iI u)]) (st := []) (r := (RX1, TX1, 9)) (m_X1_needHeadingX l hlt E bs hj sp se al ta n pg u (by omega) (by omega) hn) (cwV 1 S.2.2.2.2 gX1_takePages_X1_needHeading rfl rfl rfl (by decide +kernel) ⟨Nat.le_of_ble_eq_true rfl, Nat.le_of_ble_eq_true rfl⟩) rfl rfl rfl (Nat.le_of_ble_eq_true rfl) ⟨Nat.le_of_ble_eq_true rfl, Nat.le_of_ble_eq_true rfl, Nat.le_of_ble_eq_true rfl, Nat.le_of_ble_eq_true rfl⟩ (fun _ q => q.elim) (fun _ q => q.elim) (fun _ h => cw_x h) (fun _ h => h) (fun _ _ _ h _ _ => h) dX1_takePages_2
set_option maxHeartbeats 4000000 in
set_option maxRecDepth 100000 in
theorem m_X1_takePagesY (l : Launch) (hlt : l.stackTraces = false) (E : EN) (bs : Nat) {ad : Int → Nat} (hj : INJ ad) (sp : Int → SpT) (se : Int → Int) (al : Int → Nat) (ta : Int → Int) (n pg : Int) (u fr to : Int) (hh : 0 ≤ u ∧ u < n) (hn : 0 ≤ n ∧ n ≤ 24) (hpg : 1 ≤ pg ∧ pg ≤ 300) (hf : fr < 1 ∨ to < fr ∨ pg < to) (hr : -2147483648 ≤ fr ∧ fr ≤ 2147483647 ∧ -2147483648 ≤ to ∧ to ≤ 2147483647) : vx_Met l yX1_takePages wsX1_takePages ({ frames := 7, cells := 1, slots := 6, locals := 104 }) (CX E bs [.ref (ad 0), .int (iI u), .int (iI fr), .int (iI to)] (CW E ad sp se al ta n pg)) QF (XW "java/lang/IllegalArgumentException" (CW E ad sp se al ta n pg) (fun _ => False)) 1 6 (fun _ => False) := by
  refine g_metX (cc := cX1_takePages) (maxL := 6) (ret := (some .int)) (lv := [(0, .ref (ad 0)), (1, .int (iI u)), (2, .int (iI fr)), (3, .int (iI to))]) (by decide) rfl (Nat.le_of_ble_eq_true rfl) rfl ?_
  intro xp xe xs xm xa xb xh xc S xK xX xlk xno
  refine g_aload_n S dX1_takePages_0 rfl 0 rfl ?_
  refine g_iload_n S dX1_takePages_1 rfl 1 rfl ?_
  refine g_callV S xK (As := [.int (iI u)]) (st := []) (stk' := []) (Wp' := CW E ad sp se al ta n pg) (r := (RX1, TX1, 9)) (m_X1_needHeading l E hj sp se al ta n pg u (by omega) hn) (cwV 1 S.2.2.2.2 gX1_takePages_X1_needHeading rfl rfl rfl (by decide +kernel) ⟨Nat.le_of_ble_eq_true rfl, Nat.le_of_ble_eq_true rfl⟩) rfl rfl rfl rfl (Nat.le_of_ble_eq_true rfl) ⟨Nat.le_of_ble_eq_true rfl, Nat.le_of_ble_eq_true rfl⟩ (fun _ q => q.elim) (fun _ h => cw_x h) (fun _ h => h) (fun _ _ _ h _ _ => h) dX1_takePages_2 ?_
  refine g_aload_n S dX1_takePages_5 rfl 0 rfl ?_
  refine g_iload_n S dX1_takePages_6 rfl 2 rfl ?_
  refine g_iload_n S dX1_takePages_7 rfl 3 rfl ?_
  exact g_callVX S xK xlk xno xX (As := [.int (iI fr), .int (iI to)]) (st := []) (r := (RX1, TX1, 9)) (m_X1_needPagesX l hlt E bs hj sp se al ta n pg fr to (by omega) (by omega) hpg) (cwV 2 S.2.2.2.2 gX1_takePages_X1_needPages rfl rfl rfl (by decide +kernel) ⟨Nat.le_of_ble_eq_true rfl, Nat.le_of_ble_eq_true rfl⟩) rfl rfl rfl (Nat.le_of_ble_eq_true rfl) ⟨Nat.le_of_ble_eq_true rfl, Nat.le_of_ble_eq_true rfl, Nat.le_of_ble_eq_true rfl, Nat.le_of_ble_eq_true rfl⟩ (fun _ q => q.elim) (fun _ q => q.elim) (fun _ h => cw_x h) (fun _ h => h) (fun _ _ _ h _ _ => h) dX1_takePages_8
set_option maxHeartbeats 4000000 in
set_option maxRecDepth 100000 in
theorem m_X1_takePagesR (l : Launch) (hlt : l.stackTraces = false) (E : EN) (bs : Nat) {ad : Int → Nat} (hj : INJ ad) (sp : Int → SpT) (se : Int → Int) (al : Int → Nat) (ta : Int → Int) (n pg : Int) (u fr to : Int) (hh : 0 ≤ u ∧ u < n) (hn : 0 ≤ n ∧ n ≤ 24) (hpg : 1 ≤ pg ∧ pg ≤ 300) (hsp : SPV sp n pg) (hf : 1 ≤ fr ∧ fr ≤ to ∧ to ≤ pg) (hc : 8 < (spS (fun q => cov (sp u) q ∧ ¬ (fr ≤ q ∧ q ≤ to)) 0 pg.toNat).1) (hAb : ∀ q, AX ad q → bs ≤ q) : vx_Met l yX1_takePages wsX1_takePages ({ frames := 7, cells := 1, slots := 6, locals := 102 }) (CX E bs [.ref (ad 0), .int (iI u), .int (iI fr), .int (iI to)] (CW E ad sp se al ta n pg)) QF (XW "java/lang/IllegalStateException" (CQ E ad se al n pg (fun i g => g = sp i)) (AX ad)) 1 6 (AX ad) := by
  refine g_metX (cc := cX1_takePages) (maxL := 6) (ret := (some .int)) (lv := [(0, .ref (ad 0)), (1, .int (iI u)), (2, .int (iI fr)), (3, .int (iI to))]) (by decide) rfl (Nat.le_of_ble_eq_true rfl) rfl ?_
  intro xp xe xs xm xa xb xh xc S xK xX xlk xno
  have kf30 := S.2.2.2.2 (.fieldLink RX1 30 "BookIndex" "made" "LBookIndex$Spans;") (by decide +kernel)
  have hin1 : ∀ w ∈ wsX10, w ∈ wsX1_takePages := by decide +kernel
  have vu := hsp u (by omega) (by omega)
  have hU := rst_vl vu.1 vu.2 (a := fr) (b := to) hf (sp 25).2.1 (sp 25).2.2
  have eQ : (spS (fun q => cov (sp u) q ∧ ¬ (fr ≤ q ∧ q ≤ to)) 0 pg.toNat).1 = (rst (sp u) fr to (0, (sp 25).2.1, (sp 25).2.2) (sp u).1.toNat).1 := by rw [vl_ns hU.1 (by omega)]; exact congrArg Prod.fst (spS_c (fun q _ _ => (hU.2 q).symm))
  have eU := hU.1.1
  have eV := hU.1.2.1
  refine g_aload_n S dX1_takePages_0 rfl 0 rfl ?_
  refine g_iload_n S dX1_takePages_1 rfl 1 rfl ?_
  refine g_callV S xK (As := [.int (iI u)]) (st := []) (stk' := []) (Wp' := CW E ad sp se al ta n pg) (r := (RX1, TX1, 9)) (m_X1_needHeading l E hj sp se al ta n pg u (by omega) hn) (cwV 1 S.2.2.2.2 gX1_takePages_X1_needHeading rfl rfl rfl (by decide +kernel) ⟨Nat.le_of_ble_eq_true rfl, Nat.le_of_ble_eq_true rfl⟩) rfl rfl rfl rfl (Nat.le_of_ble_eq_true rfl) ⟨Nat.le_of_ble_eq_true rfl, Nat.le_of_ble_eq_true rfl⟩ (fun _ q => q.elim) (fun _ h => cw_x h) (fun _ h => h) (fun _ _ _ h _ _ => h) dX1_takePages_2 ?_
  refine g_aload_n S dX1_takePages_5 rfl 0 rfl ?_
  refine g_iload_n S dX1_takePages_6 rfl 2 rfl ?_
  refine g_iload_n S dX1_takePages_7 rfl 3 rfl ?_
  refine g_callV S xK (As := [.int (iI fr), .int (iI to)]) (st := []) (stk' := []) (Wp' := CW E ad sp se al ta n pg) (r := (RX1, TX1, 9)) (m_X1_needPages l E hj sp se al ta n pg fr to (by omega) hpg) (cwV 2 S.2.2.2.2 gX1_takePages_X1_needPages rfl rfl rfl (by decide +kernel) ⟨Nat.le_of_ble_eq_true rfl, Nat.le_of_ble_eq_true rfl⟩) rfl rfl rfl rfl (Nat.le_of_ble_eq_true rfl) ⟨Nat.le_of_ble_eq_true rfl, Nat.le_of_ble_eq_true rfl⟩ (fun _ q => q.elim) (fun _ h => cw_x h) (fun _ h => h) (fun _ _ _ h _ _ => h) dX1_takePages_8 ?_
  refine g_aload_n S dX1_takePages_11 rfl 0 rfl ?_
  refine g_iload_n S dX1_takePages_12 rfl 1 rfl ?_
  refine g_callV S xK (As := [.int (iI u)]) (st := []) (stk' := [.ref (ad (5 + 3 * u))]) (Wp' := CW E ad sp se al ta n pg) (r := (RX1, TX1, 9)) (m_X1_spansAt l E hj sp se al ta n pg u (by omega) hn) (cwV 1 S.2.2.2.2 gX1_takePages_X1_spansAt rfl rfl rfl (by decide +kernel) ⟨Nat.le_of_ble_eq_true rfl, Nat.le_of_ble_eq_true rfl⟩) rfl rfl rfl rfl (Nat.le_of_ble_eq_true rfl) ⟨Nat.le_of_ble_eq_true rfl, Nat.le_of_ble_eq_true rfl⟩ (fun _ q => q.elim) (fun _ h => cw_x h) (fun _ h => h) (fun _ _ _ h _ _ => h) dX1_takePages_13 ?_
  refine g_astore S (lv' := [(4, .ref (ad (5 + 3 * u))), (0, .ref (ad 0)), (1, .int (iI u)), (2, .int (iI fr)), (3, .int (iI to))]) dX1_takePages_16 (Nat.le_of_ble_eq_true rfl) rfl ?_
  refine g_aload_n S dX1_takePages_18 rfl 1 rfl ?_
  refine g_get S xK (ref := "BookIndex") hin1 5 (by decide) (show vwCl[1]? = some (RX1, TX1, 9) from rfl) kf30 (fun _ h9 => h9) (fun _ h => cw_x h) rfl dX1_takePages_19 ?_
  refine g_aload S dX1_takePages_22 0 rfl ?_
  refine g_iload_n S dX1_takePages_24 rfl 3 rfl ?_
  refine g_iload_n S dX1_takePages_25 rfl 4 rfl ?_
  refine g_callV S xK (As := [.ref (ad (5 + 3 * u)), .int (iI fr), .int (iI to)]) (st := []) (stk' := []) (Wp' := CW E ad (upI sp 25 (rst (sp u) fr to (0, (sp 25).2.1, (sp 25).2.2) (sp u).1.toNat)) se al ta n pg) (r := (RX0, TX0, 3)) (m_X0_becomeRest l E hj sp se al ta n pg 25 (by omega) (sp 25) (rfl) u (by omega) (sp u) (rfl) (by omega) fr to (vl_wb (by omega) (hsp u (by omega) (by omega)).1) (by omega)) (cwV 3 S.2.2.2.2 gX1_takePages_X0_becomeRest rfl rfl rfl (by decide +kernel) ⟨Nat.le_of_ble_eq_true rfl, Nat.le_of_ble_eq_true rfl⟩) rfl rfl rfl rfl (Nat.le_of_ble_eq_true rfl) ⟨Nat.le_of_ble_eq_true rfl, Nat.le_of_ble_eq_true rfl⟩ (fun _ q => q) (fun _ h => cw_o (i := 25) h (by omega) (rfl)) (fun _ h => h) (fun _ _ _ h _ _ => h) dX1_takePages_26 ?_
  refine g_aload_n S dX1_takePages_29 rfl 1 rfl ?_
  exact g_callVX S xK xlk xno xX (As := []) (st := []) (r := (RX1, TX1, 9)) (m_X1_needRoomForMadeX l hlt E bs hj (upI sp 25 (rst (sp u) fr to (0, (sp 25).2.1, (sp 25).2.2) (sp u).1.toNat)) se al ta n pg  (by rw [upI_s]; omega)) (cwV 0 S.2.2.2.2 gX1_takePages_X1_needRoomForMade rfl rfl rfl (by decide +kernel) ⟨Nat.le_of_ble_eq_true rfl, Nat.le_of_ble_eq_true rfl⟩) rfl rfl rfl (Nat.le_of_ble_eq_true rfl) ⟨Nat.le_of_ble_eq_true rfl, Nat.le_of_ble_eq_true rfl, Nat.le_of_ble_eq_true rfl, Nat.le_of_ble_eq_true rfl⟩ (fun _ q => q.elim) (hAb) (fun _ h => cw_x h) (fun _ h => h) (fun _ _ _ h _ _ => ⟨_, _, fun i h0 h1 => upI_n _ _ (by omega), h⟩) dX1_takePages_30
set_option maxHeartbeats 4000000 in
set_option maxRecDepth 100000 in
theorem m_X1_setSee (l : Launch) (E : EN) {ad : Int → Nat} (hj : INJ ad) (sp : Int → SpT) (se : Int → Int) (al : Int → Nat) (ta : Int → Int) (n pg : Int) (u o : Int) (hh : 0 ≤ u ∧ u < n) (hn : 0 ≤ n ∧ n ≤ 24) (hsp : SPV sp n pg) (ho : o = -1 ∨ (0 ≤ o ∧ o < n ∧ o ≠ u ∧ (sp u).1 = 0)) : Met l yX1_setSee wsX1_setSee ({ frames := 3, cells := 0, slots := 0, locals := 64 }) (CI E [.ref (ad 0), .int (iI u), .int (iI o)] (CW E ad sp se al ta n pg)) (QW (some (.int (iI (se u)))) (CW E ad sp (upI se u o) al ta n pg) (AX ad)) 0 0 (AX ad) := by
  refine g_met (cc := cX1_setSee) (maxL := 4) (ret := (some .int)) (lv := [(0, .ref (ad 0)), (1, .int (iI u)), (2, .int (iI o))]) (by decide) rfl (Nat.le_of_ble_eq_true rfl) rfl ?_
  intro xp xe xs xm xa xb xh xc S xK xr xlk xin
  have kf16 := S.2.2.2.2 (.fieldLink RX1 16 "BookIndex" "sees" "[I") (by decide +kernel)
  have hin1 : ∀ w ∈ wsX10, w ∈ wsX1_setSee := by decide +kernel
  refine g_aload_n S dX1_setSee_0 rfl 0 rfl ?_
  refine g_iload_n S dX1_setSee_1 rfl 1 rfl ?_
  refine g_callV S xK (As := [.int (iI u)]) (st := []) (stk' := []) (Wp' := CW E ad sp se al ta n pg) (r := (RX1, TX1, 9)) (m_X1_needHeading l E hj sp se al ta n pg u (by omega) hn) (cwV 1 S.2.2.2.2 gX1_setSee_X1_needHeading rfl rfl rfl (by decide +kernel) ⟨Nat.le_of_ble_eq_true rfl, Nat.le_of_ble_eq_true rfl⟩) rfl rfl rfl rfl (Nat.le_of_ble_eq_true rfl) ⟨Nat.le_of_ble_eq_true rfl, Nat.le_of_ble_eq_true rfl⟩ (fun _ q => q.elim) (fun _ h => cw_x h) (fun _ h => h) (fun _ _ _ h _ _ => h) dX1_setSee_2 ?_
  refine g_iload_n S dX1_setSee_5 rfl 2 rfl ?_
  refine g_iconst S dX1_setSee_6 ?_
  refine g_icmp_eq S (tgt := 26) dX1_setSee_7 (by decide) (by omega) (fun c7 => ?_) (fun c7 => ?_)
  · skip
    refine g_aload_n S dX1_setSee_26 rfl 0 rfl ?_
    refine g_get S xK (ref := "BookIndex") hin1 1 (by decide) (show vwCl[1]? = some (RX1, TX1, 9) from rfl) kf16 (fun _ h9 => h9) (fun _ h => cw_x h) rfl dX1_setSee_27 ?_
    refine g_iload_n S dX1_setSee_30 rfl 1 rfl ?_
    refine g_iald S xK (n := 24) (fun _ h => cw_se h) (by omega) (by decide) dX1_setSee_31 ?_
    refine g_istore_n S (lv' := [(3, .int (iI (se u))), (0, .ref (ad 0)), (1, .int (iI u)), (2, .int (iI o))]) dX1_setSee_32 rfl (Nat.le_of_ble_eq_true rfl) rfl ?_
    refine g_aload_n S dX1_setSee_33 rfl 1 rfl ?_
    refine g_get S xK (ref := "BookIndex") hin1 1 (by decide) (show vwCl[1]? = some (RX1, TX1, 9) from rfl) kf16 (fun _ h9 => h9) (fun _ h => cw_x h) rfl dX1_setSee_34 ?_
    refine g_iload_n S dX1_setSee_37 rfl 2 rfl ?_
    refine g_iload_n S dX1_setSee_38 rfl 3 rfl ?_
    refine g_iast S xK (Wp' := CW E ad sp (upI se u o) al ta n pg) (n := 24) (fun _ h => cw_se h) (by omega) (by decide) (ax_in (by omega)) (fun _ _ h hv _ oq => cw_sSe hj h hv oq) dX1_setSee_39 ?_
    refine g_iload_n S dX1_setSee_40 rfl 0 rfl ?_
    exact g_iret S xr xlk dX1_setSee_41 (fun _ h => h)
  · skip
    refine g_aload_n S dX1_setSee_10 rfl 0 rfl ?_
    refine g_iload_n S dX1_setSee_11 rfl 2 rfl ?_
    refine g_callV S xK (As := [.int (iI o)]) (st := []) (stk' := []) (Wp' := CW E ad sp se al ta n pg) (r := (RX1, TX1, 9)) (m_X1_needHeading l E hj sp se al ta n pg o (by omega) hn) (cwV 1 S.2.2.2.2 gX1_setSee_X1_needHeading rfl rfl rfl (by decide +kernel) ⟨Nat.le_of_ble_eq_true rfl, Nat.le_of_ble_eq_true rfl⟩) rfl rfl rfl rfl (Nat.le_of_ble_eq_true rfl) ⟨Nat.le_of_ble_eq_true rfl, Nat.le_of_ble_eq_true rfl⟩ (fun _ q => q.elim) (fun _ h => cw_x h) (fun _ h => h) (fun _ _ _ h _ _ => h) dX1_setSee_12 ?_
    refine g_aload_n S dX1_setSee_15 rfl 0 rfl ?_
    refine g_iload_n S dX1_setSee_16 rfl 1 rfl ?_
    refine g_iload_n S dX1_setSee_17 rfl 2 rfl ?_
    refine g_callV S xK (As := [.int (iI u), .int (iI o)]) (st := []) (stk' := []) (Wp' := CW E ad sp se al ta n pg) (r := (RX1, TX1, 9)) (m_X1_needTwo l E hj sp se al ta n pg u o (by omega) (by omega)) (cwV 2 S.2.2.2.2 gX1_setSee_X1_needTwo rfl rfl rfl (by decide +kernel) ⟨Nat.le_of_ble_eq_true rfl, Nat.le_of_ble_eq_true rfl⟩) rfl rfl rfl rfl (Nat.le_of_ble_eq_true rfl) ⟨Nat.le_of_ble_eq_true rfl, Nat.le_of_ble_eq_true rfl⟩ (fun _ q => q.elim) (fun _ h => cw_x h) (fun _ h => h) (fun _ _ _ h _ _ => h) dX1_setSee_18 ?_
    refine g_aload_n S dX1_setSee_21 rfl 0 rfl ?_
    refine g_iload_n S dX1_setSee_22 rfl 1 rfl ?_
    refine g_callV S xK (As := [.int (iI u)]) (st := []) (stk' := []) (Wp' := CW E ad sp se al ta n pg) (r := (RX1, TX1, 9)) (m_X1_needNoPages l E hj sp se al ta n pg u (by omega) hn hsp (by omega)) (cwV 1 S.2.2.2.2 gX1_setSee_X1_needNoPages rfl rfl rfl (by decide +kernel) ⟨Nat.le_of_ble_eq_true rfl, Nat.le_of_ble_eq_true rfl⟩) rfl rfl rfl rfl (Nat.le_of_ble_eq_true rfl) ⟨Nat.le_of_ble_eq_true rfl, Nat.le_of_ble_eq_true rfl⟩ (fun _ q => q.elim) (fun _ h => cw_x h) (fun _ h => h) (fun _ _ _ h _ _ => h) dX1_setSee_23 ?_
    refine g_aload_n S dX1_setSee_26 rfl 0 rfl ?_
    refine g_get S xK (ref := "BookIndex") hin1 1 (by decide) (show vwCl[1]? = some (RX1, TX1, 9) from rfl) kf16 (fun _ h9 => h9) (fun _ h => cw_x h) rfl dX1_setSee_27 ?_
    refine g_iload_n S dX1_setSee_30 rfl 1 rfl ?_
    refine g_iald S xK (n := 24) (fun _ h => cw_se h) (by omega) (by decide) dX1_setSee_31 ?_
    refine g_istore_n S (lv' := [(3, .int (iI (se u))), (0, .ref (ad 0)), (1, .int (iI u)), (2, .int (iI o))]) dX1_setSee_32 rfl (Nat.le_of_ble_eq_true rfl) rfl ?_
    refine g_aload_n S dX1_setSee_33 rfl 1 rfl ?_
    refine g_get S xK (ref := "BookIndex") hin1 1 (by decide) (show vwCl[1]? = some (RX1, TX1, 9) from rfl) kf16 (fun _ h9 => h9) (fun _ h => cw_x h) rfl dX1_setSee_34 ?_
    refine g_iload_n S dX1_setSee_37 rfl 2 rfl ?_
    refine g_iload_n S dX1_setSee_38 rfl 3 rfl ?_
    refine g_iast S xK (Wp' := CW E ad sp (upI se u o) al ta n pg) (n := 24) (fun _ h => cw_se h) (by omega) (by decide) (ax_in (by omega)) (fun _ _ h hv _ oq => cw_sSe hj h hv oq) dX1_setSee_39 ?_
    refine g_iload_n S dX1_setSee_40 rfl 0 rfl ?_
    exact g_iret S xr xlk dX1_setSee_41 (fun _ h => h)
set_option maxHeartbeats 4000000 in
set_option maxRecDepth 100000 in
theorem m_X1_setSeeX (l : Launch) (hlt : l.stackTraces = false) (E : EN) (bs : Nat) {ad : Int → Nat} (hj : INJ ad) (sp : Int → SpT) (se : Int → Int) (al : Int → Nat) (ta : Int → Int) (n pg : Int) (u o : Int) (hh : u < 0 ∨ n ≤ u) (hr : -2147483648 ≤ u ∧ u ≤ 2147483647) (hn : 0 ≤ n ∧ n ≤ 24) : vx_Met l yX1_setSee wsX1_setSee ({ frames := 7, cells := 1, slots := 6, locals := 103 }) (CX E bs [.ref (ad 0), .int (iI u), .int (iI o)] (CW E ad sp se al ta n pg)) QF (XW "java/lang/IndexOutOfBoundsException" (CW E ad sp se al ta n pg) (fun _ => False)) 1 6 (fun _ => False) := by
  refine g_metX (cc := cX1_setSee) (maxL := 4) (ret := (some .int)) (lv := [(0, .ref (ad 0)), (1, .int (iI u)), (2, .int (iI o))]) (by decide) rfl (Nat.le_of_ble_eq_true rfl) rfl ?_
  intro xp xe xs xm xa xb xh xc S xK xX xlk xno
  refine g_aload_n S dX1_setSee_0 rfl 0 rfl ?_
  refine g_iload_n S dX1_setSee_1 rfl 1 rfl ?_
  exact g_callVX S xK xlk xno xX (As := [.int (iI u)]) (st := []) (r := (RX1, TX1, 9)) (m_X1_needHeadingX l hlt E bs hj sp se al ta n pg u (by omega) (by omega) hn) (cwV 1 S.2.2.2.2 gX1_setSee_X1_needHeading rfl rfl rfl (by decide +kernel) ⟨Nat.le_of_ble_eq_true rfl, Nat.le_of_ble_eq_true rfl⟩) rfl rfl rfl (Nat.le_of_ble_eq_true rfl) ⟨Nat.le_of_ble_eq_true rfl, Nat.le_of_ble_eq_true rfl, Nat.le_of_ble_eq_true rfl, Nat.le_of_ble_eq_true rfl⟩ (fun _ q => q.elim) (fun _ q => q.elim) (fun _ h => cw_x h) (fun _ h => h) (fun _ _ _ h _ _ => h) dX1_setSee_2
set_option maxHeartbeats 4000000 in
set_option maxRecDepth 100000 in
theorem m_X1_setSeeY (l : Launch) (hlt : l.stackTraces = false) (E : EN) (bs : Nat) {ad : Int → Nat} (hj : INJ ad) (sp : Int → SpT) (se : Int → Int) (al : Int → Nat) (ta : Int → Int) (n pg : Int) (u o : Int) (hh : 0 ≤ u ∧ u < n) (hn : 0 ≤ n ∧ n ≤ 24) (ho : o < -1 ∨ n ≤ o) (hr : -2147483648 ≤ o ∧ o ≤ 2147483647) : vx_Met l yX1_setSee wsX1_setSee ({ frames := 7, cells := 1, slots := 6, locals := 103 }) (CX E bs [.ref (ad 0), .int (iI u), .int (iI o)] (CW E ad sp se al ta n pg)) QF (XW "java/lang/IndexOutOfBoundsException" (CW E ad sp se al ta n pg) (fun _ => False)) 1 6 (fun _ => False) := by
  refine g_metX (cc := cX1_setSee) (maxL := 4) (ret := (some .int)) (lv := [(0, .ref (ad 0)), (1, .int (iI u)), (2, .int (iI o))]) (by decide) rfl (Nat.le_of_ble_eq_true rfl) rfl ?_
  intro xp xe xs xm xa xb xh xc S xK xX xlk xno
  refine g_aload_n S dX1_setSee_0 rfl 0 rfl ?_
  refine g_iload_n S dX1_setSee_1 rfl 1 rfl ?_
  refine g_callV S xK (As := [.int (iI u)]) (st := []) (stk' := []) (Wp' := CW E ad sp se al ta n pg) (r := (RX1, TX1, 9)) (m_X1_needHeading l E hj sp se al ta n pg u (by omega) hn) (cwV 1 S.2.2.2.2 gX1_setSee_X1_needHeading rfl rfl rfl (by decide +kernel) ⟨Nat.le_of_ble_eq_true rfl, Nat.le_of_ble_eq_true rfl⟩) rfl rfl rfl rfl (Nat.le_of_ble_eq_true rfl) ⟨Nat.le_of_ble_eq_true rfl, Nat.le_of_ble_eq_true rfl⟩ (fun _ q => q.elim) (fun _ h => cw_x h) (fun _ h => h) (fun _ _ _ h _ _ => h) dX1_setSee_2 ?_
  refine g_iload_n S dX1_setSee_5 rfl 2 rfl ?_
  refine g_iconst S dX1_setSee_6 ?_
  refine g_icmp_eq S (tgt := 26) dX1_setSee_7 (by decide) (by omega) (fun c7 => ?_) (fun c7 => ?_)
  · skip
    exact absurd c7 (by omega)
  · skip
    refine g_aload_n S dX1_setSee_10 rfl 0 rfl ?_
    refine g_iload_n S dX1_setSee_11 rfl 2 rfl ?_
    exact g_callVX S xK xlk xno xX (As := [.int (iI o)]) (st := []) (r := (RX1, TX1, 9)) (m_X1_needHeadingX l hlt E bs hj sp se al ta n pg o (by omega) (by omega) hn) (cwV 1 S.2.2.2.2 gX1_setSee_X1_needHeading rfl rfl rfl (by decide +kernel) ⟨Nat.le_of_ble_eq_true rfl, Nat.le_of_ble_eq_true rfl⟩) rfl rfl rfl (Nat.le_of_ble_eq_true rfl) ⟨Nat.le_of_ble_eq_true rfl, Nat.le_of_ble_eq_true rfl, Nat.le_of_ble_eq_true rfl, Nat.le_of_ble_eq_true rfl⟩ (fun _ q => q.elim) (fun _ q => q.elim) (fun _ h => cw_x h) (fun _ h => h) (fun _ _ _ h _ _ => h) dX1_setSee_12
set_option maxHeartbeats 4000000 in
set_option maxRecDepth 100000 in
theorem m_X1_setSeeZ (l : Launch) (hlt : l.stackTraces = false) (E : EN) (bs : Nat) {ad : Int → Nat} (hj : INJ ad) (sp : Int → SpT) (se : Int → Int) (al : Int → Nat) (ta : Int → Int) (n pg : Int) (u o : Int) (hh : 0 ≤ u ∧ u < n) (hn : 0 ≤ n ∧ n ≤ 24) (ho : o = u) : vx_Met l yX1_setSee wsX1_setSee ({ frames := 7, cells := 1, slots := 6, locals := 104 }) (CX E bs [.ref (ad 0), .int (iI u), .int (iI o)] (CW E ad sp se al ta n pg)) QF (XW "java/lang/IllegalArgumentException" (CW E ad sp se al ta n pg) (fun _ => False)) 1 6 (fun _ => False) := by
  refine g_metX (cc := cX1_setSee) (maxL := 4) (ret := (some .int)) (lv := [(0, .ref (ad 0)), (1, .int (iI u)), (2, .int (iI o))]) (by decide) rfl (Nat.le_of_ble_eq_true rfl) rfl ?_
  intro xp xe xs xm xa xb xh xc S xK xX xlk xno
  refine g_aload_n S dX1_setSee_0 rfl 0 rfl ?_
  refine g_iload_n S dX1_setSee_1 rfl 1 rfl ?_
  refine g_callV S xK (As := [.int (iI u)]) (st := []) (stk' := []) (Wp' := CW E ad sp se al ta n pg) (r := (RX1, TX1, 9)) (m_X1_needHeading l E hj sp se al ta n pg u (by omega) hn) (cwV 1 S.2.2.2.2 gX1_setSee_X1_needHeading rfl rfl rfl (by decide +kernel) ⟨Nat.le_of_ble_eq_true rfl, Nat.le_of_ble_eq_true rfl⟩) rfl rfl rfl rfl (Nat.le_of_ble_eq_true rfl) ⟨Nat.le_of_ble_eq_true rfl, Nat.le_of_ble_eq_true rfl⟩ (fun _ q => q.elim) (fun _ h => cw_x h) (fun _ h => h) (fun _ _ _ h _ _ => h) dX1_setSee_2 ?_
  refine g_iload_n S dX1_setSee_5 rfl 2 rfl ?_
  refine g_iconst S dX1_setSee_6 ?_
  refine g_icmp_eq S (tgt := 26) dX1_setSee_7 (by decide) (by omega) (fun c7 => ?_) (fun c7 => ?_)
  · skip
    exact absurd c7 (by omega)
  · skip
    refine g_aload_n S dX1_setSee_10 rfl 0 rfl ?_
    refine g_iload_n S dX1_setSee_11 rfl 2 rfl ?_
    refine g_callV S xK (As := [.int (iI o)]) (st := []) (stk' := []) (Wp' := CW E ad sp se al ta n pg) (r := (RX1, TX1, 9)) (m_X1_needHeading l E hj sp se al ta n pg o (by omega) hn) (cwV 1 S.2.2.2.2 gX1_setSee_X1_needHeading rfl rfl rfl (by decide +kernel) ⟨Nat.le_of_ble_eq_true rfl, Nat.le_of_ble_eq_true rfl⟩) rfl rfl rfl rfl (Nat.le_of_ble_eq_true rfl) ⟨Nat.le_of_ble_eq_true rfl, Nat.le_of_ble_eq_true rfl⟩ (fun _ q => q.elim) (fun _ h => cw_x h) (fun _ h => h) (fun _ _ _ h _ _ => h) dX1_setSee_12 ?_
    refine g_aload_n S dX1_setSee_15 rfl 0 rfl ?_
    refine g_iload_n S dX1_setSee_16 rfl 1 rfl ?_
    refine g_iload_n S dX1_setSee_17 rfl 2 rfl ?_
    exact g_callVX S xK xlk xno xX (As := [.int (iI u), .int (iI o)]) (st := []) (r := (RX1, TX1, 9)) (m_X1_needTwoX l hlt E bs hj sp se al ta n pg u o (by omega) (by omega)) (cwV 2 S.2.2.2.2 gX1_setSee_X1_needTwo rfl rfl rfl (by decide +kernel) ⟨Nat.le_of_ble_eq_true rfl, Nat.le_of_ble_eq_true rfl⟩) rfl rfl rfl (Nat.le_of_ble_eq_true rfl) ⟨Nat.le_of_ble_eq_true rfl, Nat.le_of_ble_eq_true rfl, Nat.le_of_ble_eq_true rfl, Nat.le_of_ble_eq_true rfl⟩ (fun _ q => q.elim) (fun _ q => q.elim) (fun _ h => cw_x h) (fun _ h => h) (fun _ _ _ h _ _ => h) dX1_setSee_18
set_option maxHeartbeats 4000000 in
set_option maxRecDepth 100000 in
theorem m_X1_setSeeR (l : Launch) (hlt : l.stackTraces = false) (E : EN) (bs : Nat) {ad : Int → Nat} (hj : INJ ad) (sp : Int → SpT) (se : Int → Int) (al : Int → Nat) (ta : Int → Int) (n pg : Int) (u o : Int) (hh : 0 ≤ u ∧ u < n) (hn : 0 ≤ n ∧ n ≤ 24) (hsp : SPV sp n pg) (ho : 0 ≤ o ∧ o < n ∧ o ≠ u) (hc : (sp u).1 ≠ 0) : vx_Met l yX1_setSee wsX1_setSee ({ frames := 7, cells := 1, slots := 6, locals := 103 }) (CX E bs [.ref (ad 0), .int (iI u), .int (iI o)] (CW E ad sp se al ta n pg)) QF (XW "java/lang/IllegalStateException" (CW E ad sp se al ta n pg) (fun _ => False)) 1 6 (fun _ => False) := by
  refine g_metX (cc := cX1_setSee) (maxL := 4) (ret := (some .int)) (lv := [(0, .ref (ad 0)), (1, .int (iI u)), (2, .int (iI o))]) (by decide) rfl (Nat.le_of_ble_eq_true rfl) rfl ?_
  intro xp xe xs xm xa xb xh xc S xK xX xlk xno
  refine g_aload_n S dX1_setSee_0 rfl 0 rfl ?_
  refine g_iload_n S dX1_setSee_1 rfl 1 rfl ?_
  refine g_callV S xK (As := [.int (iI u)]) (st := []) (stk' := []) (Wp' := CW E ad sp se al ta n pg) (r := (RX1, TX1, 9)) (m_X1_needHeading l E hj sp se al ta n pg u (by omega) hn) (cwV 1 S.2.2.2.2 gX1_setSee_X1_needHeading rfl rfl rfl (by decide +kernel) ⟨Nat.le_of_ble_eq_true rfl, Nat.le_of_ble_eq_true rfl⟩) rfl rfl rfl rfl (Nat.le_of_ble_eq_true rfl) ⟨Nat.le_of_ble_eq_true rfl, Nat.le_of_ble_eq_true rfl⟩ (fun _ q => q.elim) (fun _ h => cw_x h) (fun _ h => h) (fun _ _ _ h _ _ => h) dX1_setSee_2 ?_
  refine g_iload_n S dX1_setSee_5 rfl 2 rfl ?_
  refine g_iconst S dX1_setSee_6 ?_
  refine g_icmp_eq S (tgt := 26) dX1_setSee_7 (by decide) (by omega) (fun c7 => ?_) (fun c7 => ?_)
  · skip
    exact absurd c7 (by omega)
  · skip
    refine g_aload_n S dX1_setSee_10 rfl 0 rfl ?_
    refine g_iload_n S dX1_setSee_11 rfl 2 rfl ?_
    refine g_callV S xK (As := [.int (iI o)]) (st := []) (stk' := []) (Wp' := CW E ad sp se al ta n pg) (r := (RX1, TX1, 9)) (m_X1_needHeading l E hj sp se al ta n pg o (by omega) hn) (cwV 1 S.2.2.2.2 gX1_setSee_X1_needHeading rfl rfl rfl (by decide +kernel) ⟨Nat.le_of_ble_eq_true rfl, Nat.le_of_ble_eq_true rfl⟩) rfl rfl rfl rfl (Nat.le_of_ble_eq_true rfl) ⟨Nat.le_of_ble_eq_true rfl, Nat.le_of_ble_eq_true rfl⟩ (fun _ q => q.elim) (fun _ h => cw_x h) (fun _ h => h) (fun _ _ _ h _ _ => h) dX1_setSee_12 ?_
    refine g_aload_n S dX1_setSee_15 rfl 0 rfl ?_
    refine g_iload_n S dX1_setSee_16 rfl 1 rfl ?_
    refine g_iload_n S dX1_setSee_17 rfl 2 rfl ?_
    refine g_callV S xK (As := [.int (iI u), .int (iI o)]) (st := []) (stk' := []) (Wp' := CW E ad sp se al ta n pg) (r := (RX1, TX1, 9)) (m_X1_needTwo l E hj sp se al ta n pg u o (by omega) (by omega)) (cwV 2 S.2.2.2.2 gX1_setSee_X1_needTwo rfl rfl rfl (by decide +kernel) ⟨Nat.le_of_ble_eq_true rfl, Nat.le_of_ble_eq_true rfl⟩) rfl rfl rfl rfl (Nat.le_of_ble_eq_true rfl) ⟨Nat.le_of_ble_eq_true rfl, Nat.le_of_ble_eq_true rfl⟩ (fun _ q => q.elim) (fun _ h => cw_x h) (fun _ h => h) (fun _ _ _ h _ _ => h) dX1_setSee_18 ?_
    refine g_aload_n S dX1_setSee_21 rfl 0 rfl ?_
    refine g_iload_n S dX1_setSee_22 rfl 1 rfl ?_
    exact g_callVX S xK xlk xno xX (As := [.int (iI u)]) (st := []) (r := (RX1, TX1, 9)) (m_X1_needNoPagesX l hlt E bs hj sp se al ta n pg u (by omega) hn hsp (by omega)) (cwV 1 S.2.2.2.2 gX1_setSee_X1_needNoPages rfl rfl rfl (by decide +kernel) ⟨Nat.le_of_ble_eq_true rfl, Nat.le_of_ble_eq_true rfl⟩) rfl rfl rfl (Nat.le_of_ble_eq_true rfl) ⟨Nat.le_of_ble_eq_true rfl, Nat.le_of_ble_eq_true rfl, Nat.le_of_ble_eq_true rfl, Nat.le_of_ble_eq_true rfl⟩ (fun _ q => q.elim) (fun _ q => q.elim) (fun _ h => cw_x h) (fun _ h => h) (fun _ _ _ h _ _ => h) dX1_setSee_23
set_option maxHeartbeats 4000000 in
set_option maxRecDepth 100000 in
theorem m_X1_turnSeeAlso (l : Launch) (E : EN) {ad : Int → Nat} (hj : INJ ad) (sp : Int → SpT) (se : Int → Int) (al : Int → Nat) (ta : Int → Int) (n pg : Int) (u o : Int) (hh : 0 ≤ u ∧ u < n) (hn : 0 ≤ n ∧ n ≤ 24) (hgr : GR se al n) (ho : 0 ≤ o ∧ o < n ∧ o ≠ u) (hc : pop (al u ^^^ 2 ^ o.toNat) 24 ≤ 4) : Met l yX1_turnSeeAlso wsX1_turnSeeAlso ({ frames := 2, cells := 0, slots := 0, locals := 42 }) (CI E [.ref (ad 0), .int (iI u), .int (iI o)] (CW E ad sp se al ta n pg)) (QW (some (.int (iI ((pop (al u ^^^ 2 ^ o.toNat) 24 : Nat) : Int)))) (CW E ad sp se (upI al u (al u ^^^ 2 ^ o.toNat)) ta n pg) (AX ad)) 0 0 (AX ad) := by
  refine g_met (cc := cX1_turnSeeAlso) (maxL := 4) (ret := (some .int)) (lv := [(0, .ref (ad 0)), (1, .int (iI u)), (2, .int (iI o))]) (by decide) rfl (Nat.le_of_ble_eq_true rfl) rfl ?_
  intro xp xe xs xm xa xb xh xc S xK xr xlk xin
  have kf20 := S.2.2.2.2 (.fieldLink RX1 20 "BookIndex" "seeAlsos" "[I") (by decide +kernel)
  have hin1 : ∀ w ∈ wsX10, w ∈ wsX1_turnSeeAlso := by decide +kernel
  have hxl : al u ^^^ 2 ^ o.toNat < 2 ^ n.toNat := Nat.xor_lt_two_pow (hgr.2 u (by omega) (by omega)) (Nat.pow_lt_pow_right (by decide) (by omega))
  have hpl := pop_le (al u ^^^ 2 ^ o.toNat) 24
  refine g_aload_n S dX1_turnSeeAlso_0 rfl 0 rfl ?_
  refine g_iload_n S dX1_turnSeeAlso_1 rfl 1 rfl ?_
  refine g_callV S xK (As := [.int (iI u)]) (st := []) (stk' := []) (Wp' := CW E ad sp se al ta n pg) (r := (RX1, TX1, 9)) (m_X1_needHeading l E hj sp se al ta n pg u (by omega) hn) (cwV 1 S.2.2.2.2 gX1_turnSeeAlso_X1_needHeading rfl rfl rfl (by decide +kernel) ⟨Nat.le_of_ble_eq_true rfl, Nat.le_of_ble_eq_true rfl⟩) rfl rfl rfl rfl (Nat.le_of_ble_eq_true rfl) ⟨Nat.le_of_ble_eq_true rfl, Nat.le_of_ble_eq_true rfl⟩ (fun _ q => q.elim) (fun _ h => cw_x h) (fun _ h => h) (fun _ _ _ h _ _ => h) dX1_turnSeeAlso_2 ?_
  refine g_aload_n S dX1_turnSeeAlso_5 rfl 0 rfl ?_
  refine g_iload_n S dX1_turnSeeAlso_6 rfl 2 rfl ?_
  refine g_callV S xK (As := [.int (iI o)]) (st := []) (stk' := []) (Wp' := CW E ad sp se al ta n pg) (r := (RX1, TX1, 9)) (m_X1_needHeading l E hj sp se al ta n pg o (by omega) hn) (cwV 1 S.2.2.2.2 gX1_turnSeeAlso_X1_needHeading rfl rfl rfl (by decide +kernel) ⟨Nat.le_of_ble_eq_true rfl, Nat.le_of_ble_eq_true rfl⟩) rfl rfl rfl rfl (Nat.le_of_ble_eq_true rfl) ⟨Nat.le_of_ble_eq_true rfl, Nat.le_of_ble_eq_true rfl⟩ (fun _ q => q.elim) (fun _ h => cw_x h) (fun _ h => h) (fun _ _ _ h _ _ => h) dX1_turnSeeAlso_7 ?_
  refine g_aload_n S dX1_turnSeeAlso_10 rfl 0 rfl ?_
  refine g_iload_n S dX1_turnSeeAlso_11 rfl 1 rfl ?_
  refine g_iload_n S dX1_turnSeeAlso_12 rfl 2 rfl ?_
  refine g_callV S xK (As := [.int (iI u), .int (iI o)]) (st := []) (stk' := []) (Wp' := CW E ad sp se al ta n pg) (r := (RX1, TX1, 9)) (m_X1_needTwo l E hj sp se al ta n pg u o (by omega) (by omega)) (cwV 2 S.2.2.2.2 gX1_turnSeeAlso_X1_needTwo rfl rfl rfl (by decide +kernel) ⟨Nat.le_of_ble_eq_true rfl, Nat.le_of_ble_eq_true rfl⟩) rfl rfl rfl rfl (Nat.le_of_ble_eq_true rfl) ⟨Nat.le_of_ble_eq_true rfl, Nat.le_of_ble_eq_true rfl⟩ (fun _ q => q.elim) (fun _ h => cw_x h) (fun _ h => h) (fun _ _ _ h _ _ => h) dX1_turnSeeAlso_13 ?_
  refine g_aload_n S dX1_turnSeeAlso_16 rfl 0 rfl ?_
  refine g_get S xK (ref := "BookIndex") hin1 2 (by decide) (show vwCl[1]? = some (RX1, TX1, 9) from rfl) kf20 (fun _ h9 => h9) (fun _ h => cw_x h) rfl dX1_turnSeeAlso_17 ?_
  refine g_iload_n S dX1_turnSeeAlso_20 rfl 1 rfl ?_
  refine g_iald S xK (n := 24) (fun _ h => cw_al h) (by omega) (by decide) dX1_turnSeeAlso_21 ?_
  refine g_iload_n S dX1_turnSeeAlso_22 rfl 2 rfl ?_
  refine g_callS S xK (As := [.int (iI o)]) (st := [.int (iI ((al u : Nat) : Int))]) (stk' := [.int (iI ((2 ^ o.toNat : Nat) : Int)), .int (iI ((al u : Nat) : Int))]) (Wp' := CW E ad sp se al ta n pg) (m_X1_only l E (Wp := CW E ad sp se al ta n pg) o (by omega)) (cwS 1 S.2.2.2.2 gX1_turnSeeAlso_X1_only rfl rfl rfl (by decide +kernel) ⟨Nat.le_of_ble_eq_true rfl, Nat.le_of_ble_eq_true rfl⟩) rfl rfl rfl (Nat.le_of_ble_eq_true rfl) ⟨Nat.le_of_ble_eq_true rfl, Nat.le_of_ble_eq_true rfl⟩ (fun _ q => q.elim) (fun _ h => h) (fun _ _ _ h _ _ => h) dX1_turnSeeAlso_23 ?_
  refine g_ixor S (z := (iI ((al u ^^^ 2 ^ o.toNat : Nat) : Int))) dX1_turnSeeAlso_26 (iI_xor _ _) ?_
  refine g_istore_n S (lv' := [(3, .int (iI ((al u ^^^ 2 ^ o.toNat : Nat) : Int))), (0, .ref (ad 0)), (1, .int (iI u)), (2, .int (iI o))]) dX1_turnSeeAlso_27 rfl (Nat.le_of_ble_eq_true rfl) rfl ?_
  refine g_iload_n S dX1_turnSeeAlso_28 rfl 0 rfl ?_
  refine g_callS S xK (As := [.int (iI ((al u ^^^ 2 ^ o.toNat : Nat) : Int))]) (st := []) (stk' := [.int (iI ((pop (al u ^^^ 2 ^ o.toNat) 24 : Nat) : Int))]) (Wp' := CW E ad sp se al ta n pg) (m_J6_bitCount_0f7a4 l E (CW E ad sp se al ta n pg) (al u ^^^ 2 ^ o.toNat) (lt24 hn hxl)) (va_cwS 1 S.2.2.2.2 gX1_turnSeeAlso_J6_bitCount_0f7a4 rfl rfl rfl (by decide +kernel) ⟨Nat.le_of_ble_eq_true rfl, Nat.le_of_ble_eq_true rfl⟩) rfl rfl rfl (Nat.le_of_ble_eq_true rfl) ⟨Nat.le_of_ble_eq_true rfl, Nat.le_of_ble_eq_true rfl⟩ (fun _ q => q.elim) (fun _ h => h) (fun _ _ _ h _ _ => h) dX1_turnSeeAlso_29 ?_
  refine g_iconst S dX1_turnSeeAlso_32 ?_
  refine g_icmp_le S (tgt := 46) dX1_turnSeeAlso_33 (by decide) (by omega) (fun c33 => ?_) (fun c33 => ?_)
  · skip
    refine g_aload_n S dX1_turnSeeAlso_46 rfl 1 rfl ?_
    refine g_get S xK (ref := "BookIndex") hin1 2 (by decide) (show vwCl[1]? = some (RX1, TX1, 9) from rfl) kf20 (fun _ h9 => h9) (fun _ h => cw_x h) rfl dX1_turnSeeAlso_47 ?_
    refine g_iload_n S dX1_turnSeeAlso_50 rfl 2 rfl ?_
    refine g_iload_n S dX1_turnSeeAlso_51 rfl 0 rfl ?_
    refine g_iast S xK (Wp' := CW E ad sp se (upI al u (al u ^^^ 2 ^ o.toNat)) ta n pg) (n := 24) (fun _ h => cw_al h) (by omega) (by decide) (ax_in (by omega)) (fun _ _ h hv _ oq => cw_sAl hj h hv oq) dX1_turnSeeAlso_52 ?_
    refine g_iload_n S dX1_turnSeeAlso_53 rfl 0 rfl ?_
    refine g_callS S xK (As := [.int (iI ((al u ^^^ 2 ^ o.toNat : Nat) : Int))]) (st := []) (stk' := [.int (iI ((pop (al u ^^^ 2 ^ o.toNat) 24 : Nat) : Int))]) (Wp' := CW E ad sp se (upI al u (al u ^^^ 2 ^ o.toNat)) ta n pg) (m_J6_bitCount_0f7a4 l E (CW E ad sp se (upI al u (al u ^^^ 2 ^ o.toNat)) ta n pg) (al u ^^^ 2 ^ o.toNat) (lt24 hn hxl)) (va_cwS 1 S.2.2.2.2 gX1_turnSeeAlso_J6_bitCount_0f7a4 rfl rfl rfl (by decide +kernel) ⟨Nat.le_of_ble_eq_true rfl, Nat.le_of_ble_eq_true rfl⟩) rfl rfl rfl (Nat.le_of_ble_eq_true rfl) ⟨Nat.le_of_ble_eq_true rfl, Nat.le_of_ble_eq_true rfl⟩ (fun _ q => q.elim) (fun _ h => h) (fun _ _ _ h _ _ => h) dX1_turnSeeAlso_54 ?_
    exact g_iret S xr xlk dX1_turnSeeAlso_57 (fun _ h => h)
  · skip
    exact absurd c33 (by omega)
set_option maxHeartbeats 4000000 in
set_option maxRecDepth 100000 in
theorem m_X1_turnSeeAlsoX (l : Launch) (hlt : l.stackTraces = false) (E : EN) (bs : Nat) {ad : Int → Nat} (hj : INJ ad) (sp : Int → SpT) (se : Int → Int) (al : Int → Nat) (ta : Int → Int) (n pg : Int) (u o : Int) (hh : u < 0 ∨ n ≤ u) (hr : -2147483648 ≤ u ∧ u ≤ 2147483647) (hn : 0 ≤ n ∧ n ≤ 24) : vx_Met l yX1_turnSeeAlso wsX1_turnSeeAlso ({ frames := 7, cells := 1, slots := 6, locals := 103 }) (CX E bs [.ref (ad 0), .int (iI u), .int (iI o)] (CW E ad sp se al ta n pg)) QF (XW "java/lang/IndexOutOfBoundsException" (CW E ad sp se al ta n pg) (fun _ => False)) 1 6 (fun _ => False) := by
  refine g_metX (cc := cX1_turnSeeAlso) (maxL := 4) (ret := (some .int)) (lv := [(0, .ref (ad 0)), (1, .int (iI u)), (2, .int (iI o))]) (by decide) rfl (Nat.le_of_ble_eq_true rfl) rfl ?_
  intro xp xe xs xm xa xb xh xc S xK xX xlk xno
  refine g_aload_n S dX1_turnSeeAlso_0 rfl 0 rfl ?_
  refine g_iload_n S dX1_turnSeeAlso_1 rfl 1 rfl ?_
  exact g_callVX S xK xlk xno xX (As := [.int (iI u)]) (st := []) (r := (RX1, TX1, 9)) (m_X1_needHeadingX l hlt E bs hj sp se al ta n pg u (by omega) (by omega) hn) (cwV 1 S.2.2.2.2 gX1_turnSeeAlso_X1_needHeading rfl rfl rfl (by decide +kernel) ⟨Nat.le_of_ble_eq_true rfl, Nat.le_of_ble_eq_true rfl⟩) rfl rfl rfl (Nat.le_of_ble_eq_true rfl) ⟨Nat.le_of_ble_eq_true rfl, Nat.le_of_ble_eq_true rfl, Nat.le_of_ble_eq_true rfl, Nat.le_of_ble_eq_true rfl⟩ (fun _ q => q.elim) (fun _ q => q.elim) (fun _ h => cw_x h) (fun _ h => h) (fun _ _ _ h _ _ => h) dX1_turnSeeAlso_2
set_option maxHeartbeats 4000000 in
set_option maxRecDepth 100000 in
theorem m_X1_turnSeeAlsoY (l : Launch) (hlt : l.stackTraces = false) (E : EN) (bs : Nat) {ad : Int → Nat} (hj : INJ ad) (sp : Int → SpT) (se : Int → Int) (al : Int → Nat) (ta : Int → Int) (n pg : Int) (u o : Int) (hh : 0 ≤ u ∧ u < n) (hn : 0 ≤ n ∧ n ≤ 24) (ho : o < 0 ∨ n ≤ o) (hr : -2147483648 ≤ o ∧ o ≤ 2147483647) : vx_Met l yX1_turnSeeAlso wsX1_turnSeeAlso ({ frames := 7, cells := 1, slots := 6, locals := 103 }) (CX E bs [.ref (ad 0), .int (iI u), .int (iI o)] (CW E ad sp se al ta n pg)) QF (XW "java/lang/IndexOutOfBoundsException" (CW E ad sp se al ta n pg) (fun _ => False)) 1 6 (fun _ => False) := by
  refine g_metX (cc := cX1_turnSeeAlso) (maxL := 4) (ret := (some .int)) (lv := [(0, .ref (ad 0)), (1, .int (iI u)), (2, .int (iI o))]) (by decide) rfl (Nat.le_of_ble_eq_true rfl) rfl ?_
  intro xp xe xs xm xa xb xh xc S xK xX xlk xno
  refine g_aload_n S dX1_turnSeeAlso_0 rfl 0 rfl ?_
  refine g_iload_n S dX1_turnSeeAlso_1 rfl 1 rfl ?_
  refine g_callV S xK (As := [.int (iI u)]) (st := []) (stk' := []) (Wp' := CW E ad sp se al ta n pg) (r := (RX1, TX1, 9)) (m_X1_needHeading l E hj sp se al ta n pg u (by omega) hn) (cwV 1 S.2.2.2.2 gX1_turnSeeAlso_X1_needHeading rfl rfl rfl (by decide +kernel) ⟨Nat.le_of_ble_eq_true rfl, Nat.le_of_ble_eq_true rfl⟩) rfl rfl rfl rfl (Nat.le_of_ble_eq_true rfl) ⟨Nat.le_of_ble_eq_true rfl, Nat.le_of_ble_eq_true rfl⟩ (fun _ q => q.elim) (fun _ h => cw_x h) (fun _ h => h) (fun _ _ _ h _ _ => h) dX1_turnSeeAlso_2 ?_
  refine g_aload_n S dX1_turnSeeAlso_5 rfl 0 rfl ?_
  refine g_iload_n S dX1_turnSeeAlso_6 rfl 2 rfl ?_
  exact g_callVX S xK xlk xno xX (As := [.int (iI o)]) (st := []) (r := (RX1, TX1, 9)) (m_X1_needHeadingX l hlt E bs hj sp se al ta n pg o (by omega) (by omega) hn) (cwV 1 S.2.2.2.2 gX1_turnSeeAlso_X1_needHeading rfl rfl rfl (by decide +kernel) ⟨Nat.le_of_ble_eq_true rfl, Nat.le_of_ble_eq_true rfl⟩) rfl rfl rfl (Nat.le_of_ble_eq_true rfl) ⟨Nat.le_of_ble_eq_true rfl, Nat.le_of_ble_eq_true rfl, Nat.le_of_ble_eq_true rfl, Nat.le_of_ble_eq_true rfl⟩ (fun _ q => q.elim) (fun _ q => q.elim) (fun _ h => cw_x h) (fun _ h => h) (fun _ _ _ h _ _ => h) dX1_turnSeeAlso_7
set_option maxHeartbeats 4000000 in
set_option maxRecDepth 100000 in
theorem m_X1_turnSeeAlsoZ (l : Launch) (hlt : l.stackTraces = false) (E : EN) (bs : Nat) {ad : Int → Nat} (hj : INJ ad) (sp : Int → SpT) (se : Int → Int) (al : Int → Nat) (ta : Int → Int) (n pg : Int) (u o : Int) (hh : 0 ≤ u ∧ u < n) (hn : 0 ≤ n ∧ n ≤ 24) (ho : o = u) : vx_Met l yX1_turnSeeAlso wsX1_turnSeeAlso ({ frames := 7, cells := 1, slots := 6, locals := 104 }) (CX E bs [.ref (ad 0), .int (iI u), .int (iI o)] (CW E ad sp se al ta n pg)) QF (XW "java/lang/IllegalArgumentException" (CW E ad sp se al ta n pg) (fun _ => False)) 1 6 (fun _ => False) := by
  refine g_metX (cc := cX1_turnSeeAlso) (maxL := 4) (ret := (some .int)) (lv := [(0, .ref (ad 0)), (1, .int (iI u)), (2, .int (iI o))]) (by decide) rfl (Nat.le_of_ble_eq_true rfl) rfl ?_
  intro xp xe xs xm xa xb xh xc S xK xX xlk xno
  refine g_aload_n S dX1_turnSeeAlso_0 rfl 0 rfl ?_
  refine g_iload_n S dX1_turnSeeAlso_1 rfl 1 rfl ?_
  refine g_callV S xK (As := [.int (iI u)]) (st := []) (stk' := []) (Wp' := CW E ad sp se al ta n pg) (r := (RX1, TX1, 9)) (m_X1_needHeading l E hj sp se al ta n pg u (by omega) hn) (cwV 1 S.2.2.2.2 gX1_turnSeeAlso_X1_needHeading rfl rfl rfl (by decide +kernel) ⟨Nat.le_of_ble_eq_true rfl, Nat.le_of_ble_eq_true rfl⟩) rfl rfl rfl rfl (Nat.le_of_ble_eq_true rfl) ⟨Nat.le_of_ble_eq_true rfl, Nat.le_of_ble_eq_true rfl⟩ (fun _ q => q.elim) (fun _ h => cw_x h) (fun _ h => h) (fun _ _ _ h _ _ => h) dX1_turnSeeAlso_2 ?_
  refine g_aload_n S dX1_turnSeeAlso_5 rfl 0 rfl ?_
  refine g_iload_n S dX1_turnSeeAlso_6 rfl 2 rfl ?_
  refine g_callV S xK (As := [.int (iI o)]) (st := []) (stk' := []) (Wp' := CW E ad sp se al ta n pg) (r := (RX1, TX1, 9)) (m_X1_needHeading l E hj sp se al ta n pg o (by omega) hn) (cwV 1 S.2.2.2.2 gX1_turnSeeAlso_X1_needHeading rfl rfl rfl (by decide +kernel) ⟨Nat.le_of_ble_eq_true rfl, Nat.le_of_ble_eq_true rfl⟩) rfl rfl rfl rfl (Nat.le_of_ble_eq_true rfl) ⟨Nat.le_of_ble_eq_true rfl, Nat.le_of_ble_eq_true rfl⟩ (fun _ q => q.elim) (fun _ h => cw_x h) (fun _ h => h) (fun _ _ _ h _ _ => h) dX1_turnSeeAlso_7 ?_
  refine g_aload_n S dX1_turnSeeAlso_10 rfl 0 rfl ?_
  refine g_iload_n S dX1_turnSeeAlso_11 rfl 1 rfl ?_
  refine g_iload_n S dX1_turnSeeAlso_12 rfl 2 rfl ?_
  exact g_callVX S xK xlk xno xX (As := [.int (iI u), .int (iI o)]) (st := []) (r := (RX1, TX1, 9)) (m_X1_needTwoX l hlt E bs hj sp se al ta n pg u o (by omega) (by omega)) (cwV 2 S.2.2.2.2 gX1_turnSeeAlso_X1_needTwo rfl rfl rfl (by decide +kernel) ⟨Nat.le_of_ble_eq_true rfl, Nat.le_of_ble_eq_true rfl⟩) rfl rfl rfl (Nat.le_of_ble_eq_true rfl) ⟨Nat.le_of_ble_eq_true rfl, Nat.le_of_ble_eq_true rfl, Nat.le_of_ble_eq_true rfl, Nat.le_of_ble_eq_true rfl⟩ (fun _ q => q.elim) (fun _ q => q.elim) (fun _ h => cw_x h) (fun _ h => h) (fun _ _ _ h _ _ => h) dX1_turnSeeAlso_13
set_option maxHeartbeats 4000000 in
set_option maxRecDepth 100000 in
theorem m_X1_turnSeeAlsoR (l : Launch) (hlt : l.stackTraces = false) (E : EN) (bs : Nat) {ad : Int → Nat} (hj : INJ ad) (sp : Int → SpT) (se : Int → Int) (al : Int → Nat) (ta : Int → Int) (n pg : Int) (u o : Int) (hh : 0 ≤ u ∧ u < n) (hn : 0 ≤ n ∧ n ≤ 24) (hgr : GR se al n) (ho : 0 ≤ o ∧ o < n ∧ o ≠ u) (hc : 4 < pop (al u ^^^ 2 ^ o.toNat) 24) : vx_Met l yX1_turnSeeAlso wsX1_turnSeeAlso ({ frames := 6, cells := 1, slots := 6, locals := 82 }) (CX E bs [.ref (ad 0), .int (iI u), .int (iI o)] (CW E ad sp se al ta n pg)) QF (XW "java/lang/IllegalStateException" (CW E ad sp se al ta n pg) (fun _ => False)) 1 6 (fun _ => False) := by
  refine g_metX (cc := cX1_turnSeeAlso) (maxL := 4) (ret := (some .int)) (lv := [(0, .ref (ad 0)), (1, .int (iI u)), (2, .int (iI o))]) (by decide) rfl (Nat.le_of_ble_eq_true rfl) rfl ?_
  intro xp xe xs xm xa xb xh xc S xK xX xlk xno
  have kf20 := S.2.2.2.2 (.fieldLink RX1 20 "BookIndex" "seeAlsos" "[I") (by decide +kernel)
  have kk43 := S.2.2.2.2 (.classLink RX1 43 "java/lang/IllegalStateException") (by decide +kernel)
  have ki43 := S.2.2.2.2 (.initialized "java/lang/IllegalStateException") (by decide +kernel)
  have kg47 : ∀ w ∈ (vx_atS RX1 47 "java/lang/IllegalStateException" nm3).filter goodWord, w.before xa xs = true := fun w h => S.2.2.2.2 w (by first | exact List.mem_cons_of_mem _ (List.mem_append_right _ h) | exact List.mem_cons_of_mem _ (List.mem_append_left _ (List.mem_append_right _ h)) | exact List.mem_cons_of_mem _ (List.mem_append_left _ (List.mem_append_left _ (List.mem_append_right _ h))))
  have hin1 : ∀ w ∈ wsX10, w ∈ wsX1_turnSeeAlso := by decide +kernel
  have hxl : al u ^^^ 2 ^ o.toNat < 2 ^ n.toNat := Nat.xor_lt_two_pow (hgr.2 u (by omega) (by omega)) (Nat.pow_lt_pow_right (by decide) (by omega))
  have hpl := pop_le (al u ^^^ 2 ^ o.toNat) 24
  refine g_aload_n S dX1_turnSeeAlso_0 rfl 0 rfl ?_
  refine g_iload_n S dX1_turnSeeAlso_1 rfl 1 rfl ?_
  refine g_callV S xK (As := [.int (iI u)]) (st := []) (stk' := []) (Wp' := CW E ad sp se al ta n pg) (r := (RX1, TX1, 9)) (m_X1_needHeading l E hj sp se al ta n pg u (by omega) hn) (cwV 1 S.2.2.2.2 gX1_turnSeeAlso_X1_needHeading rfl rfl rfl (by decide +kernel) ⟨Nat.le_of_ble_eq_true rfl, Nat.le_of_ble_eq_true rfl⟩) rfl rfl rfl rfl (Nat.le_of_ble_eq_true rfl) ⟨Nat.le_of_ble_eq_true rfl, Nat.le_of_ble_eq_true rfl⟩ (fun _ q => q.elim) (fun _ h => cw_x h) (fun _ h => h) (fun _ _ _ h _ _ => h) dX1_turnSeeAlso_2 ?_
  refine g_aload_n S dX1_turnSeeAlso_5 rfl 0 rfl ?_
  refine g_iload_n S dX1_turnSeeAlso_6 rfl 2 rfl ?_
  refine g_callV S xK (As := [.int (iI o)]) (st := []) (stk' := []) (Wp' := CW E ad sp se al ta n pg) (r := (RX1, TX1, 9)) (m_X1_needHeading l E hj sp se al ta n pg o (by omega) hn) (cwV 1 S.2.2.2.2 gX1_turnSeeAlso_X1_needHeading rfl rfl rfl (by decide +kernel) ⟨Nat.le_of_ble_eq_true rfl, Nat.le_of_ble_eq_true rfl⟩) rfl rfl rfl rfl (Nat.le_of_ble_eq_true rfl) ⟨Nat.le_of_ble_eq_true rfl, Nat.le_of_ble_eq_true rfl⟩ (fun _ q => q.elim) (fun _ h => cw_x h) (fun _ h => h) (fun _ _ _ h _ _ => h) dX1_turnSeeAlso_7 ?_
  refine g_aload_n S dX1_turnSeeAlso_10 rfl 0 rfl ?_
  refine g_iload_n S dX1_turnSeeAlso_11 rfl 1 rfl ?_
  refine g_iload_n S dX1_turnSeeAlso_12 rfl 2 rfl ?_
  refine g_callV S xK (As := [.int (iI u), .int (iI o)]) (st := []) (stk' := []) (Wp' := CW E ad sp se al ta n pg) (r := (RX1, TX1, 9)) (m_X1_needTwo l E hj sp se al ta n pg u o (by omega) (by omega)) (cwV 2 S.2.2.2.2 gX1_turnSeeAlso_X1_needTwo rfl rfl rfl (by decide +kernel) ⟨Nat.le_of_ble_eq_true rfl, Nat.le_of_ble_eq_true rfl⟩) rfl rfl rfl rfl (Nat.le_of_ble_eq_true rfl) ⟨Nat.le_of_ble_eq_true rfl, Nat.le_of_ble_eq_true rfl⟩ (fun _ q => q.elim) (fun _ h => cw_x h) (fun _ h => h) (fun _ _ _ h _ _ => h) dX1_turnSeeAlso_13 ?_
  refine g_aload_n S dX1_turnSeeAlso_16 rfl 0 rfl ?_
  refine g_get S xK (ref := "BookIndex") hin1 2 (by decide) (show vwCl[1]? = some (RX1, TX1, 9) from rfl) kf20 (fun _ h9 => h9) (fun _ h => cw_x h) rfl dX1_turnSeeAlso_17 ?_
  refine g_iload_n S dX1_turnSeeAlso_20 rfl 1 rfl ?_
  refine g_iald S xK (n := 24) (fun _ h => cw_al h) (by omega) (by decide) dX1_turnSeeAlso_21 ?_
  refine g_iload_n S dX1_turnSeeAlso_22 rfl 2 rfl ?_
  refine g_callS S xK (As := [.int (iI o)]) (st := [.int (iI ((al u : Nat) : Int))]) (stk' := [.int (iI ((2 ^ o.toNat : Nat) : Int)), .int (iI ((al u : Nat) : Int))]) (Wp' := CW E ad sp se al ta n pg) (m_X1_only l E (Wp := CW E ad sp se al ta n pg) o (by omega)) (cwS 1 S.2.2.2.2 gX1_turnSeeAlso_X1_only rfl rfl rfl (by decide +kernel) ⟨Nat.le_of_ble_eq_true rfl, Nat.le_of_ble_eq_true rfl⟩) rfl rfl rfl (Nat.le_of_ble_eq_true rfl) ⟨Nat.le_of_ble_eq_true rfl, Nat.le_of_ble_eq_true rfl⟩ (fun _ q => q.elim) (fun _ h => h) (fun _ _ _ h _ _ => h) dX1_turnSeeAlso_23 ?_
  refine g_ixor S (z := (iI ((al u ^^^ 2 ^ o.toNat : Nat) : Int))) dX1_turnSeeAlso_26 (iI_xor _ _) ?_
  refine g_istore_n S (lv' := [(3, .int (iI ((al u ^^^ 2 ^ o.toNat : Nat) : Int))), (0, .ref (ad 0)), (1, .int (iI u)), (2, .int (iI o))]) dX1_turnSeeAlso_27 rfl (Nat.le_of_ble_eq_true rfl) rfl ?_
  refine g_iload_n S dX1_turnSeeAlso_28 rfl 0 rfl ?_
  refine g_callS S xK (As := [.int (iI ((al u ^^^ 2 ^ o.toNat : Nat) : Int))]) (st := []) (stk' := [.int (iI ((pop (al u ^^^ 2 ^ o.toNat) 24 : Nat) : Int))]) (Wp' := CW E ad sp se al ta n pg) (m_J6_bitCount_0f7a4 l E (CW E ad sp se al ta n pg) (al u ^^^ 2 ^ o.toNat) (lt24 hn hxl)) (va_cwS 1 S.2.2.2.2 gX1_turnSeeAlso_J6_bitCount_0f7a4 rfl rfl rfl (by decide +kernel) ⟨Nat.le_of_ble_eq_true rfl, Nat.le_of_ble_eq_true rfl⟩) rfl rfl rfl (Nat.le_of_ble_eq_true rfl) ⟨Nat.le_of_ble_eq_true rfl, Nat.le_of_ble_eq_true rfl⟩ (fun _ q => q.elim) (fun _ h => h) (fun _ _ _ h _ _ => h) dX1_turnSeeAlso_29 ?_
  refine g_iconst S dX1_turnSeeAlso_32 ?_
  refine g_icmp_le S (tgt := 46) dX1_turnSeeAlso_33 (by decide) (by omega) (fun c33 => ?_) (fun c33 => ?_)
  · skip
    exact absurd c33 (by omega)
  · skip
    exact g_throw S hlt xlk xno xX (cls := "java/lang/IllegalStateException") (text := "the heading has 4 other see alsos") rfl (by decide) (by decide) (by decide) kk43 ki43 kg47 bad47 ot47 (fun _ q => q.elim) ⟨Nat.le_of_ble_eq_true rfl, Nat.le_of_ble_eq_true rfl, Nat.le_of_ble_eq_true rfl, Nat.le_of_ble_eq_true rfl, Nat.le_of_ble_eq_true rfl, Nat.le_of_ble_eq_true rfl⟩ dX1_turnSeeAlso_36 dX1_turnSeeAlso_39 dX1_turnSeeAlso_40 dX1_turnSeeAlso_42 dX1_turnSeeAlso_45 (fun _ _ h h1 h2 => cw_grow h h1 h2)
set_option maxHeartbeats 4000000 in
set_option maxRecDepth 100000 in
theorem m_X1_putIn (l : Launch) (E : EN) {ad : Int → Nat} (hj : INJ ad) (sp : Int → SpT) (se : Int → Int) (al : Int → Nat) (ta : Int → Int) (n pg : Int) (q mn : Int) (hn : 0 ≤ n ∧ n ≤ 24) (hpg : 1 ≤ pg ∧ pg ≤ 300) (hsp : SPV sp n pg) (hq : 1 ≤ q ∧ q ≤ pg + 1 ∧ 1 ≤ mn ∧ mn ≤ 100 ∧ pg + mn ≤ 300) : Met l yX1_putIn wsX1_putIn ({ frames := 2, cells := 0, slots := 0, locals := 43 }) (CI E [.ref (ad 0), .int (iI q), .int (iI mn)] (CW E ad sp se al ta n pg)) (QW (some (.int (iI (pg + mn)))) (CQ E ad se al n (pg + mn) (fun i g => (i < n → g = mvd (sp i) q mn (sp i).1) ∧ (n ≤ i → g = sp i))) (AX ad)) 0 0 (AX ad) := by
  refine g_met (cc := cX1_putIn) (maxL := 4) (ret := (some .int)) (lv := [(0, .ref (ad 0)), (1, .int (iI q)), (2, .int (iI mn))]) (by decide) rfl (Nat.le_of_ble_eq_true rfl) rfl ?_
  intro xp xe xs xm xa xb xh xc S xK xr xlk xin
  have kf36 := S.2.2.2.2 (.fieldLink RX1 36 "BookIndex" "headingCount" "I") (by decide +kernel)
  have kf40 := S.2.2.2.2 (.fieldLink RX1 40 "BookIndex" "pageCount" "I") (by decide +kernel)
  have hin1 : ∀ w ∈ wsX10, w ∈ wsX1_putIn := by decide +kernel
  have L70 : ∀ (nf : Nat) (o : Int) (hs : Int → SpT), (0 ≤ o ∧ o ≤ n) → (∀ i : Int, 0 ≤ i → i < o → hs i = mvd (sp i) q mn (sp i).1) → (∀ i : Int, o ≤ i → i < 24 → hs i = sp i) → (n - o < (nf : Int)) → G xp l xe ({ frames := 2, cells := 0, slots := 0, locals := 43 }) xs xm xa xb xh xc 4 (AX ad) 0 0 (MQ xb (QW (some (.int (iI (pg + mn)))) (CQ E ad se al n (pg + mn) (fun i g => (i < n → g = mvd (sp i) q mn (sp i).1) ∧ (n ≤ i → g = sp i))) (AX ad)) xa xs 0 0 (AX ad)) 70 [(0, .ref (ad 0)), (1, .int (iI q)), (2, .int (iI mn)), (3, .int (iI o))] [] (CW E ad hs se al ta n pg) := by
    intro nf
    induction nf with
    | zero =>
      intro o hs ho hlo hhi hmf
      exfalso
      omega
    | succ nf ihL70 =>
      intro o hs ho hlo hhi hmf
      refine g_iload_n S dX1_putIn_70 rfl 3 rfl ?_
      refine g_aload_n S dX1_putIn_71 rfl 0 rfl ?_
      refine g_get S xK (ref := "BookIndex") hin1 7 (by decide) (show vwCl[1]? = some (RX1, TX1, 9) from rfl) kf36 (fun _ h9 => h9) (fun _ h => cw_x h) rfl dX1_putIn_72 ?_
      refine g_icmp_ge S (tgt := 94) dX1_putIn_75 (by decide) (by omega) (fun c75 => ?_) (fun c75 => ?_)
      · skip
        refine g_aload_n S dX1_putIn_94 rfl 0 rfl ?_
        refine g_dup S dX1_putIn_95 rfl ?_
        refine g_get S xK (ref := "BookIndex") hin1 8 (by decide) (show vwCl[1]? = some (RX1, TX1, 9) from rfl) kf40 (fun _ h9 => h9) (fun _ h => cw_x h) rfl dX1_putIn_96 ?_
        refine g_iload_n S dX1_putIn_99 rfl 2 rfl ?_
        refine g_iadd S dX1_putIn_100 ?_
        refine g_put S xK (Wp' := CW E ad hs se al ta n (pg + mn)) (ref := "BookIndex") (ty := .int) hin1 tyX1 tyX1_ok nmX1 8 (by decide) (show vwCl[1]? = some (RX1, TX1, 9) from rfl) kf40 (fun _ h9 => h9) rfl (by decide +kernel) rfl rfl (fun _ h => cw_x h) (Nat.le_of_ble_eq_true rfl) (ax_in (by omega)) (fun _ _ h hv _ oq => cw_sX hj h hv oq) dX1_putIn_101 ?_
        refine g_aload_n S dX1_putIn_104 rfl 0 rfl ?_
        refine g_get S xK (ref := "BookIndex") hin1 8 (by decide) (show vwCl[1]? = some (RX1, TX1, 9) from rfl) kf40 (fun _ h9 => h9) (fun _ h => cw_x h) rfl dX1_putIn_105 ?_
        exact g_iret S xr xlk dX1_putIn_108 (fun _ h => ⟨_, _, fun i h0 h1 => ⟨fun z => hlo i h0 (by omega), fun z => hhi i (by omega) h1⟩, h⟩)
      · skip
        refine g_aload_n S dX1_putIn_78 rfl 0 rfl ?_
        refine g_iload_n S dX1_putIn_79 rfl 3 rfl ?_
        refine g_callV S xK (As := [.int (iI o)]) (st := []) (stk' := [.ref (ad (5 + 3 * o))]) (Wp' := CW E ad hs se al ta n pg) (r := (RX1, TX1, 9)) (m_X1_spansAt l E hj hs se al ta n pg o (by omega) hn) (cwV 1 S.2.2.2.2 gX1_putIn_X1_spansAt rfl rfl rfl (by decide +kernel) ⟨Nat.le_of_ble_eq_true rfl, Nat.le_of_ble_eq_true rfl⟩) rfl rfl rfl rfl (Nat.le_of_ble_eq_true rfl) ⟨Nat.le_of_ble_eq_true rfl, Nat.le_of_ble_eq_true rfl⟩ (fun _ q => q.elim) (fun _ h => cw_x h) (fun _ h => h) (fun _ _ _ h _ _ => h) dX1_putIn_80 ?_
        refine g_iload_n S dX1_putIn_83 rfl 1 rfl ?_
        refine g_iload_n S dX1_putIn_84 rfl 2 rfl ?_
        refine g_callV S xK (As := [.int (iI q), .int (iI mn)]) (st := []) (stk' := []) (Wp' := CW E ad (upI hs o (mvd (hs o) q mn (hs o).1)) se al ta n pg) (r := (RX0, TX0, 3)) (m_X0_moveOn l E hj hs se al ta n pg o (by omega) (hs o) (rfl) q mn (by rw [hhi o (by omega) (by omega)]; exact (vl_wb (by omega) (hsp o (by omega) (by omega)).1)) (by omega)) (cwV 2 S.2.2.2.2 gX1_putIn_X0_moveOn rfl rfl rfl (by decide +kernel) ⟨Nat.le_of_ble_eq_true rfl, Nat.le_of_ble_eq_true rfl⟩) rfl rfl rfl rfl (Nat.le_of_ble_eq_true rfl) ⟨Nat.le_of_ble_eq_true rfl, Nat.le_of_ble_eq_true rfl⟩ (fun _ q => q) (fun _ h => cw_o (i := o) h (by omega) (rfl)) (fun _ h => h) (fun _ _ _ h _ _ => h) dX1_putIn_85 ?_
        refine g_iinc S (lv' := [(3, .int (iI (o + 1))), (0, .ref (ad 0)), (1, .int (iI q)), (2, .int (iI mn))]) dX1_putIn_88 3 rfl (Nat.le_of_ble_eq_true rfl) rfl ?_
        refine g_goto S (tgt := 70) dX1_putIn_91 (by decide) ?_
        refine g_lv [1, 2, 3, 0] rfl ?_
        exact ihL70 (o + 1) (upI hs o (mvd (hs o) q mn (hs o).1)) (by omega) (fun i h0 h1 => by rw [upI_if]; by_cases e : i = o; (· rw [if_pos e, e, hhi o (by omega) (by omega)]); (· rw [if_neg e]; exact hlo i h0 (by omega))) (fun i h0 h1 => by rw [upI_if, if_neg (by omega)]; exact hhi i (by omega) h1) (by omega)
  refine g_iload_n S dX1_putIn_0 rfl 1 rfl ?_
  refine g_iconst S dX1_putIn_1 ?_
  refine g_icmp_lt S (tgt := 15) dX1_putIn_2 (by decide) (by omega) (fun c2 => ?_) (fun c2 => ?_)
  · skip
    exact absurd c2 (by omega)
  · skip
    refine g_iload_n S dX1_putIn_5 rfl 1 rfl ?_
    refine g_aload_n S dX1_putIn_6 rfl 0 rfl ?_
    refine g_get S xK (ref := "BookIndex") hin1 8 (by decide) (show vwCl[1]? = some (RX1, TX1, 9) from rfl) kf40 (fun _ h9 => h9) (fun _ h => cw_x h) rfl dX1_putIn_7 ?_
    refine g_iconst S dX1_putIn_10 ?_
    refine g_iadd S dX1_putIn_11 ?_
    refine g_icmp_le S (tgt := 25) dX1_putIn_12 (by decide) (by omega) (fun c12 => ?_) (fun c12 => ?_)
    · skip
      refine g_iload_n S dX1_putIn_25 rfl 2 rfl ?_
      refine g_iconst S dX1_putIn_26 ?_
      refine g_icmp_lt S (tgt := 36) dX1_putIn_27 (by decide) (by omega) (fun c27 => ?_) (fun c27 => ?_)
      · skip
        exact absurd c27 (by omega)
      · skip
        refine g_iload_n S dX1_putIn_30 rfl 2 rfl ?_
        refine g_bipush S dX1_putIn_31 (by decide) ?_
        refine g_icmp_le S (tgt := 46) dX1_putIn_33 (by decide) (by omega) (fun c33 => ?_) (fun c33 => ?_)
        · skip
          refine g_aload_n S dX1_putIn_46 rfl 0 rfl ?_
          refine g_get S xK (ref := "BookIndex") hin1 8 (by decide) (show vwCl[1]? = some (RX1, TX1, 9) from rfl) kf40 (fun _ h9 => h9) (fun _ h => cw_x h) rfl dX1_putIn_47 ?_
          refine g_iload_n S dX1_putIn_50 rfl 2 rfl ?_
          refine g_iadd S dX1_putIn_51 ?_
          refine g_sipush S dX1_putIn_52 (by decide) ?_
          refine g_icmp_le S (tgt := 68) dX1_putIn_55 (by decide) (by omega) (fun c55 => ?_) (fun c55 => ?_)
          · skip
            refine g_iconst S dX1_putIn_68 ?_
            refine g_istore_n S (lv' := [(3, .int (iI 0)), (0, .ref (ad 0)), (1, .int (iI q)), (2, .int (iI mn))]) dX1_putIn_69 rfl (Nat.le_of_ble_eq_true rfl) rfl ?_
            refine g_lv [1, 2, 3, 0] rfl ?_
            exact L70 ((n - 0) + 1).toNat 0 sp (by omega) (fun i h0 h1 => by omega) (fun i _ _ => rfl) (by omega)
          · skip
            exact absurd c55 (by omega)
        · skip
          exact absurd c33 (by omega)
    · skip
      exact absurd c12 (by omega)
set_option maxHeartbeats 4000000 in
set_option maxRecDepth 100000 in
theorem m_X1_putInX (l : Launch) (hlt : l.stackTraces = false) (E : EN) (bs : Nat) {ad : Int → Nat} (hj : INJ ad) (sp : Int → SpT) (se : Int → Int) (al : Int → Nat) (ta : Int → Int) (n pg : Int) (q mn : Int) (hpg : 1 ≤ pg ∧ pg ≤ 300) (hq : q < 1 ∨ pg + 1 < q ∨ mn < 1 ∨ 100 < mn) (hr : -2147483648 ≤ q ∧ q ≤ 2147483647 ∧ -2147483648 ≤ mn ∧ mn ≤ 2147483647) : vx_Met l yX1_putIn wsX1_putIn ({ frames := 6, cells := 1, slots := 6, locals := 82 }) (CX E bs [.ref (ad 0), .int (iI q), .int (iI mn)] (CW E ad sp se al ta n pg)) QF (XW "java/lang/IllegalArgumentException" (CW E ad sp se al ta n pg) (fun _ => False)) 1 6 (fun _ => False) := by
  refine g_metX (cc := cX1_putIn) (maxL := 4) (ret := (some .int)) (lv := [(0, .ref (ad 0)), (1, .int (iI q)), (2, .int (iI mn))]) (by decide) rfl (Nat.le_of_ble_eq_true rfl) rfl ?_
  intro xp xe xs xm xa xb xh xc S xK xX xlk xno
  have kk109 := S.2.2.2.2 (.classLink RX1 109 "java/lang/IllegalArgumentException") (by decide +kernel)
  have ki109 := S.2.2.2.2 (.initialized "java/lang/IllegalArgumentException") (by decide +kernel)
  have kg113 : ∀ w ∈ (vx_atS RX1 113 "java/lang/IllegalArgumentException" nm3).filter goodWord, w.before xa xs = true := fun w h => S.2.2.2.2 w (by first | exact List.mem_cons_of_mem _ (List.mem_append_right _ h) | exact List.mem_cons_of_mem _ (List.mem_append_left _ (List.mem_append_right _ h)) | exact List.mem_cons_of_mem _ (List.mem_append_left _ (List.mem_append_left _ (List.mem_append_right _ h))))
  have kf40 := S.2.2.2.2 (.fieldLink RX1 40 "BookIndex" "pageCount" "I") (by decide +kernel)
  have hin1 : ∀ w ∈ wsX10, w ∈ wsX1_putIn := by decide +kernel
  refine g_iload_n S dX1_putIn_0 rfl 1 rfl ?_
  refine g_iconst S dX1_putIn_1 ?_
  refine g_icmp_lt S (tgt := 15) dX1_putIn_2 (by decide) (by omega) (fun c2 => ?_) (fun c2 => ?_)
  · skip
    exact g_throw S hlt xlk xno xX (cls := "java/lang/IllegalArgumentException") (text := "no such page to put pages ahead of") rfl (by decide) (by decide) (by decide) kk109 ki109 kg113 bad113 ot113 (fun _ q => q.elim) ⟨Nat.le_of_ble_eq_true rfl, Nat.le_of_ble_eq_true rfl, Nat.le_of_ble_eq_true rfl, Nat.le_of_ble_eq_true rfl, Nat.le_of_ble_eq_true rfl, Nat.le_of_ble_eq_true rfl⟩ dX1_putIn_15 dX1_putIn_18 dX1_putIn_19 dX1_putIn_21 dX1_putIn_24 (fun _ _ h h1 h2 => cw_grow h h1 h2)
  · skip
    refine g_iload_n S dX1_putIn_5 rfl 1 rfl ?_
    refine g_aload_n S dX1_putIn_6 rfl 0 rfl ?_
    refine g_get S xK (ref := "BookIndex") hin1 8 (by decide) (show vwCl[1]? = some (RX1, TX1, 9) from rfl) kf40 (fun _ h9 => h9) (fun _ h => cw_x h) rfl dX1_putIn_7 ?_
    refine g_iconst S dX1_putIn_10 ?_
    refine g_iadd S dX1_putIn_11 ?_
    refine g_icmp_le S (tgt := 25) dX1_putIn_12 (by decide) (by omega) (fun c12 => ?_) (fun c12 => ?_)
    · skip
      refine g_iload_n S dX1_putIn_25 rfl 2 rfl ?_
      refine g_iconst S dX1_putIn_26 ?_
      refine g_icmp_lt S (tgt := 36) dX1_putIn_27 (by decide) (by omega) (fun c27 => ?_) (fun c27 => ?_)
      · skip
        exact g_throw S hlt xlk xno xX (cls := "java/lang/IllegalArgumentException") (text := "not 1 to 100 pages") rfl (by decide) (by decide) (by decide) kk109 ki109 kg113 bad113 ot113 (fun _ q => q.elim) ⟨Nat.le_of_ble_eq_true rfl, Nat.le_of_ble_eq_true rfl, Nat.le_of_ble_eq_true rfl, Nat.le_of_ble_eq_true rfl, Nat.le_of_ble_eq_true rfl, Nat.le_of_ble_eq_true rfl⟩ dX1_putIn_36 dX1_putIn_39 dX1_putIn_40 dX1_putIn_42 dX1_putIn_45 (fun _ _ h h1 h2 => cw_grow h h1 h2)
      · skip
        refine g_iload_n S dX1_putIn_30 rfl 2 rfl ?_
        refine g_bipush S dX1_putIn_31 (by decide) ?_
        refine g_icmp_le S (tgt := 46) dX1_putIn_33 (by decide) (by omega) (fun c33 => ?_) (fun c33 => ?_)
        · skip
          exact absurd c33 (by omega)
        · skip
          exact g_throw S hlt xlk xno xX (cls := "java/lang/IllegalArgumentException") (text := "not 1 to 100 pages") rfl (by decide) (by decide) (by decide) kk109 ki109 kg113 bad113 ot113 (fun _ q => q.elim) ⟨Nat.le_of_ble_eq_true rfl, Nat.le_of_ble_eq_true rfl, Nat.le_of_ble_eq_true rfl, Nat.le_of_ble_eq_true rfl, Nat.le_of_ble_eq_true rfl, Nat.le_of_ble_eq_true rfl⟩ dX1_putIn_36 dX1_putIn_39 dX1_putIn_40 dX1_putIn_42 dX1_putIn_45 (fun _ _ h h1 h2 => cw_grow h h1 h2)
    · skip
      exact g_throw S hlt xlk xno xX (cls := "java/lang/IllegalArgumentException") (text := "no such page to put pages ahead of") rfl (by decide) (by decide) (by decide) kk109 ki109 kg113 bad113 ot113 (fun _ q => q.elim) ⟨Nat.le_of_ble_eq_true rfl, Nat.le_of_ble_eq_true rfl, Nat.le_of_ble_eq_true rfl, Nat.le_of_ble_eq_true rfl, Nat.le_of_ble_eq_true rfl, Nat.le_of_ble_eq_true rfl⟩ dX1_putIn_15 dX1_putIn_18 dX1_putIn_19 dX1_putIn_21 dX1_putIn_24 (fun _ _ h h1 h2 => cw_grow h h1 h2)
set_option maxHeartbeats 4000000 in
set_option maxRecDepth 100000 in
theorem m_X1_putInY (l : Launch) (hlt : l.stackTraces = false) (E : EN) (bs : Nat) {ad : Int → Nat} (hj : INJ ad) (sp : Int → SpT) (se : Int → Int) (al : Int → Nat) (ta : Int → Int) (n pg : Int) (q mn : Int) (hpg : 1 ≤ pg ∧ pg ≤ 300) (hq : 1 ≤ q ∧ q ≤ pg + 1 ∧ 1 ≤ mn ∧ mn ≤ 100 ∧ 300 < pg + mn) : vx_Met l yX1_putIn wsX1_putIn ({ frames := 6, cells := 1, slots := 6, locals := 82 }) (CX E bs [.ref (ad 0), .int (iI q), .int (iI mn)] (CW E ad sp se al ta n pg)) QF (XW "java/lang/IllegalStateException" (CW E ad sp se al ta n pg) (fun _ => False)) 1 6 (fun _ => False) := by
  refine g_metX (cc := cX1_putIn) (maxL := 4) (ret := (some .int)) (lv := [(0, .ref (ad 0)), (1, .int (iI q)), (2, .int (iI mn))]) (by decide) rfl (Nat.le_of_ble_eq_true rfl) rfl ?_
  intro xp xe xs xm xa xb xh xc S xK xX xlk xno
  have kf40 := S.2.2.2.2 (.fieldLink RX1 40 "BookIndex" "pageCount" "I") (by decide +kernel)
  have kk43 := S.2.2.2.2 (.classLink RX1 43 "java/lang/IllegalStateException") (by decide +kernel)
  have ki43 := S.2.2.2.2 (.initialized "java/lang/IllegalStateException") (by decide +kernel)
  have kg47 : ∀ w ∈ (vx_atS RX1 47 "java/lang/IllegalStateException" nm3).filter goodWord, w.before xa xs = true := fun w h => S.2.2.2.2 w (by first | exact List.mem_cons_of_mem _ (List.mem_append_right _ h) | exact List.mem_cons_of_mem _ (List.mem_append_left _ (List.mem_append_right _ h)) | exact List.mem_cons_of_mem _ (List.mem_append_left _ (List.mem_append_left _ (List.mem_append_right _ h))))
  have hin1 : ∀ w ∈ wsX10, w ∈ wsX1_putIn := by decide +kernel
  refine g_iload_n S dX1_putIn_0 rfl 1 rfl ?_
  refine g_iconst S dX1_putIn_1 ?_
  refine g_icmp_lt S (tgt := 15) dX1_putIn_2 (by decide) (by omega) (fun c2 => ?_) (fun c2 => ?_)
  · skip
    exact absurd c2 (by omega)
  · skip
    refine g_iload_n S dX1_putIn_5 rfl 1 rfl ?_
    refine g_aload_n S dX1_putIn_6 rfl 0 rfl ?_
    refine g_get S xK (ref := "BookIndex") hin1 8 (by decide) (show vwCl[1]? = some (RX1, TX1, 9) from rfl) kf40 (fun _ h9 => h9) (fun _ h => cw_x h) rfl dX1_putIn_7 ?_
    refine g_iconst S dX1_putIn_10 ?_
    refine g_iadd S dX1_putIn_11 ?_
    refine g_icmp_le S (tgt := 25) dX1_putIn_12 (by decide) (by omega) (fun c12 => ?_) (fun c12 => ?_)
    · skip
      refine g_iload_n S dX1_putIn_25 rfl 2 rfl ?_
      refine g_iconst S dX1_putIn_26 ?_
      refine g_icmp_lt S (tgt := 36) dX1_putIn_27 (by decide) (by omega) (fun c27 => ?_) (fun c27 => ?_)
      · skip
        exact absurd c27 (by omega)
      · skip
        refine g_iload_n S dX1_putIn_30 rfl 2 rfl ?_
        refine g_bipush S dX1_putIn_31 (by decide) ?_
        refine g_icmp_le S (tgt := 46) dX1_putIn_33 (by decide) (by omega) (fun c33 => ?_) (fun c33 => ?_)
        · skip
          refine g_aload_n S dX1_putIn_46 rfl 0 rfl ?_
          refine g_get S xK (ref := "BookIndex") hin1 8 (by decide) (show vwCl[1]? = some (RX1, TX1, 9) from rfl) kf40 (fun _ h9 => h9) (fun _ h => cw_x h) rfl dX1_putIn_47 ?_
          refine g_iload_n S dX1_putIn_50 rfl 2 rfl ?_
          refine g_iadd S dX1_putIn_51 ?_
          refine g_sipush S dX1_putIn_52 (by decide) ?_
          refine g_icmp_le S (tgt := 68) dX1_putIn_55 (by decide) (by omega) (fun c55 => ?_) (fun c55 => ?_)
          · skip
            exact absurd c55 (by omega)
          · skip
            exact g_throw S hlt xlk xno xX (cls := "java/lang/IllegalStateException") (text := "the book would have more than 300 pages") rfl (by decide) (by decide) (by decide) kk43 ki43 kg47 bad47 ot47 (fun _ q => q.elim) ⟨Nat.le_of_ble_eq_true rfl, Nat.le_of_ble_eq_true rfl, Nat.le_of_ble_eq_true rfl, Nat.le_of_ble_eq_true rfl, Nat.le_of_ble_eq_true rfl, Nat.le_of_ble_eq_true rfl⟩ dX1_putIn_58 dX1_putIn_61 dX1_putIn_62 dX1_putIn_64 dX1_putIn_67 (fun _ _ h h1 h2 => cw_grow h h1 h2)
        · skip
          exact absurd c33 (by omega)
    · skip
      exact absurd c12 (by omega)
set_option maxHeartbeats 4000000 in
set_option maxRecDepth 100000 in
theorem m_X1_takeOut (l : Launch) (E : EN) {ad : Int → Nat} (hj : INJ ad) (sp : Int → SpT) (se : Int → Int) (al : Int → Nat) (ta : Int → Int) (n pg : Int) (q : Int) (hn : 0 ≤ n ∧ n ≤ 24) (hpg : 1 ≤ pg ∧ pg ≤ 300) (hsp : SPV sp n pg) (hq : 1 ≤ q ∧ q ≤ pg ∧ 1 < pg) : Met l yX1_takeOut wsX1_takeOut ({ frames := 4, cells := 0, slots := 0, locals := 85 }) (CI E [.ref (ad 0), .int (iI q)] (CW E ad sp se al ta n pg)) (QW (some (.int (iI (CHN sp n q)))) (CQ E ad se al n (pg - 1) (fun i g => (i < n → VL g (pg - 1) ∧ g.1 ≤ 8 ∧ ∀ r, cov g r ↔ cov (sp i) (if r < q then r else r + 1)) ∧ (n ≤ i → g = sp i))) (AX ad)) 0 0 (AX ad) := by
  refine g_met (cc := cX1_takeOut) (maxL := 5) (ret := (some .int)) (lv := [(0, .ref (ad 0)), (1, .int (iI q))]) (by decide) rfl (Nat.le_of_ble_eq_true rfl) rfl ?_
  intro xp xe xs xm xa xb xh xc S xK xr xlk xin
  have kf40 := S.2.2.2.2 (.fieldLink RX1 40 "BookIndex" "pageCount" "I") (by decide +kernel)
  have kf36 := S.2.2.2.2 (.fieldLink RX1 36 "BookIndex" "headingCount" "I") (by decide +kernel)
  have kf30 := S.2.2.2.2 (.fieldLink RX1 30 "BookIndex" "made" "LBookIndex$Spans;") (by decide +kernel)
  have hin1 : ∀ w ∈ wsX10, w ∈ wsX1_takeOut := by decide +kernel
  refine g_aload_n S dX1_takeOut_0 rfl 0 rfl ?_
  refine g_iload_n S dX1_takeOut_1 rfl 1 rfl ?_
  refine g_callV S xK (As := [.int (iI q)]) (st := []) (stk' := []) (Wp' := CW E ad sp se al ta n pg) (r := (RX1, TX1, 9)) (m_X1_needPage l E hj sp se al ta n pg q (by omega) hpg) (cwV 1 S.2.2.2.2 gX1_takeOut_X1_needPage rfl rfl rfl (by decide +kernel) ⟨Nat.le_of_ble_eq_true rfl, Nat.le_of_ble_eq_true rfl⟩) rfl rfl rfl rfl (Nat.le_of_ble_eq_true rfl) ⟨Nat.le_of_ble_eq_true rfl, Nat.le_of_ble_eq_true rfl⟩ (fun _ q => q.elim) (fun _ h => cw_x h) (fun _ h => h) (fun _ _ _ h _ _ => h) dX1_takeOut_2 ?_
  refine g_aload_n S dX1_takeOut_5 rfl 0 rfl ?_
  refine g_get S xK (ref := "BookIndex") hin1 8 (by decide) (show vwCl[1]? = some (RX1, TX1, 9) from rfl) kf40 (fun _ h9 => h9) (fun _ h => cw_x h) rfl dX1_takeOut_6 ?_
  refine g_iconst S dX1_takeOut_9 ?_
  refine g_icmp_gt S (tgt := 23) dX1_takeOut_10 (by decide) (by omega) (fun c10 => ?_) (fun c10 => ?_)
  · skip
    refine g_aload_n S dX1_takeOut_23 rfl 0 rfl ?_
    refine g_iload_n S dX1_takeOut_24 rfl 1 rfl ?_
    refine g_callV S xK (As := [.int (iI q)]) (st := []) (stk' := [.int (iI (smI (fun i => pI (cov (sp i) q)) n.toNat))]) (Wp' := CW E ad sp se al ta n pg) (r := (RX1, TX1, 9)) (m_X1_countHeadingsOn l E hj sp se al ta n pg q (by omega) hn hpg hsp) (cwV 1 S.2.2.2.2 gX1_takeOut_X1_countHeadingsOn rfl rfl rfl (by decide +kernel) ⟨Nat.le_of_ble_eq_true rfl, Nat.le_of_ble_eq_true rfl⟩) rfl rfl rfl rfl (Nat.le_of_ble_eq_true rfl) ⟨Nat.le_of_ble_eq_true rfl, Nat.le_of_ble_eq_true rfl⟩ (fun _ q => q.elim) (fun _ h => cw_x h) (fun _ h => h) (fun _ _ _ h _ _ => h) dX1_takeOut_25 ?_
    refine g_istore_n S (lv' := [(2, .int (iI (smI (fun i => pI (cov (sp i) q)) n.toNat))), (0, .ref (ad 0)), (1, .int (iI q))]) dX1_takeOut_28 rfl (Nat.le_of_ble_eq_true rfl) rfl ?_
    refine g_iconst S dX1_takeOut_29 ?_
    refine g_istore_n S (lv' := [(3, .int (iI 0)), (2, .int (iI (smI (fun i => pI (cov (sp i) q)) n.toNat))), (0, .ref (ad 0)), (1, .int (iI q))]) dX1_takeOut_30 rfl (Nat.le_of_ble_eq_true rfl) rfl ?_
    have L31 : ∀ (nf : Nat) (o : Int) (hs : Int → SpT), (0 ≤ o ∧ o ≤ n) → (∀ i : Int, 0 ≤ i → i < o → (fun i g => VL g (pg - 1) ∧ g.1 ≤ 8 ∧ ∀ r, cov g r ↔ cov (sp i) (if r < q then r else r + 1)) i (hs i)) → (∀ i : Int, o ≤ i → i < 24 → hs i = sp i) → (n - o < (nf : Int)) → G xp l xe ({ frames := 4, cells := 0, slots := 0, locals := 85 }) xs xm xa xb xh xc 5 (AX ad) 0 0 (MQ xb (QW (some (.int (iI (CHN sp n q)))) (CQ E ad se al n (pg - 1) (fun i g => (i < n → VL g (pg - 1) ∧ g.1 ≤ 8 ∧ ∀ r, cov g r ↔ cov (sp i) (if r < q then r else r + 1)) ∧ (n ≤ i → g = sp i))) (AX ad)) xa xs 0 0 (AX ad)) 31 [(0, .ref (ad 0)), (1, .int (iI q)), (2, .int (iI (smI (fun i => pI (cov (sp i) q)) n.toNat))), (3, .int (iI o))] [] (CW E ad hs se al ta n pg) := by
      intro nf
      induction nf with
      | zero =>
        intro o hs ho hlo hhi hmf
        exfalso
        omega
      | succ nf ihL31 =>
        intro o hs ho hlo hhi hmf
        refine g_iload_n S dX1_takeOut_31 rfl 3 rfl ?_
        refine g_aload_n S dX1_takeOut_32 rfl 0 rfl ?_
        refine g_get S xK (ref := "BookIndex") hin1 7 (by decide) (show vwCl[1]? = some (RX1, TX1, 9) from rfl) kf36 (fun _ h9 => h9) (fun _ h => cw_x h) rfl dX1_takeOut_33 ?_
        refine g_icmp_ge S (tgt := 71) dX1_takeOut_36 (by decide) (by omega) (fun c36 => ?_) (fun c36 => ?_)
        · skip
          refine g_aload_n S dX1_takeOut_71 rfl 0 rfl ?_
          refine g_dup S dX1_takeOut_72 rfl ?_
          refine g_get S xK (ref := "BookIndex") hin1 8 (by decide) (show vwCl[1]? = some (RX1, TX1, 9) from rfl) kf40 (fun _ h9 => h9) (fun _ h => cw_x h) rfl dX1_takeOut_73 ?_
          refine g_iconst S dX1_takeOut_76 ?_
          refine g_isub S dX1_takeOut_77 ?_
          refine g_put S xK (Wp' := CW E ad hs se al ta n (pg - 1)) (ref := "BookIndex") (ty := .int) hin1 tyX1 tyX1_ok nmX1 8 (by decide) (show vwCl[1]? = some (RX1, TX1, 9) from rfl) kf40 (fun _ h9 => h9) rfl (by decide +kernel) rfl rfl (fun _ h => cw_x h) (Nat.le_of_ble_eq_true rfl) (ax_in (by omega)) (fun _ _ h hv _ oq => cw_sX hj h hv oq) dX1_takeOut_78 ?_
          refine g_iload_n S dX1_takeOut_81 rfl 2 rfl ?_
          exact g_iret S xr xlk dX1_takeOut_82 (fun _ h => ⟨_, _, fun i h0 h1 => ⟨fun z => hlo i h0 (by omega), fun z => hhi i (by omega) h1⟩, h⟩)
        · skip
          have ho9 := hhi o (by omega) (by omega)
          have vo := hsp o (by omega) (by omega)
          rw [← ho9] at vo
          have hU := wpo_vl vo.1 vo.2 (p := q) (by omega) (hs 25).2.1 (hs 25).2.2
          have hB := brg_same hU.1 (hs o).2.1 (hs o).2.2
          have hnew : VL (brg (wpo (hs o) q (0, (hs 25).2.1, (hs 25).2.2) (hs o).1.toNat) 0 (0, (hs o).2.1, (hs o).2.2) (wpo (hs o) q (0, (hs 25).2.1, (hs 25).2.2) (hs o).1.toNat).1.toNat) (pg - 1) ∧ (brg (wpo (hs o) q (0, (hs 25).2.1, (hs 25).2.2) (hs o).1.toNat) 0 (0, (hs o).2.1, (hs o).2.2) (wpo (hs o) q (0, (hs 25).2.1, (hs 25).2.2) (hs o).1.toNat).1.toNat).1 ≤ 8 ∧ ∀ r, cov (brg (wpo (hs o) q (0, (hs 25).2.1, (hs 25).2.2) (hs o).1.toNat) 0 (0, (hs o).2.1, (hs o).2.2) (wpo (hs o) q (0, (hs 25).2.1, (hs 25).2.2) (hs o).1.toNat).1.toNat) r ↔ cov (sp o) (if r < q then r else r + 1) := ⟨hB.1, by have e := (vl_ns hB.1 (by omega)).trans ((congrArg Prod.fst (spS_c (fun r _ _ => hB.2 r))).trans (vl_ns hU.1 (by omega)).symm); have z := hU.2.1; omega, fun r => by rw [← ho9]; exact (hB.2 r).trans (hU.2.2 r)⟩
          refine g_aload_n S dX1_takeOut_39 rfl 0 rfl ?_
          refine g_iload_n S dX1_takeOut_40 rfl 3 rfl ?_
          refine g_callV S xK (As := [.int (iI o)]) (st := []) (stk' := [.ref (ad (5 + 3 * o))]) (Wp' := CW E ad hs se al ta n pg) (r := (RX1, TX1, 9)) (m_X1_spansAt l E hj hs se al ta n pg o (by omega) hn) (cwV 1 S.2.2.2.2 gX1_takeOut_X1_spansAt rfl rfl rfl (by decide +kernel) ⟨Nat.le_of_ble_eq_true rfl, Nat.le_of_ble_eq_true rfl⟩) rfl rfl rfl rfl (Nat.le_of_ble_eq_true rfl) ⟨Nat.le_of_ble_eq_true rfl, Nat.le_of_ble_eq_true rfl⟩ (fun _ q => q.elim) (fun _ h => cw_x h) (fun _ h => h) (fun _ _ _ h _ _ => h) dX1_takeOut_41 ?_
          refine g_astore S (lv' := [(4, .ref (ad (5 + 3 * o))), (0, .ref (ad 0)), (1, .int (iI q)), (2, .int (iI (smI (fun i => pI (cov (sp i) q)) n.toNat))), (3, .int (iI o))]) dX1_takeOut_44 (Nat.le_of_ble_eq_true rfl) rfl ?_
          refine g_aload_n S dX1_takeOut_46 rfl 1 rfl ?_
          refine g_get S xK (ref := "BookIndex") hin1 5 (by decide) (show vwCl[1]? = some (RX1, TX1, 9) from rfl) kf30 (fun _ h9 => h9) (fun _ h => cw_x h) rfl dX1_takeOut_47 ?_
          refine g_aload S dX1_takeOut_50 0 rfl ?_
          refine g_iload_n S dX1_takeOut_52 rfl 2 rfl ?_
          refine g_callV S xK (As := [.ref (ad (5 + 3 * o)), .int (iI q)]) (st := []) (stk' := []) (Wp' := CW E ad (upI hs 25 (wpo (hs o) q (0, (hs 25).2.1, (hs 25).2.2) (hs o).1.toNat)) se al ta n pg) (r := (RX0, TX0, 3)) (m_X0_becomeWithoutPageOfBook l E hj hs se al ta n pg 25 (by omega) (hs 25) (rfl) o (by omega) (hs o) (rfl) (by omega) q (vl_wb (by omega) vo.1) (by omega)) (cwV 2 S.2.2.2.2 gX1_takeOut_X0_becomeWithoutPageOfBook rfl rfl rfl (by decide +kernel) ⟨Nat.le_of_ble_eq_true rfl, Nat.le_of_ble_eq_true rfl⟩) rfl rfl rfl rfl (Nat.le_of_ble_eq_true rfl) ⟨Nat.le_of_ble_eq_true rfl, Nat.le_of_ble_eq_true rfl⟩ (fun _ q => q) (fun _ h => cw_o (i := 25) h (by omega) (rfl)) (fun _ h => h) (fun _ _ _ h _ _ => h) dX1_takeOut_53 ?_
          refine g_aload S dX1_takeOut_56 0 rfl ?_
          refine g_aload_n S dX1_takeOut_58 rfl 1 rfl ?_
          refine g_get S xK (ref := "BookIndex") hin1 5 (by decide) (show vwCl[1]? = some (RX1, TX1, 9) from rfl) kf30 (fun _ h9 => h9) (fun _ h => cw_x h) rfl dX1_takeOut_59 ?_
          refine g_callV S xK (As := [.ref (ad (5 + 3 * 25))]) (st := []) (stk' := []) (Wp' := CW E ad (upI (upI hs 25 (wpo (hs o) q (0, (hs 25).2.1, (hs 25).2.2) (hs o).1.toNat)) o (brg (wpo (hs o) q (0, (hs 25).2.1, (hs 25).2.2) (hs o).1.toNat) 0 (0, (hs o).2.1, (hs o).2.2) (wpo (hs o) q (0, (hs 25).2.1, (hs 25).2.2) (hs o).1.toNat).1.toNat)) se al ta n pg) (r := (RX0, TX0, 3)) (m_X0_becomeSame l E hj (upI hs 25 (wpo (hs o) q (0, (hs 25).2.1, (hs 25).2.2) (hs o).1.toNat)) se al ta n pg o (by omega) (hs o) ((upI_n _ _ (by omega)).trans (rfl)) 25 (by omega) (wpo (hs o) q (0, (hs 25).2.1, (hs 25).2.2) (hs o).1.toNat) (upI_s _ _ _) (by omega)  (vl_wb (pg := pg - 1) (by omega) hU.1)) (cwV 1 S.2.2.2.2 gX1_takeOut_X0_becomeSame rfl rfl rfl (by decide +kernel) ⟨Nat.le_of_ble_eq_true rfl, Nat.le_of_ble_eq_true rfl⟩) rfl rfl rfl rfl (Nat.le_of_ble_eq_true rfl) ⟨Nat.le_of_ble_eq_true rfl, Nat.le_of_ble_eq_true rfl⟩ (fun _ q => q) (fun _ h => cw_o (i := o) h (by omega) ((upI_n _ _ (by omega)).trans (rfl))) (fun _ h => h) (fun _ _ _ h _ _ => h) dX1_takeOut_62 ?_
          refine g_iinc S (lv' := [(3, .int (iI (o + 1))), (4, .ref (ad (5 + 3 * o))), (0, .ref (ad 0)), (1, .int (iI q)), (2, .int (iI (smI (fun i => pI (cov (sp i) q)) n.toNat)))]) dX1_takeOut_65 4 rfl (Nat.le_of_ble_eq_true rfl) rfl ?_
          refine g_goto S (tgt := 31) dX1_takeOut_68 (by decide) ?_
          refine g_lv [2, 3, 4, 0] rfl ?_
          exact ihL31 (o + 1) (upI (upI hs 25 (wpo (hs o) q (0, (hs 25).2.1, (hs 25).2.2) (hs o).1.toNat)) o (brg (wpo (hs o) q (0, (hs 25).2.1, (hs 25).2.2) (hs o).1.toNat) 0 (0, (hs o).2.1, (hs o).2.2) (wpo (hs o) q (0, (hs 25).2.1, (hs 25).2.2) (hs o).1.toNat).1.toNat)) (by omega) (fun i h0 h1 => by rw [upI_if]; by_cases e : i = o; (· rw [if_pos e, e]; exact hnew); (· rw [if_neg e, upI_n _ _ (by omega)]; exact hlo i h0 (by omega))) (fun i h0 h1 => by rw [upI_if, if_neg (by omega), upI_n _ _ (by omega)]; exact hhi i (by omega) h1) (by omega)
    refine g_lv [2, 3, 1, 0] rfl ?_
    exact L31 ((n - 0) + 1).toNat 0 sp (by omega) (fun i h0 h1 => by omega) (fun i _ _ => rfl) (by omega)
  · skip
    exact absurd c10 (by omega)
set_option maxHeartbeats 4000000 in
set_option maxRecDepth 100000 in
theorem m_X1_takeOutX (l : Launch) (hlt : l.stackTraces = false) (E : EN) (bs : Nat) {ad : Int → Nat} (hj : INJ ad) (sp : Int → SpT) (se : Int → Int) (al : Int → Nat) (ta : Int → Int) (n pg : Int) (q : Int) (hpg : 1 ≤ pg ∧ pg ≤ 300) (hq : q < 1 ∨ pg < q) (hr : -2147483648 ≤ q ∧ q ≤ 2147483647) : vx_Met l yX1_takeOut wsX1_takeOut ({ frames := 7, cells := 1, slots := 6, locals := 103 }) (CX E bs [.ref (ad 0), .int (iI q)] (CW E ad sp se al ta n pg)) QF (XW "java/lang/IllegalArgumentException" (CW E ad sp se al ta n pg) (fun _ => False)) 1 6 (fun _ => False) := by
  refine g_metX (cc := cX1_takeOut) (maxL := 5) (ret := (some .int)) (lv := [(0, .ref (ad 0)), (1, .int (iI q))]) (by decide) rfl (Nat.le_of_ble_eq_true rfl) rfl ?_
  intro xp xe xs xm xa xb xh xc S xK xX xlk xno
  refine g_aload_n S dX1_takeOut_0 rfl 0 rfl ?_
  refine g_iload_n S dX1_takeOut_1 rfl 1 rfl ?_
  exact g_callVX S xK xlk xno xX (As := [.int (iI q)]) (st := []) (r := (RX1, TX1, 9)) (m_X1_needPageX l hlt E bs hj sp se al ta n pg q (by omega) (by omega) hpg) (cwV 1 S.2.2.2.2 gX1_takeOut_X1_needPage rfl rfl rfl (by decide +kernel) ⟨Nat.le_of_ble_eq_true rfl, Nat.le_of_ble_eq_true rfl⟩) rfl rfl rfl (Nat.le_of_ble_eq_true rfl) ⟨Nat.le_of_ble_eq_true rfl, Nat.le_of_ble_eq_true rfl, Nat.le_of_ble_eq_true rfl, Nat.le_of_ble_eq_true rfl⟩ (fun _ q => q.elim) (fun _ q => q.elim) (fun _ h => cw_x h) (fun _ h => h) (fun _ _ _ h _ _ => h) dX1_takeOut_2
set_option maxHeartbeats 4000000 in
set_option maxRecDepth 100000 in
theorem m_X1_takeOutY (l : Launch) (hlt : l.stackTraces = false) (E : EN) (bs : Nat) {ad : Int → Nat} (hj : INJ ad) (sp : Int → SpT) (se : Int → Int) (al : Int → Nat) (ta : Int → Int) (n pg : Int) (q : Int) (hpg : 1 ≤ pg ∧ pg ≤ 300) (hq : q = 1 ∧ pg = 1) : vx_Met l yX1_takeOut wsX1_takeOut ({ frames := 6, cells := 1, slots := 6, locals := 82 }) (CX E bs [.ref (ad 0), .int (iI q)] (CW E ad sp se al ta n pg)) QF (XW "java/lang/IllegalStateException" (CW E ad sp se al ta n pg) (fun _ => False)) 1 6 (fun _ => False) := by
  refine g_metX (cc := cX1_takeOut) (maxL := 5) (ret := (some .int)) (lv := [(0, .ref (ad 0)), (1, .int (iI q))]) (by decide) rfl (Nat.le_of_ble_eq_true rfl) rfl ?_
  intro xp xe xs xm xa xb xh xc S xK xX xlk xno
  have kf40 := S.2.2.2.2 (.fieldLink RX1 40 "BookIndex" "pageCount" "I") (by decide +kernel)
  have kk43 := S.2.2.2.2 (.classLink RX1 43 "java/lang/IllegalStateException") (by decide +kernel)
  have ki43 := S.2.2.2.2 (.initialized "java/lang/IllegalStateException") (by decide +kernel)
  have kg47 : ∀ w ∈ (vx_atS RX1 47 "java/lang/IllegalStateException" nm3).filter goodWord, w.before xa xs = true := fun w h => S.2.2.2.2 w (by first | exact List.mem_cons_of_mem _ (List.mem_append_right _ h) | exact List.mem_cons_of_mem _ (List.mem_append_left _ (List.mem_append_right _ h)) | exact List.mem_cons_of_mem _ (List.mem_append_left _ (List.mem_append_left _ (List.mem_append_right _ h))))
  have hin1 : ∀ w ∈ wsX10, w ∈ wsX1_takeOut := by decide +kernel
  refine g_aload_n S dX1_takeOut_0 rfl 0 rfl ?_
  refine g_iload_n S dX1_takeOut_1 rfl 1 rfl ?_
  refine g_callV S xK (As := [.int (iI q)]) (st := []) (stk' := []) (Wp' := CW E ad sp se al ta n pg) (r := (RX1, TX1, 9)) (m_X1_needPage l E hj sp se al ta n pg q (by omega) hpg) (cwV 1 S.2.2.2.2 gX1_takeOut_X1_needPage rfl rfl rfl (by decide +kernel) ⟨Nat.le_of_ble_eq_true rfl, Nat.le_of_ble_eq_true rfl⟩) rfl rfl rfl rfl (Nat.le_of_ble_eq_true rfl) ⟨Nat.le_of_ble_eq_true rfl, Nat.le_of_ble_eq_true rfl⟩ (fun _ q => q.elim) (fun _ h => cw_x h) (fun _ h => h) (fun _ _ _ h _ _ => h) dX1_takeOut_2 ?_
  refine g_aload_n S dX1_takeOut_5 rfl 0 rfl ?_
  refine g_get S xK (ref := "BookIndex") hin1 8 (by decide) (show vwCl[1]? = some (RX1, TX1, 9) from rfl) kf40 (fun _ h9 => h9) (fun _ h => cw_x h) rfl dX1_takeOut_6 ?_
  refine g_iconst S dX1_takeOut_9 ?_
  refine g_icmp_gt S (tgt := 23) dX1_takeOut_10 (by decide) (by omega) (fun c10 => ?_) (fun c10 => ?_)
  · skip
    exact absurd c10 (by omega)
  · skip
    exact g_throw S hlt xlk xno xX (cls := "java/lang/IllegalStateException") (text := "the book has one page") rfl (by decide) (by decide) (by decide) kk43 ki43 kg47 bad47 ot47 (fun _ q => q.elim) ⟨Nat.le_of_ble_eq_true rfl, Nat.le_of_ble_eq_true rfl, Nat.le_of_ble_eq_true rfl, Nat.le_of_ble_eq_true rfl, Nat.le_of_ble_eq_true rfl, Nat.le_of_ble_eq_true rfl⟩ dX1_takeOut_13 dX1_takeOut_16 dX1_takeOut_17 dX1_takeOut_19 dX1_takeOut_22 (fun _ _ h h1 h2 => cw_grow h h1 h2)
