/-! THE LAW: its calls on the class -/
set_option maxHeartbeats 4000000 in
set_option maxRecDepth 100000 in
theorem m_L_spansOf (l : Launch) (hlt : l.stackTraces = false) (E : EN) (bs : Nat) {ad : Int → Nat} (hj : INJ ad) (sp : Int → SpT) (se : Int → Int) (al : Int → Nat) (ta : Int → Int) (n pg : Int) (u : Int) (ao : Nat) (fo : Int → Int64) (hh : 0 ≤ u ∧ u < n) (hn : 0 ≤ n ∧ n ≤ 24) (hAo : ∀ q, AO ad ao q → bs ≤ q) : Met l yL_spansOf wsL_spansOf ({ frames := 3, cells := 0, slots := 0, locals := 64 }) (CL E bs [.ref (ad 0), .int (iI u), .ref (ao)] (LO E ad ao fo (CW E ad sp se al ta n pg))) (QW (some (.int (iI 0))) (LO E ad ao (upI fo 0 ((iI ((sp u).1) : Int32).toInt64)) (CW E ad sp se al ta n pg)) (AO ad ao)) 0 0 (AO ad ao) := by
  refine g_metW (cc := cL_spansOf) (maxL := 4) (ret := (some .int)) (hh := [(0, 9, 12, 19)]) (lv := [(0, .ref (ad 0)), (1, .int (iI u)), (2, .ref (ao))]) (by decide) rfl (Nat.le_of_ble_eq_true rfl) rfl ?_
  intro xp xe xs xm xa xb xh xc S xK xX xN xt xr xlk
  refine g_aload_n S dL_spansOf_0 rfl 2 rfl ?_
  refine g_iconst S dL_spansOf_1 ?_
  refine g_aload_n S dL_spansOf_2 rfl 0 rfl ?_
  refine g_iload_n S dL_spansOf_3 rfl 1 rfl ?_
  refine g_callV S xK (As := [.int (iI u)]) (st := [.int (iI 0), .ref (ao)]) (stk' := [.int (iI ((sp u).1)), .int (iI 0), .ref (ao)]) (Wp' := LO E ad ao fo (CW E ad sp se al ta n pg)) (r := (RX1, TX1, 9)) (m_X1_spansOf l E hj sp se al ta n pg u hh hn) (cwV 1 S.2.2.2.2 gL_spansOf_X1_spansOf rfl rfl rfl (by decide +kernel) ⟨Nat.le_of_ble_eq_true rfl, Nat.le_of_ble_eq_true rfl⟩) rfl rfl rfl rfl (Nat.le_of_ble_eq_true rfl) ⟨Nat.le_of_ble_eq_true rfl, Nat.le_of_ble_eq_true rfl⟩ (fun _ q => q.elim) (fun _ h => cw_x h.2.1) (fun _ h => h.2.1) (fun _ _ h h2 _ hq => lo_call (fun _ q => q.elim) h h2 hq) dL_spansOf_4 ?_
  refine g_i2l S dL_spansOf_7 ?_
  refine g_last S xK (Wp' := LO E ad ao (upI fo 0 (((iI ((sp u).1)) : Int32).toInt64)) (CW E ad sp se al ta n pg)) (n := 1) (fun _ h => h.2.2) (by decide) (by decide) (Or.inr rfl) (fun _ _ h hv _ oq => lo_put (fun q h => cw_kept h q) h hv oq) dL_spansOf_8 ?_
  refine g_goto S (tgt := 15) dL_spansOf_9 (by decide) ?_
  refine g_iconst S dL_spansOf_15 ?_
  exact g_iret S xr xlk dL_spansOf_16 (fun _ h => h)
set_option maxHeartbeats 4000000 in
set_option maxRecDepth 100000 in
theorem m_L_spansOfX (l : Launch) (hlt : l.stackTraces = false) (E : EN) (bs : Nat) {ad : Int → Nat} (hj : INJ ad) (sp : Int → SpT) (se : Int → Int) (al : Int → Nat) (ta : Int → Int) (n pg : Int) (u : Int) (ao : Nat) (fo : Int → Int64) (hh : u < 0 ∨ n ≤ u) (hr : -2147483648 ≤ u ∧ u ≤ 2147483647) (hn : 0 ≤ n ∧ n ≤ 24) (hAo : ∀ q, AO ad ao q → bs ≤ q) : Met l yL_spansOf wsL_spansOf ({ frames := 8, cells := 1, slots := 6, locals := 124 }) (CL E bs [.ref (ad 0), .int (iI u), .ref (ao)] (LO E ad ao fo (CW E ad sp se al ta n pg))) (QW (some (.int (iI 1))) (LO E ad ao fo (CW E ad sp se al ta n pg)) (AO ad ao)) 1 6 (AO ad ao) := by
  refine g_metW (cc := cL_spansOf) (maxL := 4) (ret := (some .int)) (hh := [(0, 9, 12, 19)]) (lv := [(0, .ref (ad 0)), (1, .int (iI u)), (2, .ref (ao))]) (by decide) rfl (Nat.le_of_ble_eq_true rfl) rfl ?_
  intro xp xe xs xm xa xb xh xc S xK xX xN xt xr xlk
  have kx19 := S.2.2.2.2 (.classLink RL 19 "java/lang/IndexOutOfBoundsException") (by decide +kernel)
  refine g_aload_n S dL_spansOf_0 rfl 2 rfl ?_
  refine g_iconst S dL_spansOf_1 ?_
  refine g_aload_n S dL_spansOf_2 rfl 0 rfl ?_
  refine g_iload_n S dL_spansOf_3 rfl 1 rfl ?_
  refine g_callVC S xK xX (Wp' := LO E ad ao fo (CW E ad sp se al ta n pg)) (As := [.int (iI u)]) (st := [.int (iI 0), .ref (ao)]) (r := (RX1, TX1, 9)) (m_X1_spansOfX l hlt E bs hj sp se al ta n pg u hh hr hn) (cwV 1 S.2.2.2.2 gL_spansOf_X1_spansOf rfl rfl rfl (by decide +kernel) ⟨Nat.le_of_ble_eq_true rfl, Nat.le_of_ble_eq_true rfl⟩) rfl rfl rfl (Nat.le_of_ble_eq_true rfl) ⟨Nat.le_of_ble_eq_true rfl, Nat.le_of_ble_eq_true rfl⟩ (fun _ q => q.elim) hAo (fun _ h => cw_x h.2.1) (fun _ h => h.2.1) (fun _ _ h h2 _ hq => lo_call (fun _ q => q.elim) h h2 hq) dL_spansOf_4 [] ⟨0, 9, 12, 19⟩ [] xt (fun z hz => by cases hz) rfl (by decide) kx19 (by decide) (fun xq => ?_)
  refine g_astore_n S (lv' := [(3, .ref (xq)), (0, .ref (ad 0)), (1, .int (iI u)), (2, .ref (ao))]) dL_spansOf_12 rfl (Nat.le_of_ble_eq_true rfl) rfl ?_
  refine g_iconst S dL_spansOf_13 ?_
  exact g_iret S xr xlk dL_spansOf_14 (fun _ h => h)
set_option maxHeartbeats 4000000 in
set_option maxRecDepth 100000 in
theorem m_L_pagesOf (l : Launch) (hlt : l.stackTraces = false) (E : EN) (bs : Nat) {ad : Int → Nat} (hj : INJ ad) (sp : Int → SpT) (se : Int → Int) (al : Int → Nat) (ta : Int → Int) (n pg : Int) (u : Int) (ao : Nat) (fo : Int → Int64) (hh : 0 ≤ u ∧ u < n) (hn : 0 ≤ n ∧ n ≤ 24) (hpg : 1 ≤ pg ∧ pg ≤ 300) (hsp : SPV sp n pg) (hAo : ∀ q, AO ad ao q → bs ≤ q) : Met l yL_pagesOf wsL_pagesOf ({ frames := 3, cells := 0, slots := 0, locals := 64 }) (CL E bs [.ref (ad 0), .int (iI u), .ref (ao)] (LO E ad ao fo (CW E ad sp se al ta n pg))) (QW (some (.int (iI 0))) (LO E ad ao (upI fo 0 ((iI (PGS (sp u)) : Int32).toInt64)) (CW E ad sp se al ta n pg)) (AO ad ao)) 0 0 (AO ad ao) := by
  refine g_metW (cc := cL_pagesOf) (maxL := 4) (ret := (some .int)) (hh := [(0, 9, 12, 19)]) (lv := [(0, .ref (ad 0)), (1, .int (iI u)), (2, .ref (ao))]) (by decide) rfl (Nat.le_of_ble_eq_true rfl) rfl ?_
  intro xp xe xs xm xa xb xh xc S xK xX xN xt xr xlk
  refine g_aload_n S dL_pagesOf_0 rfl 2 rfl ?_
  refine g_iconst S dL_pagesOf_1 ?_
  refine g_aload_n S dL_pagesOf_2 rfl 0 rfl ?_
  refine g_iload_n S dL_pagesOf_3 rfl 1 rfl ?_
  refine g_callV S xK (As := [.int (iI u)]) (st := [.int (iI 0), .ref (ao)]) (stk' := [.int (iI (PGS (sp u))), .int (iI 0), .ref (ao)]) (Wp' := LO E ad ao fo (CW E ad sp se al ta n pg)) (r := (RX1, TX1, 9)) (m_X1_pagesOf l E hj sp se al ta n pg u hh hn hpg hsp) (cwV 1 S.2.2.2.2 gL_pagesOf_X1_pagesOf rfl rfl rfl (by decide +kernel) ⟨Nat.le_of_ble_eq_true rfl, Nat.le_of_ble_eq_true rfl⟩) rfl rfl rfl rfl (Nat.le_of_ble_eq_true rfl) ⟨Nat.le_of_ble_eq_true rfl, Nat.le_of_ble_eq_true rfl⟩ (fun _ q => q.elim) (fun _ h => cw_x h.2.1) (fun _ h => h.2.1) (fun _ _ h h2 _ hq => lo_call (fun _ q => q.elim) h h2 hq) dL_pagesOf_4 ?_
  refine g_i2l S dL_pagesOf_7 ?_
  refine g_last S xK (Wp' := LO E ad ao (upI fo 0 (((iI (PGS (sp u))) : Int32).toInt64)) (CW E ad sp se al ta n pg)) (n := 1) (fun _ h => h.2.2) (by decide) (by decide) (Or.inr rfl) (fun _ _ h hv _ oq => lo_put (fun q h => cw_kept h q) h hv oq) dL_pagesOf_8 ?_
  refine g_goto S (tgt := 15) dL_pagesOf_9 (by decide) ?_
  refine g_iconst S dL_pagesOf_15 ?_
  exact g_iret S xr xlk dL_pagesOf_16 (fun _ h => h)
set_option maxHeartbeats 4000000 in
set_option maxRecDepth 100000 in
theorem m_L_pagesOfX (l : Launch) (hlt : l.stackTraces = false) (E : EN) (bs : Nat) {ad : Int → Nat} (hj : INJ ad) (sp : Int → SpT) (se : Int → Int) (al : Int → Nat) (ta : Int → Int) (n pg : Int) (u : Int) (ao : Nat) (fo : Int → Int64) (hh : u < 0 ∨ n ≤ u) (hr : -2147483648 ≤ u ∧ u ≤ 2147483647) (hn : 0 ≤ n ∧ n ≤ 24) (hAo : ∀ q, AO ad ao q → bs ≤ q) : Met l yL_pagesOf wsL_pagesOf ({ frames := 8, cells := 1, slots := 6, locals := 124 }) (CL E bs [.ref (ad 0), .int (iI u), .ref (ao)] (LO E ad ao fo (CW E ad sp se al ta n pg))) (QW (some (.int (iI 1))) (LO E ad ao fo (CW E ad sp se al ta n pg)) (AO ad ao)) 1 6 (AO ad ao) := by
  refine g_metW (cc := cL_pagesOf) (maxL := 4) (ret := (some .int)) (hh := [(0, 9, 12, 19)]) (lv := [(0, .ref (ad 0)), (1, .int (iI u)), (2, .ref (ao))]) (by decide) rfl (Nat.le_of_ble_eq_true rfl) rfl ?_
  intro xp xe xs xm xa xb xh xc S xK xX xN xt xr xlk
  have kx19 := S.2.2.2.2 (.classLink RL 19 "java/lang/IndexOutOfBoundsException") (by decide +kernel)
  refine g_aload_n S dL_pagesOf_0 rfl 2 rfl ?_
  refine g_iconst S dL_pagesOf_1 ?_
  refine g_aload_n S dL_pagesOf_2 rfl 0 rfl ?_
  refine g_iload_n S dL_pagesOf_3 rfl 1 rfl ?_
  refine g_callVC S xK xX (Wp' := LO E ad ao fo (CW E ad sp se al ta n pg)) (As := [.int (iI u)]) (st := [.int (iI 0), .ref (ao)]) (r := (RX1, TX1, 9)) (m_X1_pagesOfX l hlt E bs hj sp se al ta n pg u hh hr hn) (cwV 1 S.2.2.2.2 gL_pagesOf_X1_pagesOf rfl rfl rfl (by decide +kernel) ⟨Nat.le_of_ble_eq_true rfl, Nat.le_of_ble_eq_true rfl⟩) rfl rfl rfl (Nat.le_of_ble_eq_true rfl) ⟨Nat.le_of_ble_eq_true rfl, Nat.le_of_ble_eq_true rfl⟩ (fun _ q => q.elim) hAo (fun _ h => cw_x h.2.1) (fun _ h => h.2.1) (fun _ _ h h2 _ hq => lo_call (fun _ q => q.elim) h h2 hq) dL_pagesOf_4 [] ⟨0, 9, 12, 19⟩ [] xt (fun z hz => by cases hz) rfl (by decide) kx19 (by decide) (fun xq => ?_)
  refine g_astore_n S (lv' := [(3, .ref (xq)), (0, .ref (ad 0)), (1, .int (iI u)), (2, .ref (ao))]) dL_pagesOf_12 rfl (Nat.le_of_ble_eq_true rfl) rfl ?_
  refine g_iconst S dL_pagesOf_13 ?_
  exact g_iret S xr xlk dL_pagesOf_14 (fun _ h => h)
set_option maxHeartbeats 4000000 in
set_option maxRecDepth 100000 in
theorem m_L_seeOf (l : Launch) (hlt : l.stackTraces = false) (E : EN) (bs : Nat) {ad : Int → Nat} (hj : INJ ad) (sp : Int → SpT) (se : Int → Int) (al : Int → Nat) (ta : Int → Int) (n pg : Int) (u : Int) (ao : Nat) (fo : Int → Int64) (hh : 0 ≤ u ∧ u < n) (hn : 0 ≤ n ∧ n ≤ 24) (hAo : ∀ q, AO ad ao q → bs ≤ q) : Met l yL_seeOf wsL_seeOf ({ frames := 3, cells := 0, slots := 0, locals := 63 }) (CL E bs [.ref (ad 0), .int (iI u), .ref (ao)] (LO E ad ao fo (CW E ad sp se al ta n pg))) (QW (some (.int (iI 0))) (LO E ad ao (upI fo 0 ((iI (se u) : Int32).toInt64)) (CW E ad sp se al ta n pg)) (AO ad ao)) 0 0 (AO ad ao) := by
  refine g_metW (cc := cL_seeOf) (maxL := 4) (ret := (some .int)) (hh := [(0, 9, 12, 19)]) (lv := [(0, .ref (ad 0)), (1, .int (iI u)), (2, .ref (ao))]) (by decide) rfl (Nat.le_of_ble_eq_true rfl) rfl ?_
  intro xp xe xs xm xa xb xh xc S xK xX xN xt xr xlk
  refine g_aload_n S dL_seeOf_0 rfl 2 rfl ?_
  refine g_iconst S dL_seeOf_1 ?_
  refine g_aload_n S dL_seeOf_2 rfl 0 rfl ?_
  refine g_iload_n S dL_seeOf_3 rfl 1 rfl ?_
  refine g_callV S xK (As := [.int (iI u)]) (st := [.int (iI 0), .ref (ao)]) (stk' := [.int (iI (se u)), .int (iI 0), .ref (ao)]) (Wp' := LO E ad ao fo (CW E ad sp se al ta n pg)) (r := (RX1, TX1, 9)) (m_X1_seeOf l E hj sp se al ta n pg u hh hn) (cwV 1 S.2.2.2.2 gL_seeOf_X1_seeOf rfl rfl rfl (by decide +kernel) ⟨Nat.le_of_ble_eq_true rfl, Nat.le_of_ble_eq_true rfl⟩) rfl rfl rfl rfl (Nat.le_of_ble_eq_true rfl) ⟨Nat.le_of_ble_eq_true rfl, Nat.le_of_ble_eq_true rfl⟩ (fun _ q => q.elim) (fun _ h => cw_x h.2.1) (fun _ h => h.2.1) (fun _ _ h h2 _ hq => lo_call (fun _ q => q.elim) h h2 hq) dL_seeOf_4 ?_
  refine g_i2l S dL_seeOf_7 ?_
  refine g_last S xK (Wp' := LO E ad ao (upI fo 0 (((iI (se u)) : Int32).toInt64)) (CW E ad sp se al ta n pg)) (n := 1) (fun _ h => h.2.2) (by decide) (by decide) (Or.inr rfl) (fun _ _ h hv _ oq => lo_put (fun q h => cw_kept h q) h hv oq) dL_seeOf_8 ?_
  refine g_goto S (tgt := 15) dL_seeOf_9 (by decide) ?_
  refine g_iconst S dL_seeOf_15 ?_
  exact g_iret S xr xlk dL_seeOf_16 (fun _ h => h)
set_option maxHeartbeats 4000000 in
set_option maxRecDepth 100000 in
theorem m_L_seeOfX (l : Launch) (hlt : l.stackTraces = false) (E : EN) (bs : Nat) {ad : Int → Nat} (hj : INJ ad) (sp : Int → SpT) (se : Int → Int) (al : Int → Nat) (ta : Int → Int) (n pg : Int) (u : Int) (ao : Nat) (fo : Int → Int64) (hh : u < 0 ∨ n ≤ u) (hr : -2147483648 ≤ u ∧ u ≤ 2147483647) (hn : 0 ≤ n ∧ n ≤ 24) (hAo : ∀ q, AO ad ao q → bs ≤ q) : Met l yL_seeOf wsL_seeOf ({ frames := 8, cells := 1, slots := 6, locals := 124 }) (CL E bs [.ref (ad 0), .int (iI u), .ref (ao)] (LO E ad ao fo (CW E ad sp se al ta n pg))) (QW (some (.int (iI 1))) (LO E ad ao fo (CW E ad sp se al ta n pg)) (AO ad ao)) 1 6 (AO ad ao) := by
  refine g_metW (cc := cL_seeOf) (maxL := 4) (ret := (some .int)) (hh := [(0, 9, 12, 19)]) (lv := [(0, .ref (ad 0)), (1, .int (iI u)), (2, .ref (ao))]) (by decide) rfl (Nat.le_of_ble_eq_true rfl) rfl ?_
  intro xp xe xs xm xa xb xh xc S xK xX xN xt xr xlk
  have kx19 := S.2.2.2.2 (.classLink RL 19 "java/lang/IndexOutOfBoundsException") (by decide +kernel)
  refine g_aload_n S dL_seeOf_0 rfl 2 rfl ?_
  refine g_iconst S dL_seeOf_1 ?_
  refine g_aload_n S dL_seeOf_2 rfl 0 rfl ?_
  refine g_iload_n S dL_seeOf_3 rfl 1 rfl ?_
  refine g_callVC S xK xX (Wp' := LO E ad ao fo (CW E ad sp se al ta n pg)) (As := [.int (iI u)]) (st := [.int (iI 0), .ref (ao)]) (r := (RX1, TX1, 9)) (m_X1_seeOfX l hlt E bs hj sp se al ta n pg u hh hr hn) (cwV 1 S.2.2.2.2 gL_seeOf_X1_seeOf rfl rfl rfl (by decide +kernel) ⟨Nat.le_of_ble_eq_true rfl, Nat.le_of_ble_eq_true rfl⟩) rfl rfl rfl (Nat.le_of_ble_eq_true rfl) ⟨Nat.le_of_ble_eq_true rfl, Nat.le_of_ble_eq_true rfl⟩ (fun _ q => q.elim) hAo (fun _ h => cw_x h.2.1) (fun _ h => h.2.1) (fun _ _ h h2 _ hq => lo_call (fun _ q => q.elim) h h2 hq) dL_seeOf_4 [] ⟨0, 9, 12, 19⟩ [] xt (fun z hz => by cases hz) rfl (by decide) kx19 (by decide) (fun xq => ?_)
  refine g_astore_n S (lv' := [(3, .ref (xq)), (0, .ref (ad 0)), (1, .int (iI u)), (2, .ref (ao))]) dL_seeOf_12 rfl (Nat.le_of_ble_eq_true rfl) rfl ?_
  refine g_iconst S dL_seeOf_13 ?_
  exact g_iret S xr xlk dL_seeOf_14 (fun _ h => h)
set_option maxHeartbeats 4000000 in
set_option maxRecDepth 100000 in
theorem m_L_seeAlsosOf (l : Launch) (hlt : l.stackTraces = false) (E : EN) (bs : Nat) {ad : Int → Nat} (hj : INJ ad) (sp : Int → SpT) (se : Int → Int) (al : Int → Nat) (ta : Int → Int) (n pg : Int) (u : Int) (ao : Nat) (fo : Int → Int64) (hh : 0 ≤ u ∧ u < n) (hn : 0 ≤ n ∧ n ≤ 24) (hgr : GR se al n) (hAo : ∀ q, AO ad ao q → bs ≤ q) : Met l yL_seeAlsosOf wsL_seeAlsosOf ({ frames := 3, cells := 0, slots := 0, locals := 63 }) (CL E bs [.ref (ad 0), .int (iI u), .ref (ao)] (LO E ad ao fo (CW E ad sp se al ta n pg))) (QW (some (.int (iI 0))) (LO E ad ao (upI fo 0 ((iI ((pop (al u) 24 : Nat) : Int) : Int32).toInt64)) (CW E ad sp se al ta n pg)) (AO ad ao)) 0 0 (AO ad ao) := by
  refine g_metW (cc := cL_seeAlsosOf) (maxL := 4) (ret := (some .int)) (hh := [(0, 9, 12, 19)]) (lv := [(0, .ref (ad 0)), (1, .int (iI u)), (2, .ref (ao))]) (by decide) rfl (Nat.le_of_ble_eq_true rfl) rfl ?_
  intro xp xe xs xm xa xb xh xc S xK xX xN xt xr xlk
  refine g_aload_n S dL_seeAlsosOf_0 rfl 2 rfl ?_
  refine g_iconst S dL_seeAlsosOf_1 ?_
  refine g_aload_n S dL_seeAlsosOf_2 rfl 0 rfl ?_
  refine g_iload_n S dL_seeAlsosOf_3 rfl 1 rfl ?_
  refine g_callV S xK (As := [.int (iI u)]) (st := [.int (iI 0), .ref (ao)]) (stk' := [.int (iI ((pop (al u) 24 : Nat) : Int)), .int (iI 0), .ref (ao)]) (Wp' := LO E ad ao fo (CW E ad sp se al ta n pg)) (r := (RX1, TX1, 9)) (m_X1_seeAlsosOf l E hj sp se al ta n pg u hh hn hgr) (cwV 1 S.2.2.2.2 gL_seeAlsosOf_X1_seeAlsosOf rfl rfl rfl (by decide +kernel) ⟨Nat.le_of_ble_eq_true rfl, Nat.le_of_ble_eq_true rfl⟩) rfl rfl rfl rfl (Nat.le_of_ble_eq_true rfl) ⟨Nat.le_of_ble_eq_true rfl, Nat.le_of_ble_eq_true rfl⟩ (fun _ q => q.elim) (fun _ h => cw_x h.2.1) (fun _ h => h.2.1) (fun _ _ h h2 _ hq => lo_call (fun _ q => q.elim) h h2 hq) dL_seeAlsosOf_4 ?_
  refine g_i2l S dL_seeAlsosOf_7 ?_
  refine g_last S xK (Wp' := LO E ad ao (upI fo 0 (((iI ((pop (al u) 24 : Nat) : Int)) : Int32).toInt64)) (CW E ad sp se al ta n pg)) (n := 1) (fun _ h => h.2.2) (by decide) (by decide) (Or.inr rfl) (fun _ _ h hv _ oq => lo_put (fun q h => cw_kept h q) h hv oq) dL_seeAlsosOf_8 ?_
  refine g_goto S (tgt := 15) dL_seeAlsosOf_9 (by decide) ?_
  refine g_iconst S dL_seeAlsosOf_15 ?_
  exact g_iret S xr xlk dL_seeAlsosOf_16 (fun _ h => h)
set_option maxHeartbeats 4000000 in
set_option maxRecDepth 100000 in
theorem m_L_seeAlsosOfX (l : Launch) (hlt : l.stackTraces = false) (E : EN) (bs : Nat) {ad : Int → Nat} (hj : INJ ad) (sp : Int → SpT) (se : Int → Int) (al : Int → Nat) (ta : Int → Int) (n pg : Int) (u : Int) (ao : Nat) (fo : Int → Int64) (hh : u < 0 ∨ n ≤ u) (hr : -2147483648 ≤ u ∧ u ≤ 2147483647) (hn : 0 ≤ n ∧ n ≤ 24) (hAo : ∀ q, AO ad ao q → bs ≤ q) : Met l yL_seeAlsosOf wsL_seeAlsosOf ({ frames := 8, cells := 1, slots := 6, locals := 124 }) (CL E bs [.ref (ad 0), .int (iI u), .ref (ao)] (LO E ad ao fo (CW E ad sp se al ta n pg))) (QW (some (.int (iI 1))) (LO E ad ao fo (CW E ad sp se al ta n pg)) (AO ad ao)) 1 6 (AO ad ao) := by
  refine g_metW (cc := cL_seeAlsosOf) (maxL := 4) (ret := (some .int)) (hh := [(0, 9, 12, 19)]) (lv := [(0, .ref (ad 0)), (1, .int (iI u)), (2, .ref (ao))]) (by decide) rfl (Nat.le_of_ble_eq_true rfl) rfl ?_
  intro xp xe xs xm xa xb xh xc S xK xX xN xt xr xlk
  have kx19 := S.2.2.2.2 (.classLink RL 19 "java/lang/IndexOutOfBoundsException") (by decide +kernel)
  refine g_aload_n S dL_seeAlsosOf_0 rfl 2 rfl ?_
  refine g_iconst S dL_seeAlsosOf_1 ?_
  refine g_aload_n S dL_seeAlsosOf_2 rfl 0 rfl ?_
  refine g_iload_n S dL_seeAlsosOf_3 rfl 1 rfl ?_
  refine g_callVC S xK xX (Wp' := LO E ad ao fo (CW E ad sp se al ta n pg)) (As := [.int (iI u)]) (st := [.int (iI 0), .ref (ao)]) (r := (RX1, TX1, 9)) (m_X1_seeAlsosOfX l hlt E bs hj sp se al ta n pg u hh hr hn) (cwV 1 S.2.2.2.2 gL_seeAlsosOf_X1_seeAlsosOf rfl rfl rfl (by decide +kernel) ⟨Nat.le_of_ble_eq_true rfl, Nat.le_of_ble_eq_true rfl⟩) rfl rfl rfl (Nat.le_of_ble_eq_true rfl) ⟨Nat.le_of_ble_eq_true rfl, Nat.le_of_ble_eq_true rfl⟩ (fun _ q => q.elim) hAo (fun _ h => cw_x h.2.1) (fun _ h => h.2.1) (fun _ _ h h2 _ hq => lo_call (fun _ q => q.elim) h h2 hq) dL_seeAlsosOf_4 [] ⟨0, 9, 12, 19⟩ [] xt (fun z hz => by cases hz) rfl (by decide) kx19 (by decide) (fun xq => ?_)
  refine g_astore_n S (lv' := [(3, .ref (xq)), (0, .ref (ad 0)), (1, .int (iI u)), (2, .ref (ao))]) dL_seeAlsosOf_12 rfl (Nat.le_of_ble_eq_true rfl) rfl ?_
  refine g_iconst S dL_seeAlsosOf_13 ?_
  exact g_iret S xr xlk dL_seeAlsosOf_14 (fun _ h => h)
set_option maxHeartbeats 4000000 in
set_option maxRecDepth 100000 in
theorem m_L_leadsTo (l : Launch) (hlt : l.stackTraces = false) (E : EN) (bs : Nat) {ad : Int → Nat} (hj : INJ ad) (sp : Int → SpT) (se : Int → Int) (al : Int → Nat) (ta : Int → Int) (n pg : Int) (u : Int) (ao : Nat) (fo : Int → Int64) (hh : 0 ≤ u ∧ u < n) (hn : 0 ≤ n ∧ n ≤ 24) (hgr : GR se al n) (hAo : ∀ q, AO ad ao q → bs ≤ q) : Met l yL_leadsTo wsL_leadsTo ({ frames := 4, cells := 0, slots := 0, locals := 87 }) (CL E bs [.ref (ad 0), .int (iI u), .ref (ao)] (LO E ad ao fo (CW E ad sp se al ta n pg))) (QW (some (.int (iI 0))) (LO E ad ao (upI fo 0 ((iI (eS se n.toNat u) : Int32).toInt64)) (CW E ad sp se al ta n pg)) (AO ad ao)) 0 0 (AO ad ao) := by
  refine g_metW (cc := cL_leadsTo) (maxL := 4) (ret := (some .int)) (hh := [(0, 9, 12, 19)]) (lv := [(0, .ref (ad 0)), (1, .int (iI u)), (2, .ref (ao))]) (by decide) rfl (Nat.le_of_ble_eq_true rfl) rfl ?_
  intro xp xe xs xm xa xb xh xc S xK xX xN xt xr xlk
  refine g_aload_n S dL_leadsTo_0 rfl 2 rfl ?_
  refine g_iconst S dL_leadsTo_1 ?_
  refine g_aload_n S dL_leadsTo_2 rfl 0 rfl ?_
  refine g_iload_n S dL_leadsTo_3 rfl 1 rfl ?_
  refine g_callV S xK (As := [.int (iI u)]) (st := [.int (iI 0), .ref (ao)]) (stk' := [.int (iI (eS se n.toNat u)), .int (iI 0), .ref (ao)]) (Wp' := LO E ad ao fo (CW E ad sp se al ta n pg)) (r := (RX1, TX1, 9)) (m_X1_leadsTo l E hj sp se al ta n pg u hh hn hgr) (cwV 1 S.2.2.2.2 gL_leadsTo_X1_leadsTo rfl rfl rfl (by decide +kernel) ⟨Nat.le_of_ble_eq_true rfl, Nat.le_of_ble_eq_true rfl⟩) rfl rfl rfl rfl (Nat.le_of_ble_eq_true rfl) ⟨Nat.le_of_ble_eq_true rfl, Nat.le_of_ble_eq_true rfl⟩ (fun _ q => q.elim) (fun _ h => cw_x h.2.1) (fun _ h => h.2.1) (fun _ _ h h2 _ hq => lo_call (fun _ q => q.elim) h h2 hq) dL_leadsTo_4 ?_
  refine g_i2l S dL_leadsTo_7 ?_
  refine g_last S xK (Wp' := LO E ad ao (upI fo 0 (((iI (eS se n.toNat u)) : Int32).toInt64)) (CW E ad sp se al ta n pg)) (n := 1) (fun _ h => h.2.2) (by decide) (by decide) (Or.inr rfl) (fun _ _ h hv _ oq => lo_put (fun q h => cw_kept h q) h hv oq) dL_leadsTo_8 ?_
  refine g_goto S (tgt := 15) dL_leadsTo_9 (by decide) ?_
  refine g_iconst S dL_leadsTo_15 ?_
  exact g_iret S xr xlk dL_leadsTo_16 (fun _ h => h)
set_option maxHeartbeats 4000000 in
set_option maxRecDepth 100000 in
theorem m_L_leadsToX (l : Launch) (hlt : l.stackTraces = false) (E : EN) (bs : Nat) {ad : Int → Nat} (hj : INJ ad) (sp : Int → SpT) (se : Int → Int) (al : Int → Nat) (ta : Int → Int) (n pg : Int) (u : Int) (ao : Nat) (fo : Int → Int64) (hh : u < 0 ∨ n ≤ u) (hr : -2147483648 ≤ u ∧ u ≤ 2147483647) (hn : 0 ≤ n ∧ n ≤ 24) (hAo : ∀ q, AO ad ao q → bs ≤ q) : Met l yL_leadsTo wsL_leadsTo ({ frames := 8, cells := 1, slots := 6, locals := 124 }) (CL E bs [.ref (ad 0), .int (iI u), .ref (ao)] (LO E ad ao fo (CW E ad sp se al ta n pg))) (QW (some (.int (iI 1))) (LO E ad ao fo (CW E ad sp se al ta n pg)) (AO ad ao)) 1 6 (AO ad ao) := by
  refine g_metW (cc := cL_leadsTo) (maxL := 4) (ret := (some .int)) (hh := [(0, 9, 12, 19)]) (lv := [(0, .ref (ad 0)), (1, .int (iI u)), (2, .ref (ao))]) (by decide) rfl (Nat.le_of_ble_eq_true rfl) rfl ?_
  intro xp xe xs xm xa xb xh xc S xK xX xN xt xr xlk
  have kx19 := S.2.2.2.2 (.classLink RL 19 "java/lang/IndexOutOfBoundsException") (by decide +kernel)
  refine g_aload_n S dL_leadsTo_0 rfl 2 rfl ?_
  refine g_iconst S dL_leadsTo_1 ?_
  refine g_aload_n S dL_leadsTo_2 rfl 0 rfl ?_
  refine g_iload_n S dL_leadsTo_3 rfl 1 rfl ?_
  refine g_callVC S xK xX (Wp' := LO E ad ao fo (CW E ad sp se al ta n pg)) (As := [.int (iI u)]) (st := [.int (iI 0), .ref (ao)]) (r := (RX1, TX1, 9)) (m_X1_leadsToX l hlt E bs hj sp se al ta n pg u hh hr hn) (cwV 1 S.2.2.2.2 gL_leadsTo_X1_leadsTo rfl rfl rfl (by decide +kernel) ⟨Nat.le_of_ble_eq_true rfl, Nat.le_of_ble_eq_true rfl⟩) rfl rfl rfl (Nat.le_of_ble_eq_true rfl) ⟨Nat.le_of_ble_eq_true rfl, Nat.le_of_ble_eq_true rfl⟩ (fun _ q => q.elim) hAo (fun _ h => cw_x h.2.1) (fun _ h => h.2.1) (fun _ _ h h2 _ hq => lo_call (fun _ q => q.elim) h h2 hq) dL_leadsTo_4 [] ⟨0, 9, 12, 19⟩ [] xt (fun z hz => by cases hz) rfl (by decide) kx19 (by decide) (fun xq => ?_)
  refine g_astore_n S (lv' := [(3, .ref (xq)), (0, .ref (ad 0)), (1, .int (iI u)), (2, .ref (ao))]) dL_leadsTo_12 rfl (Nat.le_of_ble_eq_true rfl) rfl ?_
  refine g_iconst S dL_leadsTo_13 ?_
  exact g_iret S xr xlk dL_leadsTo_14 (fun _ h => h)
set_option maxHeartbeats 4000000 in
set_option maxRecDepth 100000 in
theorem m_L_reachOf (l : Launch) (hlt : l.stackTraces = false) (E : EN) (bs : Nat) {ad : Int → Nat} (hj : INJ ad) (sp : Int → SpT) (se : Int → Int) (al : Int → Nat) (ta : Int → Int) (n pg : Int) (u : Int) (ao : Nat) (fo : Int → Int64) (hh : 0 ≤ u ∧ u < n) (hn : 0 ≤ n ∧ n ≤ 24) (hgr : GR se al n) (hAo : ∀ q, AO ad ao q → bs ≤ q) : Met l yL_reachOf wsL_reachOf ({ frames := 5, cells := 0, slots := 0, locals := 109 }) (CL E bs [.ref (ad 0), .int (iI u), .ref (ao)] (LO E ad ao fo (CW E ad sp se al ta n pg))) (QW (some (.int (iI 0))) (LO E ad ao (upI fo 0 ((iI (RCH se al n u) : Int32).toInt64)) (CW E ad sp se al ta n pg)) (AO ad ao)) 0 0 (AO ad ao) := by
  refine g_metW (cc := cL_reachOf) (maxL := 4) (ret := (some .int)) (hh := [(0, 9, 12, 19)]) (lv := [(0, .ref (ad 0)), (1, .int (iI u)), (2, .ref (ao))]) (by decide) rfl (Nat.le_of_ble_eq_true rfl) rfl ?_
  intro xp xe xs xm xa xb xh xc S xK xX xN xt xr xlk
  refine g_aload_n S dL_reachOf_0 rfl 2 rfl ?_
  refine g_iconst S dL_reachOf_1 ?_
  refine g_aload_n S dL_reachOf_2 rfl 0 rfl ?_
  refine g_iload_n S dL_reachOf_3 rfl 1 rfl ?_
  refine g_callV S xK (As := [.int (iI u)]) (st := [.int (iI 0), .ref (ao)]) (stk' := [.int (iI (RCH se al n u)), .int (iI 0), .ref (ao)]) (Wp' := LO E ad ao fo (CW E ad sp se al ta n pg)) (r := (RX1, TX1, 9)) (m_X1_reachOf l E hj sp se al ta n pg u hh hn hgr) (cwV 1 S.2.2.2.2 gL_reachOf_X1_reachOf rfl rfl rfl (by decide +kernel) ⟨Nat.le_of_ble_eq_true rfl, Nat.le_of_ble_eq_true rfl⟩) rfl rfl rfl rfl (Nat.le_of_ble_eq_true rfl) ⟨Nat.le_of_ble_eq_true rfl, Nat.le_of_ble_eq_true rfl⟩ (fun _ q => q.elim) (fun _ h => cw_x h.2.1) (fun _ h => h.2.1) (fun _ _ h h2 _ hq => lo_call (fun _ q => q.elim) h h2 hq) dL_reachOf_4 ?_
  refine g_i2l S dL_reachOf_7 ?_
  refine g_last S xK (Wp' := LO E ad ao (upI fo 0 (((iI (RCH se al n u)) : Int32).toInt64)) (CW E ad sp se al ta n pg)) (n := 1) (fun _ h => h.2.2) (by decide) (by decide) (Or.inr rfl) (fun _ _ h hv _ oq => lo_put (fun q h => cw_kept h q) h hv oq) dL_reachOf_8 ?_
  refine g_goto S (tgt := 15) dL_reachOf_9 (by decide) ?_
  refine g_iconst S dL_reachOf_15 ?_
  exact g_iret S xr xlk dL_reachOf_16 (fun _ h => h)
set_option maxHeartbeats 4000000 in
set_option maxRecDepth 100000 in
theorem m_L_reachOfX (l : Launch) (hlt : l.stackTraces = false) (E : EN) (bs : Nat) {ad : Int → Nat} (hj : INJ ad) (sp : Int → SpT) (se : Int → Int) (al : Int → Nat) (ta : Int → Int) (n pg : Int) (u : Int) (ao : Nat) (fo : Int → Int64) (hh : u < 0 ∨ n ≤ u) (hr : -2147483648 ≤ u ∧ u ≤ 2147483647) (hn : 0 ≤ n ∧ n ≤ 24) (hAo : ∀ q, AO ad ao q → bs ≤ q) : Met l yL_reachOf wsL_reachOf ({ frames := 8, cells := 1, slots := 6, locals := 124 }) (CL E bs [.ref (ad 0), .int (iI u), .ref (ao)] (LO E ad ao fo (CW E ad sp se al ta n pg))) (QW (some (.int (iI 1))) (LO E ad ao fo (CW E ad sp se al ta n pg)) (AO ad ao)) 1 6 (AO ad ao) := by
  refine g_metW (cc := cL_reachOf) (maxL := 4) (ret := (some .int)) (hh := [(0, 9, 12, 19)]) (lv := [(0, .ref (ad 0)), (1, .int (iI u)), (2, .ref (ao))]) (by decide) rfl (Nat.le_of_ble_eq_true rfl) rfl ?_
  intro xp xe xs xm xa xb xh xc S xK xX xN xt xr xlk
  have kx19 := S.2.2.2.2 (.classLink RL 19 "java/lang/IndexOutOfBoundsException") (by decide +kernel)
  refine g_aload_n S dL_reachOf_0 rfl 2 rfl ?_
  refine g_iconst S dL_reachOf_1 ?_
  refine g_aload_n S dL_reachOf_2 rfl 0 rfl ?_
  refine g_iload_n S dL_reachOf_3 rfl 1 rfl ?_
  refine g_callVC S xK xX (Wp' := LO E ad ao fo (CW E ad sp se al ta n pg)) (As := [.int (iI u)]) (st := [.int (iI 0), .ref (ao)]) (r := (RX1, TX1, 9)) (m_X1_reachOfX l hlt E bs hj sp se al ta n pg u hh hr hn) (cwV 1 S.2.2.2.2 gL_reachOf_X1_reachOf rfl rfl rfl (by decide +kernel) ⟨Nat.le_of_ble_eq_true rfl, Nat.le_of_ble_eq_true rfl⟩) rfl rfl rfl (Nat.le_of_ble_eq_true rfl) ⟨Nat.le_of_ble_eq_true rfl, Nat.le_of_ble_eq_true rfl⟩ (fun _ q => q.elim) hAo (fun _ h => cw_x h.2.1) (fun _ h => h.2.1) (fun _ _ h h2 _ hq => lo_call (fun _ q => q.elim) h h2 hq) dL_reachOf_4 [] ⟨0, 9, 12, 19⟩ [] xt (fun z hz => by cases hz) rfl (by decide) kx19 (by decide) (fun xq => ?_)
  refine g_astore_n S (lv' := [(3, .ref (xq)), (0, .ref (ad 0)), (1, .int (iI u)), (2, .ref (ao))]) dL_reachOf_12 rfl (Nat.le_of_ble_eq_true rfl) rfl ?_
  refine g_iconst S dL_reachOf_13 ?_
  exact g_iret S xr xlk dL_reachOf_14 (fun _ h => h)
set_option maxHeartbeats 4000000 in
set_option maxRecDepth 100000 in
theorem m_L_isInRing (l : Launch) (hlt : l.stackTraces = false) (E : EN) (bs : Nat) {ad : Int → Nat} (hj : INJ ad) (sp : Int → SpT) (se : Int → Int) (al : Int → Nat) (ta : Int → Int) (n pg : Int) (u : Int) (ao : Nat) (fo : Int → Int64) (hh : 0 ≤ u ∧ u < n) (hn : 0 ≤ n ∧ n ≤ 24) (hgr : GR se al n) (hAo : ∀ q, AO ad ao q → bs ≤ q) : Met l yL_isInRing wsL_isInRing ({ frames := 5, cells := 0, slots := 0, locals := 110 }) (CL E bs [.ref (ad 0), .int (iI u), .ref (ao)] (LO E ad ao fo (CW E ad sp se al ta n pg))) (QW (some (.int (iI 0))) (LO E ad ao (upI fo 0 ((iI (pI (RNG se al n u)) : Int32).toInt64)) (CW E ad sp se al ta n pg)) (AO ad ao)) 0 0 (AO ad ao) := by
  refine g_metW (cc := cL_isInRing) (maxL := 4) (ret := (some .int)) (hh := [(0, 16, 19, 19)]) (lv := [(0, .ref (ad 0)), (1, .int (iI u)), (2, .ref (ao))]) (by decide) rfl (Nat.le_of_ble_eq_true rfl) rfl ?_
  intro xp xe xs xm xa xb xh xc S xK xX xN xt xr xlk
  refine g_aload_n S dL_isInRing_0 rfl 2 rfl ?_
  refine g_iconst S dL_isInRing_1 ?_
  refine g_aload_n S dL_isInRing_2 rfl 0 rfl ?_
  refine g_iload_n S dL_isInRing_3 rfl 1 rfl ?_
  refine g_callV S xK (As := [.int (iI u)]) (st := [.int (iI 0), .ref (ao)]) (stk' := [.int (iI (pI (RNG se al n u))), .int (iI 0), .ref (ao)]) (Wp' := LO E ad ao fo (CW E ad sp se al ta n pg)) (r := (RX1, TX1, 9)) (m_X1_isInRing l E hj sp se al ta n pg u hh hn hgr) (cwV 1 S.2.2.2.2 gL_isInRing_X1_isInRing rfl rfl rfl (by decide +kernel) ⟨Nat.le_of_ble_eq_true rfl, Nat.le_of_ble_eq_true rfl⟩) rfl rfl rfl rfl (Nat.le_of_ble_eq_true rfl) ⟨Nat.le_of_ble_eq_true rfl, Nat.le_of_ble_eq_true rfl⟩ (fun _ q => q.elim) (fun _ h => cw_x h.2.1) (fun _ h => h.2.1) (fun _ _ h h2 _ hq => lo_call (fun _ q => q.elim) h h2 hq) dL_isInRing_4 ?_
  have zb := pI_b (RNG se al n u)
  refine g_if_eq S (tgt := 14) dL_isInRing_7 (by decide) (by omega) (fun c7 => ?_) (fun c7 => ?_)
  · skip
    refine g_lconst S dL_isInRing_14 rfl ?_
    refine g_last S xK (Wp' := LO E ad ao (upI fo 0 0) (CW E ad sp se al ta n pg)) (n := 1) (fun _ h => h.2.2) (by decide) (by decide) (Or.inr rfl) (fun _ _ h hv _ oq => lo_put (fun q h => cw_kept h q) h hv oq) dL_isInRing_15 ?_
    refine g_goto S (tgt := 22) dL_isInRing_16 (by decide) ?_
    refine g_iconst S dL_isInRing_22 ?_
    exact g_iret S xr xlk dL_isInRing_23 (fun _ h => by rw [show (pI (RNG se al n u)) = 0 from c7]; exact h)
  · skip
    refine g_lconst S dL_isInRing_10 rfl ?_
    refine g_goto S (tgt := 15) dL_isInRing_11 (by decide) ?_
    refine g_last S xK (Wp' := LO E ad ao (upI fo 0 1) (CW E ad sp se al ta n pg)) (n := 1) (fun _ h => h.2.2) (by decide) (by decide) (Or.inr rfl) (fun _ _ h hv _ oq => lo_put (fun q h => cw_kept h q) h hv oq) dL_isInRing_15 ?_
    refine g_goto S (tgt := 22) dL_isInRing_16 (by decide) ?_
    refine g_iconst S dL_isInRing_22 ?_
    exact g_iret S xr xlk dL_isInRing_23 (fun _ h => by rw [show (pI (RNG se al n u)) = 1 from pI_t (pI_ne0 c7)]; exact h)
set_option maxHeartbeats 4000000 in
set_option maxRecDepth 100000 in
theorem m_L_isInRingX (l : Launch) (hlt : l.stackTraces = false) (E : EN) (bs : Nat) {ad : Int → Nat} (hj : INJ ad) (sp : Int → SpT) (se : Int → Int) (al : Int → Nat) (ta : Int → Int) (n pg : Int) (u : Int) (ao : Nat) (fo : Int → Int64) (hh : u < 0 ∨ n ≤ u) (hr : -2147483648 ≤ u ∧ u ≤ 2147483647) (hn : 0 ≤ n ∧ n ≤ 24) (hAo : ∀ q, AO ad ao q → bs ≤ q) : Met l yL_isInRing wsL_isInRing ({ frames := 8, cells := 1, slots := 6, locals := 124 }) (CL E bs [.ref (ad 0), .int (iI u), .ref (ao)] (LO E ad ao fo (CW E ad sp se al ta n pg))) (QW (some (.int (iI 1))) (LO E ad ao fo (CW E ad sp se al ta n pg)) (AO ad ao)) 1 6 (AO ad ao) := by
  refine g_metW (cc := cL_isInRing) (maxL := 4) (ret := (some .int)) (hh := [(0, 16, 19, 19)]) (lv := [(0, .ref (ad 0)), (1, .int (iI u)), (2, .ref (ao))]) (by decide) rfl (Nat.le_of_ble_eq_true rfl) rfl ?_
  intro xp xe xs xm xa xb xh xc S xK xX xN xt xr xlk
  have kx19 := S.2.2.2.2 (.classLink RL 19 "java/lang/IndexOutOfBoundsException") (by decide +kernel)
  refine g_aload_n S dL_isInRing_0 rfl 2 rfl ?_
  refine g_iconst S dL_isInRing_1 ?_
  refine g_aload_n S dL_isInRing_2 rfl 0 rfl ?_
  refine g_iload_n S dL_isInRing_3 rfl 1 rfl ?_
  refine g_callVC S xK xX (Wp' := LO E ad ao fo (CW E ad sp se al ta n pg)) (As := [.int (iI u)]) (st := [.int (iI 0), .ref (ao)]) (r := (RX1, TX1, 9)) (m_X1_isInRingX l hlt E bs hj sp se al ta n pg u hh hr hn) (cwV 1 S.2.2.2.2 gL_isInRing_X1_isInRing rfl rfl rfl (by decide +kernel) ⟨Nat.le_of_ble_eq_true rfl, Nat.le_of_ble_eq_true rfl⟩) rfl rfl rfl (Nat.le_of_ble_eq_true rfl) ⟨Nat.le_of_ble_eq_true rfl, Nat.le_of_ble_eq_true rfl⟩ (fun _ q => q.elim) hAo (fun _ h => cw_x h.2.1) (fun _ h => h.2.1) (fun _ _ h h2 _ hq => lo_call (fun _ q => q.elim) h h2 hq) dL_isInRing_4 [] ⟨0, 16, 19, 19⟩ [] xt (fun z hz => by cases hz) rfl (by decide) kx19 (by decide) (fun xq => ?_)
  refine g_astore_n S (lv' := [(3, .ref (xq)), (0, .ref (ad 0)), (1, .int (iI u)), (2, .ref (ao))]) dL_isInRing_19 rfl (Nat.le_of_ble_eq_true rfl) rfl ?_
  refine g_iconst S dL_isInRing_20 ?_
  exact g_iret S xr xlk dL_isInRing_21 (fun _ h => h)
set_option maxHeartbeats 4000000 in
set_option maxRecDepth 100000 in
theorem m_L_nearest (l : Launch) (hlt : l.stackTraces = false) (E : EN) (bs : Nat) {ad : Int → Nat} (hj : INJ ad) (sp : Int → SpT) (se : Int → Int) (al : Int → Nat) (ta : Int → Int) (n pg : Int) (u : Int) (ao : Nat) (fo : Int → Int64) (hh : 0 ≤ u ∧ u < n) (hn : 0 ≤ n ∧ n ≤ 24) (hpg : 1 ≤ pg ∧ pg ≤ 300) (hsp : SPV sp n pg) (hAo : ∀ q, AO ad ao q → bs ≤ q) : Met l yL_nearest wsL_nearest ({ frames := 4, cells := 0, slots := 0, locals := 89 }) (CL E bs [.ref (ad 0), .int (iI u), .ref (ao)] (LO E ad ao fo (CW E ad sp se al ta n pg))) (QW (some (.int (iI 0))) (LO E ad ao (upI fo 0 ((iI (NEAR sp n u) : Int32).toInt64)) (CW E ad sp se al ta n pg)) (AO ad ao)) 0 0 (AO ad ao) := by
  refine g_metW (cc := cL_nearest) (maxL := 4) (ret := (some .int)) (hh := [(0, 9, 12, 19)]) (lv := [(0, .ref (ad 0)), (1, .int (iI u)), (2, .ref (ao))]) (by decide) rfl (Nat.le_of_ble_eq_true rfl) rfl ?_
  intro xp xe xs xm xa xb xh xc S xK xX xN xt xr xlk
  refine g_aload_n S dL_nearest_0 rfl 2 rfl ?_
  refine g_iconst S dL_nearest_1 ?_
  refine g_aload_n S dL_nearest_2 rfl 0 rfl ?_
  refine g_iload_n S dL_nearest_3 rfl 1 rfl ?_
  refine g_callV S xK (As := [.int (iI u)]) (st := [.int (iI 0), .ref (ao)]) (stk' := [.int (iI (NEAR sp n u)), .int (iI 0), .ref (ao)]) (Wp' := LO E ad ao fo (CW E ad sp se al ta n pg)) (r := (RX1, TX1, 9)) (m_X1_nearest l E hj sp se al ta n pg u hh hn hpg hsp) (cwV 1 S.2.2.2.2 gL_nearest_X1_nearest rfl rfl rfl (by decide +kernel) ⟨Nat.le_of_ble_eq_true rfl, Nat.le_of_ble_eq_true rfl⟩) rfl rfl rfl rfl (Nat.le_of_ble_eq_true rfl) ⟨Nat.le_of_ble_eq_true rfl, Nat.le_of_ble_eq_true rfl⟩ (fun _ q => q.elim) (fun _ h => cw_x h.2.1) (fun _ h => h.2.1) (fun _ _ h h2 _ hq => lo_call (fun _ q => q.elim) h h2 hq) dL_nearest_4 ?_
  refine g_i2l S dL_nearest_7 ?_
  refine g_last S xK (Wp' := LO E ad ao (upI fo 0 (((iI (NEAR sp n u)) : Int32).toInt64)) (CW E ad sp se al ta n pg)) (n := 1) (fun _ h => h.2.2) (by decide) (by decide) (Or.inr rfl) (fun _ _ h hv _ oq => lo_put (fun q h => cw_kept h q) h hv oq) dL_nearest_8 ?_
  refine g_goto S (tgt := 15) dL_nearest_9 (by decide) ?_
  refine g_iconst S dL_nearest_15 ?_
  exact g_iret S xr xlk dL_nearest_16 (fun _ h => h)
set_option maxHeartbeats 4000000 in
set_option maxRecDepth 100000 in
theorem m_L_nearestX (l : Launch) (hlt : l.stackTraces = false) (E : EN) (bs : Nat) {ad : Int → Nat} (hj : INJ ad) (sp : Int → SpT) (se : Int → Int) (al : Int → Nat) (ta : Int → Int) (n pg : Int) (u : Int) (ao : Nat) (fo : Int → Int64) (hh : u < 0 ∨ n ≤ u) (hr : -2147483648 ≤ u ∧ u ≤ 2147483647) (hn : 0 ≤ n ∧ n ≤ 24) (hAo : ∀ q, AO ad ao q → bs ≤ q) : Met l yL_nearest wsL_nearest ({ frames := 8, cells := 1, slots := 6, locals := 124 }) (CL E bs [.ref (ad 0), .int (iI u), .ref (ao)] (LO E ad ao fo (CW E ad sp se al ta n pg))) (QW (some (.int (iI 1))) (LO E ad ao fo (CW E ad sp se al ta n pg)) (AO ad ao)) 1 6 (AO ad ao) := by
  refine g_metW (cc := cL_nearest) (maxL := 4) (ret := (some .int)) (hh := [(0, 9, 12, 19)]) (lv := [(0, .ref (ad 0)), (1, .int (iI u)), (2, .ref (ao))]) (by decide) rfl (Nat.le_of_ble_eq_true rfl) rfl ?_
  intro xp xe xs xm xa xb xh xc S xK xX xN xt xr xlk
  have kx19 := S.2.2.2.2 (.classLink RL 19 "java/lang/IndexOutOfBoundsException") (by decide +kernel)
  refine g_aload_n S dL_nearest_0 rfl 2 rfl ?_
  refine g_iconst S dL_nearest_1 ?_
  refine g_aload_n S dL_nearest_2 rfl 0 rfl ?_
  refine g_iload_n S dL_nearest_3 rfl 1 rfl ?_
  refine g_callVC S xK xX (Wp' := LO E ad ao fo (CW E ad sp se al ta n pg)) (As := [.int (iI u)]) (st := [.int (iI 0), .ref (ao)]) (r := (RX1, TX1, 9)) (m_X1_nearestX l hlt E bs hj sp se al ta n pg u hh hr hn) (cwV 1 S.2.2.2.2 gL_nearest_X1_nearest rfl rfl rfl (by decide +kernel) ⟨Nat.le_of_ble_eq_true rfl, Nat.le_of_ble_eq_true rfl⟩) rfl rfl rfl (Nat.le_of_ble_eq_true rfl) ⟨Nat.le_of_ble_eq_true rfl, Nat.le_of_ble_eq_true rfl⟩ (fun _ q => q.elim) hAo (fun _ h => cw_x h.2.1) (fun _ h => h.2.1) (fun _ _ h h2 _ hq => lo_call (fun _ q => q.elim) h h2 hq) dL_nearest_4 [] ⟨0, 9, 12, 19⟩ [] xt (fun z hz => by cases hz) rfl (by decide) kx19 (by decide) (fun xq => ?_)
  refine g_astore_n S (lv' := [(3, .ref (xq)), (0, .ref (ad 0)), (1, .int (iI u)), (2, .ref (ao))]) dL_nearest_12 rfl (Nat.le_of_ble_eq_true rfl) rfl ?_
  refine g_iconst S dL_nearest_13 ?_
  exact g_iret S xr xlk dL_nearest_14 (fun _ h => h)
set_option maxHeartbeats 4000000 in
set_option maxRecDepth 100000 in
theorem m_L_startOf (l : Launch) (hlt : l.stackTraces = false) (E : EN) (bs : Nat) {ad : Int → Nat} (hj : INJ ad) (sp : Int → SpT) (se : Int → Int) (al : Int → Nat) (ta : Int → Int) (n pg : Int) (u k : Int) (ao : Nat) (fo : Int → Int64) (hh : 0 ≤ u ∧ u < n) (hn : 0 ≤ n ∧ n ≤ 24) (hpg : 1 ≤ pg ∧ pg ≤ 300) (hsp : SPV sp n pg) (hk : 0 ≤ k ∧ k < (sp u).1) (hAo : ∀ q, AO ad ao q → bs ≤ q) : Met l yL_startOf wsL_startOf ({ frames := 4, cells := 0, slots := 0, locals := 87 }) (CL E bs [.ref (ad 0), .int (iI u), .int (iI k), .ref (ao)] (LO E ad ao fo (CW E ad sp se al ta n pg))) (QW (some (.int (iI 0))) (LO E ad ao (upI fo 0 ((iI ((sp u).2.1 k) : Int32).toInt64)) (CW E ad sp se al ta n pg)) (AO ad ao)) 0 0 (AO ad ao) := by
  refine g_metW (cc := cL_startOf) (maxL := 5) (ret := (some .int)) (hh := [(0, 10, 13, 19)]) (lv := [(0, .ref (ad 0)), (1, .int (iI u)), (2, .int (iI k)), (3, .ref (ao))]) (by decide) rfl (Nat.le_of_ble_eq_true rfl) rfl ?_
  intro xp xe xs xm xa xb xh xc S xK xX xN xt xr xlk
  refine g_aload_n S dL_startOf_0 rfl 3 rfl ?_
  refine g_iconst S dL_startOf_1 ?_
  refine g_aload_n S dL_startOf_2 rfl 0 rfl ?_
  refine g_iload_n S dL_startOf_3 rfl 1 rfl ?_
  refine g_iload_n S dL_startOf_4 rfl 2 rfl ?_
  refine g_callV S xK (As := [.int (iI u), .int (iI k)]) (st := [.int (iI 0), .ref (ao)]) (stk' := [.int (iI ((sp u).2.1 k)), .int (iI 0), .ref (ao)]) (Wp' := LO E ad ao fo (CW E ad sp se al ta n pg)) (r := (RX1, TX1, 9)) (m_X1_startOf l E hj sp se al ta n pg u k hh hn hpg hsp hk) (cwV 2 S.2.2.2.2 gL_startOf_X1_startOf rfl rfl rfl (by decide +kernel) ⟨Nat.le_of_ble_eq_true rfl, Nat.le_of_ble_eq_true rfl⟩) rfl rfl rfl rfl (Nat.le_of_ble_eq_true rfl) ⟨Nat.le_of_ble_eq_true rfl, Nat.le_of_ble_eq_true rfl⟩ (fun _ q => q.elim) (fun _ h => cw_x h.2.1) (fun _ h => h.2.1) (fun _ _ h h2 _ hq => lo_call (fun _ q => q.elim) h h2 hq) dL_startOf_5 ?_
  refine g_i2l S dL_startOf_8 ?_
  refine g_last S xK (Wp' := LO E ad ao (upI fo 0 (((iI ((sp u).2.1 k)) : Int32).toInt64)) (CW E ad sp se al ta n pg)) (n := 1) (fun _ h => h.2.2) (by decide) (by decide) (Or.inr rfl) (fun _ _ h hv _ oq => lo_put (fun q h => cw_kept h q) h hv oq) dL_startOf_9 ?_
  refine g_goto S (tgt := 17) dL_startOf_10 (by decide) ?_
  refine g_iconst S dL_startOf_17 ?_
  exact g_iret S xr xlk dL_startOf_18 (fun _ h => h)
set_option maxHeartbeats 4000000 in
set_option maxRecDepth 100000 in
theorem m_L_startOfX (l : Launch) (hlt : l.stackTraces = false) (E : EN) (bs : Nat) {ad : Int → Nat} (hj : INJ ad) (sp : Int → SpT) (se : Int → Int) (al : Int → Nat) (ta : Int → Int) (n pg : Int) (u k : Int) (ao : Nat) (fo : Int → Int64) (hh : u < 0 ∨ n ≤ u) (hr : -2147483648 ≤ u ∧ u ≤ 2147483647 ∧ -2147483648 ≤ k ∧ k ≤ 2147483647) (hn : 0 ≤ n ∧ n ≤ 24) (hAo : ∀ q, AO ad ao q → bs ≤ q) : Met l yL_startOf wsL_startOf ({ frames := 8, cells := 1, slots := 6, locals := 125 }) (CL E bs [.ref (ad 0), .int (iI u), .int (iI k), .ref (ao)] (LO E ad ao fo (CW E ad sp se al ta n pg))) (QW (some (.int (iI 1))) (LO E ad ao fo (CW E ad sp se al ta n pg)) (AO ad ao)) 1 6 (AO ad ao) := by
  refine g_metW (cc := cL_startOf) (maxL := 5) (ret := (some .int)) (hh := [(0, 10, 13, 19)]) (lv := [(0, .ref (ad 0)), (1, .int (iI u)), (2, .int (iI k)), (3, .ref (ao))]) (by decide) rfl (Nat.le_of_ble_eq_true rfl) rfl ?_
  intro xp xe xs xm xa xb xh xc S xK xX xN xt xr xlk
  have kx19 := S.2.2.2.2 (.classLink RL 19 "java/lang/IndexOutOfBoundsException") (by decide +kernel)
  refine g_aload_n S dL_startOf_0 rfl 3 rfl ?_
  refine g_iconst S dL_startOf_1 ?_
  refine g_aload_n S dL_startOf_2 rfl 0 rfl ?_
  refine g_iload_n S dL_startOf_3 rfl 1 rfl ?_
  refine g_iload_n S dL_startOf_4 rfl 2 rfl ?_
  refine g_callVC S xK xX (Wp' := LO E ad ao fo (CW E ad sp se al ta n pg)) (As := [.int (iI u), .int (iI k)]) (st := [.int (iI 0), .ref (ao)]) (r := (RX1, TX1, 9)) (m_X1_startOfX l hlt E bs hj sp se al ta n pg u k hh hr hn) (cwV 2 S.2.2.2.2 gL_startOf_X1_startOf rfl rfl rfl (by decide +kernel) ⟨Nat.le_of_ble_eq_true rfl, Nat.le_of_ble_eq_true rfl⟩) rfl rfl rfl (Nat.le_of_ble_eq_true rfl) ⟨Nat.le_of_ble_eq_true rfl, Nat.le_of_ble_eq_true rfl⟩ (fun _ q => q.elim) hAo (fun _ h => cw_x h.2.1) (fun _ h => h.2.1) (fun _ _ h h2 _ hq => lo_call (fun _ q => q.elim) h h2 hq) dL_startOf_5 [] ⟨0, 10, 13, 19⟩ [] xt (fun z hz => by cases hz) rfl (by decide) kx19 (by decide) (fun xq => ?_)
  refine g_astore S (lv' := [(4, .ref (xq)), (0, .ref (ad 0)), (1, .int (iI u)), (2, .int (iI k)), (3, .ref (ao))]) dL_startOf_13 (Nat.le_of_ble_eq_true rfl) rfl ?_
  refine g_iconst S dL_startOf_15 ?_
  exact g_iret S xr xlk dL_startOf_16 (fun _ h => h)
set_option maxHeartbeats 4000000 in
set_option maxRecDepth 100000 in
theorem m_L_startOfY (l : Launch) (hlt : l.stackTraces = false) (E : EN) (bs : Nat) {ad : Int → Nat} (hj : INJ ad) (sp : Int → SpT) (se : Int → Int) (al : Int → Nat) (ta : Int → Int) (n pg : Int) (u k : Int) (ao : Nat) (fo : Int → Int64) (hh : 0 ≤ u ∧ u < n) (hn : 0 ≤ n ∧ n ≤ 24) (hsp : SPV sp n pg) (hk : k < 0 ∨ (sp u).1 ≤ k) (hr : -2147483648 ≤ k ∧ k ≤ 2147483647) (hAo : ∀ q, AO ad ao q → bs ≤ q) : Met l yL_startOf wsL_startOf ({ frames := 8, cells := 1, slots := 6, locals := 126 }) (CL E bs [.ref (ad 0), .int (iI u), .int (iI k), .ref (ao)] (LO E ad ao fo (CW E ad sp se al ta n pg))) (QW (some (.int (iI 1))) (LO E ad ao fo (CW E ad sp se al ta n pg)) (AO ad ao)) 1 6 (AO ad ao) := by
  refine g_metW (cc := cL_startOf) (maxL := 5) (ret := (some .int)) (hh := [(0, 10, 13, 19)]) (lv := [(0, .ref (ad 0)), (1, .int (iI u)), (2, .int (iI k)), (3, .ref (ao))]) (by decide) rfl (Nat.le_of_ble_eq_true rfl) rfl ?_
  intro xp xe xs xm xa xb xh xc S xK xX xN xt xr xlk
  have kx19 := S.2.2.2.2 (.classLink RL 19 "java/lang/IndexOutOfBoundsException") (by decide +kernel)
  refine g_aload_n S dL_startOf_0 rfl 3 rfl ?_
  refine g_iconst S dL_startOf_1 ?_
  refine g_aload_n S dL_startOf_2 rfl 0 rfl ?_
  refine g_iload_n S dL_startOf_3 rfl 1 rfl ?_
  refine g_iload_n S dL_startOf_4 rfl 2 rfl ?_
  refine g_callVC S xK xX (Wp' := LO E ad ao fo (CW E ad sp se al ta n pg)) (As := [.int (iI u), .int (iI k)]) (st := [.int (iI 0), .ref (ao)]) (r := (RX1, TX1, 9)) (m_X1_startOfY l hlt E bs hj sp se al ta n pg u k hh hn hsp hk hr) (cwV 2 S.2.2.2.2 gL_startOf_X1_startOf rfl rfl rfl (by decide +kernel) ⟨Nat.le_of_ble_eq_true rfl, Nat.le_of_ble_eq_true rfl⟩) rfl rfl rfl (Nat.le_of_ble_eq_true rfl) ⟨Nat.le_of_ble_eq_true rfl, Nat.le_of_ble_eq_true rfl⟩ (fun _ q => q.elim) hAo (fun _ h => cw_x h.2.1) (fun _ h => h.2.1) (fun _ _ h h2 _ hq => lo_call (fun _ q => q.elim) h h2 hq) dL_startOf_5 [] ⟨0, 10, 13, 19⟩ [] xt (fun z hz => by cases hz) rfl (by decide) kx19 (by decide) (fun xq => ?_)
  refine g_astore S (lv' := [(4, .ref (xq)), (0, .ref (ad 0)), (1, .int (iI u)), (2, .int (iI k)), (3, .ref (ao))]) dL_startOf_13 (Nat.le_of_ble_eq_true rfl) rfl ?_
  refine g_iconst S dL_startOf_15 ?_
  exact g_iret S xr xlk dL_startOf_16 (fun _ h => h)
set_option maxHeartbeats 4000000 in
set_option maxRecDepth 100000 in
theorem m_L_endOf (l : Launch) (hlt : l.stackTraces = false) (E : EN) (bs : Nat) {ad : Int → Nat} (hj : INJ ad) (sp : Int → SpT) (se : Int → Int) (al : Int → Nat) (ta : Int → Int) (n pg : Int) (u k : Int) (ao : Nat) (fo : Int → Int64) (hh : 0 ≤ u ∧ u < n) (hn : 0 ≤ n ∧ n ≤ 24) (hpg : 1 ≤ pg ∧ pg ≤ 300) (hsp : SPV sp n pg) (hk : 0 ≤ k ∧ k < (sp u).1) (hAo : ∀ q, AO ad ao q → bs ≤ q) : Met l yL_endOf wsL_endOf ({ frames := 4, cells := 0, slots := 0, locals := 87 }) (CL E bs [.ref (ad 0), .int (iI u), .int (iI k), .ref (ao)] (LO E ad ao fo (CW E ad sp se al ta n pg))) (QW (some (.int (iI 0))) (LO E ad ao (upI fo 0 ((iI ((sp u).2.2 k) : Int32).toInt64)) (CW E ad sp se al ta n pg)) (AO ad ao)) 0 0 (AO ad ao) := by
  refine g_metW (cc := cL_endOf) (maxL := 5) (ret := (some .int)) (hh := [(0, 10, 13, 19)]) (lv := [(0, .ref (ad 0)), (1, .int (iI u)), (2, .int (iI k)), (3, .ref (ao))]) (by decide) rfl (Nat.le_of_ble_eq_true rfl) rfl ?_
  intro xp xe xs xm xa xb xh xc S xK xX xN xt xr xlk
  refine g_aload_n S dL_endOf_0 rfl 3 rfl ?_
  refine g_iconst S dL_endOf_1 ?_
  refine g_aload_n S dL_endOf_2 rfl 0 rfl ?_
  refine g_iload_n S dL_endOf_3 rfl 1 rfl ?_
  refine g_iload_n S dL_endOf_4 rfl 2 rfl ?_
  refine g_callV S xK (As := [.int (iI u), .int (iI k)]) (st := [.int (iI 0), .ref (ao)]) (stk' := [.int (iI ((sp u).2.2 k)), .int (iI 0), .ref (ao)]) (Wp' := LO E ad ao fo (CW E ad sp se al ta n pg)) (r := (RX1, TX1, 9)) (m_X1_endOf l E hj sp se al ta n pg u k hh hn hpg hsp hk) (cwV 2 S.2.2.2.2 gL_endOf_X1_endOf rfl rfl rfl (by decide +kernel) ⟨Nat.le_of_ble_eq_true rfl, Nat.le_of_ble_eq_true rfl⟩) rfl rfl rfl rfl (Nat.le_of_ble_eq_true rfl) ⟨Nat.le_of_ble_eq_true rfl, Nat.le_of_ble_eq_true rfl⟩ (fun _ q => q.elim) (fun _ h => cw_x h.2.1) (fun _ h => h.2.1) (fun _ _ h h2 _ hq => lo_call (fun _ q => q.elim) h h2 hq) dL_endOf_5 ?_
  refine g_i2l S dL_endOf_8 ?_
  refine g_last S xK (Wp' := LO E ad ao (upI fo 0 (((iI ((sp u).2.2 k)) : Int32).toInt64)) (CW E ad sp se al ta n pg)) (n := 1) (fun _ h => h.2.2) (by decide) (by decide) (Or.inr rfl) (fun _ _ h hv _ oq => lo_put (fun q h => cw_kept h q) h hv oq) dL_endOf_9 ?_
  refine g_goto S (tgt := 17) dL_endOf_10 (by decide) ?_
  refine g_iconst S dL_endOf_17 ?_
  exact g_iret S xr xlk dL_endOf_18 (fun _ h => h)
set_option maxHeartbeats 4000000 in
set_option maxRecDepth 100000 in
theorem m_L_endOfX (l : Launch) (hlt : l.stackTraces = false) (E : EN) (bs : Nat) {ad : Int → Nat} (hj : INJ ad) (sp : Int → SpT) (se : Int → Int) (al : Int → Nat) (ta : Int → Int) (n pg : Int) (u k : Int) (ao : Nat) (fo : Int → Int64) (hh : u < 0 ∨ n ≤ u) (hr : -2147483648 ≤ u ∧ u ≤ 2147483647 ∧ -2147483648 ≤ k ∧ k ≤ 2147483647) (hn : 0 ≤ n ∧ n ≤ 24) (hAo : ∀ q, AO ad ao q → bs ≤ q) : Met l yL_endOf wsL_endOf ({ frames := 8, cells := 1, slots := 6, locals := 125 }) (CL E bs [.ref (ad 0), .int (iI u), .int (iI k), .ref (ao)] (LO E ad ao fo (CW E ad sp se al ta n pg))) (QW (some (.int (iI 1))) (LO E ad ao fo (CW E ad sp se al ta n pg)) (AO ad ao)) 1 6 (AO ad ao) := by
  refine g_metW (cc := cL_endOf) (maxL := 5) (ret := (some .int)) (hh := [(0, 10, 13, 19)]) (lv := [(0, .ref (ad 0)), (1, .int (iI u)), (2, .int (iI k)), (3, .ref (ao))]) (by decide) rfl (Nat.le_of_ble_eq_true rfl) rfl ?_
  intro xp xe xs xm xa xb xh xc S xK xX xN xt xr xlk
  have kx19 := S.2.2.2.2 (.classLink RL 19 "java/lang/IndexOutOfBoundsException") (by decide +kernel)
  refine g_aload_n S dL_endOf_0 rfl 3 rfl ?_
  refine g_iconst S dL_endOf_1 ?_
  refine g_aload_n S dL_endOf_2 rfl 0 rfl ?_
  refine g_iload_n S dL_endOf_3 rfl 1 rfl ?_
  refine g_iload_n S dL_endOf_4 rfl 2 rfl ?_
  refine g_callVC S xK xX (Wp' := LO E ad ao fo (CW E ad sp se al ta n pg)) (As := [.int (iI u), .int (iI k)]) (st := [.int (iI 0), .ref (ao)]) (r := (RX1, TX1, 9)) (m_X1_endOfX l hlt E bs hj sp se al ta n pg u k hh hr hn) (cwV 2 S.2.2.2.2 gL_endOf_X1_endOf rfl rfl rfl (by decide +kernel) ⟨Nat.le_of_ble_eq_true rfl, Nat.le_of_ble_eq_true rfl⟩) rfl rfl rfl (Nat.le_of_ble_eq_true rfl) ⟨Nat.le_of_ble_eq_true rfl, Nat.le_of_ble_eq_true rfl⟩ (fun _ q => q.elim) hAo (fun _ h => cw_x h.2.1) (fun _ h => h.2.1) (fun _ _ h h2 _ hq => lo_call (fun _ q => q.elim) h h2 hq) dL_endOf_5 [] ⟨0, 10, 13, 19⟩ [] xt (fun z hz => by cases hz) rfl (by decide) kx19 (by decide) (fun xq => ?_)
  refine g_astore S (lv' := [(4, .ref (xq)), (0, .ref (ad 0)), (1, .int (iI u)), (2, .int (iI k)), (3, .ref (ao))]) dL_endOf_13 (Nat.le_of_ble_eq_true rfl) rfl ?_
  refine g_iconst S dL_endOf_15 ?_
  exact g_iret S xr xlk dL_endOf_16 (fun _ h => h)
set_option maxHeartbeats 4000000 in
set_option maxRecDepth 100000 in
theorem m_L_endOfY (l : Launch) (hlt : l.stackTraces = false) (E : EN) (bs : Nat) {ad : Int → Nat} (hj : INJ ad) (sp : Int → SpT) (se : Int → Int) (al : Int → Nat) (ta : Int → Int) (n pg : Int) (u k : Int) (ao : Nat) (fo : Int → Int64) (hh : 0 ≤ u ∧ u < n) (hn : 0 ≤ n ∧ n ≤ 24) (hsp : SPV sp n pg) (hk : k < 0 ∨ (sp u).1 ≤ k) (hr : -2147483648 ≤ k ∧ k ≤ 2147483647) (hAo : ∀ q, AO ad ao q → bs ≤ q) : Met l yL_endOf wsL_endOf ({ frames := 8, cells := 1, slots := 6, locals := 126 }) (CL E bs [.ref (ad 0), .int (iI u), .int (iI k), .ref (ao)] (LO E ad ao fo (CW E ad sp se al ta n pg))) (QW (some (.int (iI 1))) (LO E ad ao fo (CW E ad sp se al ta n pg)) (AO ad ao)) 1 6 (AO ad ao) := by
  refine g_metW (cc := cL_endOf) (maxL := 5) (ret := (some .int)) (hh := [(0, 10, 13, 19)]) (lv := [(0, .ref (ad 0)), (1, .int (iI u)), (2, .int (iI k)), (3, .ref (ao))]) (by decide) rfl (Nat.le_of_ble_eq_true rfl) rfl ?_
  intro xp xe xs xm xa xb xh xc S xK xX xN xt xr xlk
  have kx19 := S.2.2.2.2 (.classLink RL 19 "java/lang/IndexOutOfBoundsException") (by decide +kernel)
  refine g_aload_n S dL_endOf_0 rfl 3 rfl ?_
  refine g_iconst S dL_endOf_1 ?_
  refine g_aload_n S dL_endOf_2 rfl 0 rfl ?_
  refine g_iload_n S dL_endOf_3 rfl 1 rfl ?_
  refine g_iload_n S dL_endOf_4 rfl 2 rfl ?_
  refine g_callVC S xK xX (Wp' := LO E ad ao fo (CW E ad sp se al ta n pg)) (As := [.int (iI u), .int (iI k)]) (st := [.int (iI 0), .ref (ao)]) (r := (RX1, TX1, 9)) (m_X1_endOfY l hlt E bs hj sp se al ta n pg u k hh hn hsp hk hr) (cwV 2 S.2.2.2.2 gL_endOf_X1_endOf rfl rfl rfl (by decide +kernel) ⟨Nat.le_of_ble_eq_true rfl, Nat.le_of_ble_eq_true rfl⟩) rfl rfl rfl (Nat.le_of_ble_eq_true rfl) ⟨Nat.le_of_ble_eq_true rfl, Nat.le_of_ble_eq_true rfl⟩ (fun _ q => q.elim) hAo (fun _ h => cw_x h.2.1) (fun _ h => h.2.1) (fun _ _ h h2 _ hq => lo_call (fun _ q => q.elim) h h2 hq) dL_endOf_5 [] ⟨0, 10, 13, 19⟩ [] xt (fun z hz => by cases hz) rfl (by decide) kx19 (by decide) (fun xq => ?_)
  refine g_astore S (lv' := [(4, .ref (xq)), (0, .ref (ad 0)), (1, .int (iI u)), (2, .int (iI k)), (3, .ref (ao))]) dL_endOf_13 (Nat.le_of_ble_eq_true rfl) rfl ?_
  refine g_iconst S dL_endOf_15 ?_
  exact g_iret S xr xlk dL_endOf_16 (fun _ h => h)
set_option maxHeartbeats 4000000 in
set_option maxRecDepth 100000 in
theorem m_L_isOn (l : Launch) (hlt : l.stackTraces = false) (E : EN) (bs : Nat) {ad : Int → Nat} (hj : INJ ad) (sp : Int → SpT) (se : Int → Int) (al : Int → Nat) (ta : Int → Int) (n pg : Int) (u q : Int) (ao : Nat) (fo : Int → Int64) (hh : 0 ≤ u ∧ u < n) (hn : 0 ≤ n ∧ n ≤ 24) (hpg : 1 ≤ pg ∧ pg ≤ 300) (hsp : SPV sp n pg) (hq : 1 ≤ q ∧ q ≤ pg) (hAo : ∀ q, AO ad ao q → bs ≤ q) : Met l yL_isOn wsL_isOn ({ frames := 3, cells := 0, slots := 0, locals := 65 }) (CL E bs [.ref (ad 0), .int (iI u), .int (iI q), .ref (ao)] (LO E ad ao fo (CW E ad sp se al ta n pg))) (QW (some (.int (iI 0))) (LO E ad ao (upI fo 0 ((iI (pI (cov (sp u) q)) : Int32).toInt64)) (CW E ad sp se al ta n pg)) (AO ad ao)) 0 0 (AO ad ao) := by
  refine g_metW (cc := cL_isOn) (maxL := 5) (ret := (some .int)) (hh := [(0, 17, 20, 19), (0, 17, 24, 21)]) (lv := [(0, .ref (ad 0)), (1, .int (iI u)), (2, .int (iI q)), (3, .ref (ao))]) (by decide) rfl (Nat.le_of_ble_eq_true rfl) rfl ?_
  intro xp xe xs xm xa xb xh xc S xK xX xN xt xr xlk
  refine g_aload_n S dL_isOn_0 rfl 3 rfl ?_
  refine g_iconst S dL_isOn_1 ?_
  refine g_aload_n S dL_isOn_2 rfl 0 rfl ?_
  refine g_iload_n S dL_isOn_3 rfl 1 rfl ?_
  refine g_iload_n S dL_isOn_4 rfl 2 rfl ?_
  refine g_callV S xK (As := [.int (iI u), .int (iI q)]) (st := [.int (iI 0), .ref (ao)]) (stk' := [.int (iI (pI (cov (sp u) q))), .int (iI 0), .ref (ao)]) (Wp' := LO E ad ao fo (CW E ad sp se al ta n pg)) (r := (RX1, TX1, 9)) (m_X1_isOn l E hj sp se al ta n pg u q hh hn hpg hsp hq) (cwV 2 S.2.2.2.2 gL_isOn_X1_isOn rfl rfl rfl (by decide +kernel) ⟨Nat.le_of_ble_eq_true rfl, Nat.le_of_ble_eq_true rfl⟩) rfl rfl rfl rfl (Nat.le_of_ble_eq_true rfl) ⟨Nat.le_of_ble_eq_true rfl, Nat.le_of_ble_eq_true rfl⟩ (fun _ q => q.elim) (fun _ h => cw_x h.2.1) (fun _ h => h.2.1) (fun _ _ h h2 _ hq => lo_call (fun _ q => q.elim) h h2 hq) dL_isOn_5 ?_
  have zb := pI_b (cov (sp u) q)
  refine g_if_eq S (tgt := 15) dL_isOn_8 (by decide) (by omega) (fun c8 => ?_) (fun c8 => ?_)
  · skip
    refine g_lconst S dL_isOn_15 rfl ?_
    refine g_last S xK (Wp' := LO E ad ao (upI fo 0 0) (CW E ad sp se al ta n pg)) (n := 1) (fun _ h => h.2.2) (by decide) (by decide) (Or.inr rfl) (fun _ _ h hv _ oq => lo_put (fun q h => cw_kept h q) h hv oq) dL_isOn_16 ?_
    refine g_goto S (tgt := 28) dL_isOn_17 (by decide) ?_
    refine g_iconst S dL_isOn_28 ?_
    exact g_iret S xr xlk dL_isOn_29 (fun _ h => by rw [show (pI (cov (sp u) q)) = 0 from c8]; exact h)
  · skip
    refine g_lconst S dL_isOn_11 rfl ?_
    refine g_goto S (tgt := 16) dL_isOn_12 (by decide) ?_
    refine g_last S xK (Wp' := LO E ad ao (upI fo 0 1) (CW E ad sp se al ta n pg)) (n := 1) (fun _ h => h.2.2) (by decide) (by decide) (Or.inr rfl) (fun _ _ h hv _ oq => lo_put (fun q h => cw_kept h q) h hv oq) dL_isOn_16 ?_
    refine g_goto S (tgt := 28) dL_isOn_17 (by decide) ?_
    refine g_iconst S dL_isOn_28 ?_
    exact g_iret S xr xlk dL_isOn_29 (fun _ h => by rw [show (pI (cov (sp u) q)) = 1 from pI_t (pI_ne0 c8)]; exact h)
set_option maxHeartbeats 4000000 in
set_option maxRecDepth 100000 in
theorem m_L_isOnX (l : Launch) (hlt : l.stackTraces = false) (E : EN) (bs : Nat) {ad : Int → Nat} (hj : INJ ad) (sp : Int → SpT) (se : Int → Int) (al : Int → Nat) (ta : Int → Int) (n pg : Int) (u q : Int) (ao : Nat) (fo : Int → Int64) (hh : u < 0 ∨ n ≤ u) (hr : -2147483648 ≤ u ∧ u ≤ 2147483647) (hn : 0 ≤ n ∧ n ≤ 24) (hAo : ∀ q, AO ad ao q → bs ≤ q) : Met l yL_isOn wsL_isOn ({ frames := 8, cells := 1, slots := 6, locals := 125 }) (CL E bs [.ref (ad 0), .int (iI u), .int (iI q), .ref (ao)] (LO E ad ao fo (CW E ad sp se al ta n pg))) (QW (some (.int (iI 1))) (LO E ad ao fo (CW E ad sp se al ta n pg)) (AO ad ao)) 1 6 (AO ad ao) := by
  refine g_metW (cc := cL_isOn) (maxL := 5) (ret := (some .int)) (hh := [(0, 17, 20, 19), (0, 17, 24, 21)]) (lv := [(0, .ref (ad 0)), (1, .int (iI u)), (2, .int (iI q)), (3, .ref (ao))]) (by decide) rfl (Nat.le_of_ble_eq_true rfl) rfl ?_
  intro xp xe xs xm xa xb xh xc S xK xX xN xt xr xlk
  have kx19 := S.2.2.2.2 (.classLink RL 19 "java/lang/IndexOutOfBoundsException") (by decide +kernel)
  refine g_aload_n S dL_isOn_0 rfl 3 rfl ?_
  refine g_iconst S dL_isOn_1 ?_
  refine g_aload_n S dL_isOn_2 rfl 0 rfl ?_
  refine g_iload_n S dL_isOn_3 rfl 1 rfl ?_
  refine g_iload_n S dL_isOn_4 rfl 2 rfl ?_
  refine g_callVC S xK xX (Wp' := LO E ad ao fo (CW E ad sp se al ta n pg)) (As := [.int (iI u), .int (iI q)]) (st := [.int (iI 0), .ref (ao)]) (r := (RX1, TX1, 9)) (m_X1_isOnX l hlt E bs hj sp se al ta n pg u q hh hr hn) (cwV 2 S.2.2.2.2 gL_isOn_X1_isOn rfl rfl rfl (by decide +kernel) ⟨Nat.le_of_ble_eq_true rfl, Nat.le_of_ble_eq_true rfl⟩) rfl rfl rfl (Nat.le_of_ble_eq_true rfl) ⟨Nat.le_of_ble_eq_true rfl, Nat.le_of_ble_eq_true rfl⟩ (fun _ q => q.elim) hAo (fun _ h => cw_x h.2.1) (fun _ h => h.2.1) (fun _ _ h h2 _ hq => lo_call (fun _ q => q.elim) h h2 hq) dL_isOn_5 [] ⟨0, 17, 20, 19⟩ [⟨0, 17, 24, 21⟩] xt (fun z hz => by cases hz) rfl (by decide) kx19 (by decide) (fun xq => ?_)
  refine g_astore S (lv' := [(4, .ref (xq)), (0, .ref (ad 0)), (1, .int (iI u)), (2, .int (iI q)), (3, .ref (ao))]) dL_isOn_20 (Nat.le_of_ble_eq_true rfl) rfl ?_
  refine g_iconst S dL_isOn_22 ?_
  exact g_iret S xr xlk dL_isOn_23 (fun _ h => h)
set_option maxHeartbeats 4000000 in
set_option maxRecDepth 100000 in
theorem m_L_isOnY (l : Launch) (hlt : l.stackTraces = false) (E : EN) (bs : Nat) {ad : Int → Nat} (hj : INJ ad) (sp : Int → SpT) (se : Int → Int) (al : Int → Nat) (ta : Int → Int) (n pg : Int) (u q : Int) (ao : Nat) (fo : Int → Int64) (hh : 0 ≤ u ∧ u < n) (hn : 0 ≤ n ∧ n ≤ 24) (hpg : 1 ≤ pg ∧ pg ≤ 300) (hq : q < 1 ∨ pg < q) (hr : -2147483648 ≤ q ∧ q ≤ 2147483647) (hAo : ∀ q, AO ad ao q → bs ≤ q) : Met l yL_isOn wsL_isOn ({ frames := 8, cells := 1, slots := 6, locals := 125 }) (CL E bs [.ref (ad 0), .int (iI u), .int (iI q), .ref (ao)] (LO E ad ao fo (CW E ad sp se al ta n pg))) (QW (some (.int (iI 2))) (LO E ad ao fo (CW E ad sp se al ta n pg)) (AO ad ao)) 1 6 (AO ad ao) := by
  refine g_metW (cc := cL_isOn) (maxL := 5) (ret := (some .int)) (hh := [(0, 17, 20, 19), (0, 17, 24, 21)]) (lv := [(0, .ref (ad 0)), (1, .int (iI u)), (2, .int (iI q)), (3, .ref (ao))]) (by decide) rfl (Nat.le_of_ble_eq_true rfl) rfl ?_
  intro xp xe xs xm xa xb xh xc S xK xX xN xt xr xlk
  have kx19 := S.2.2.2.2 (.classLink RL 19 "java/lang/IndexOutOfBoundsException") (by decide +kernel)
  have kx21 := S.2.2.2.2 (.classLink RL 21 "java/lang/IllegalArgumentException") (by decide +kernel)
  refine g_aload_n S dL_isOn_0 rfl 3 rfl ?_
  refine g_iconst S dL_isOn_1 ?_
  refine g_aload_n S dL_isOn_2 rfl 0 rfl ?_
  refine g_iload_n S dL_isOn_3 rfl 1 rfl ?_
  refine g_iload_n S dL_isOn_4 rfl 2 rfl ?_
  refine g_callVC S xK xX (Wp' := LO E ad ao fo (CW E ad sp se al ta n pg)) (As := [.int (iI u), .int (iI q)]) (st := [.int (iI 0), .ref (ao)]) (r := (RX1, TX1, 9)) (m_X1_isOnY l hlt E bs hj sp se al ta n pg u q hh hn hpg hq hr) (cwV 2 S.2.2.2.2 gL_isOn_X1_isOn rfl rfl rfl (by decide +kernel) ⟨Nat.le_of_ble_eq_true rfl, Nat.le_of_ble_eq_true rfl⟩) rfl rfl rfl (Nat.le_of_ble_eq_true rfl) ⟨Nat.le_of_ble_eq_true rfl, Nat.le_of_ble_eq_true rfl⟩ (fun _ q => q.elim) hAo (fun _ h => cw_x h.2.1) (fun _ h => h.2.1) (fun _ _ h h2 _ hq => lo_call (fun _ q => q.elim) h h2 hq) dL_isOn_5 [⟨0, 17, 20, 19⟩] ⟨0, 17, 24, 21⟩ [] xt (fun z hz => by rw [List.mem_singleton.mp hz]; exact ⟨by decide, "java/lang/IndexOutOfBoundsException", kx19, xN.1⟩) rfl (by decide) kx21 (by decide) (fun xq => ?_)
  refine g_astore S (lv' := [(4, .ref (xq)), (0, .ref (ad 0)), (1, .int (iI u)), (2, .int (iI q)), (3, .ref (ao))]) dL_isOn_24 (Nat.le_of_ble_eq_true rfl) rfl ?_
  refine g_iconst S dL_isOn_26 ?_
  exact g_iret S xr xlk dL_isOn_27 (fun _ h => h)
set_option maxHeartbeats 4000000 in
set_option maxRecDepth 100000 in
theorem m_L_headingsOn (l : Launch) (hlt : l.stackTraces = false) (E : EN) (bs : Nat) {ad : Int → Nat} (hj : INJ ad) (sp : Int → SpT) (se : Int → Int) (al : Int → Nat) (ta : Int → Int) (n pg : Int) (q : Int) (ao : Nat) (fo : Int → Int64) (hn : 0 ≤ n ∧ n ≤ 24) (hpg : 1 ≤ pg ∧ pg ≤ 300) (hsp : SPV sp n pg) (hq : 1 ≤ q ∧ q ≤ pg) (hAo : ∀ q, AO ad ao q → bs ≤ q) : Met l yL_headingsOn wsL_headingsOn ({ frames := 4, cells := 0, slots := 0, locals := 87 }) (CL E bs [.ref (ad 0), .int (iI q), .ref (ao)] (LO E ad ao fo (CW E ad sp se al ta n pg))) (QW (some (.int (iI 0))) (LO E ad ao (upI fo 0 ((iI (CHN sp n q) : Int32).toInt64)) (CW E ad sp se al ta n pg)) (AO ad ao)) 0 0 (AO ad ao) := by
  refine g_metW (cc := cL_headingsOn) (maxL := 4) (ret := (some .int)) (hh := [(0, 9, 12, 21)]) (lv := [(0, .ref (ad 0)), (1, .int (iI q)), (2, .ref (ao))]) (by decide) rfl (Nat.le_of_ble_eq_true rfl) rfl ?_
  intro xp xe xs xm xa xb xh xc S xK xX xN xt xr xlk
  refine g_aload_n S dL_headingsOn_0 rfl 2 rfl ?_
  refine g_iconst S dL_headingsOn_1 ?_
  refine g_aload_n S dL_headingsOn_2 rfl 0 rfl ?_
  refine g_iload_n S dL_headingsOn_3 rfl 1 rfl ?_
  refine g_callV S xK (As := [.int (iI q)]) (st := [.int (iI 0), .ref (ao)]) (stk' := [.int (iI (CHN sp n q)), .int (iI 0), .ref (ao)]) (Wp' := LO E ad ao fo (CW E ad sp se al ta n pg)) (r := (RX1, TX1, 9)) (m_X1_headingsOn l E hj sp se al ta n pg q hn hpg hsp hq) (cwV 1 S.2.2.2.2 gL_headingsOn_X1_headingsOn rfl rfl rfl (by decide +kernel) ⟨Nat.le_of_ble_eq_true rfl, Nat.le_of_ble_eq_true rfl⟩) rfl rfl rfl rfl (Nat.le_of_ble_eq_true rfl) ⟨Nat.le_of_ble_eq_true rfl, Nat.le_of_ble_eq_true rfl⟩ (fun _ q => q.elim) (fun _ h => cw_x h.2.1) (fun _ h => h.2.1) (fun _ _ h h2 _ hq => lo_call (fun _ q => q.elim) h h2 hq) dL_headingsOn_4 ?_
  refine g_i2l S dL_headingsOn_7 ?_
  refine g_last S xK (Wp' := LO E ad ao (upI fo 0 (((iI (CHN sp n q)) : Int32).toInt64)) (CW E ad sp se al ta n pg)) (n := 1) (fun _ h => h.2.2) (by decide) (by decide) (Or.inr rfl) (fun _ _ h hv _ oq => lo_put (fun q h => cw_kept h q) h hv oq) dL_headingsOn_8 ?_
  refine g_goto S (tgt := 15) dL_headingsOn_9 (by decide) ?_
  refine g_iconst S dL_headingsOn_15 ?_
  exact g_iret S xr xlk dL_headingsOn_16 (fun _ h => h)
set_option maxHeartbeats 4000000 in
set_option maxRecDepth 100000 in
theorem m_L_headingsOnX (l : Launch) (hlt : l.stackTraces = false) (E : EN) (bs : Nat) {ad : Int → Nat} (hj : INJ ad) (sp : Int → SpT) (se : Int → Int) (al : Int → Nat) (ta : Int → Int) (n pg : Int) (q : Int) (ao : Nat) (fo : Int → Int64) (hpg : 1 ≤ pg ∧ pg ≤ 300) (hq : q < 1 ∨ pg < q) (hr : -2147483648 ≤ q ∧ q ≤ 2147483647) (hAo : ∀ q, AO ad ao q → bs ≤ q) : Met l yL_headingsOn wsL_headingsOn ({ frames := 8, cells := 1, slots := 6, locals := 124 }) (CL E bs [.ref (ad 0), .int (iI q), .ref (ao)] (LO E ad ao fo (CW E ad sp se al ta n pg))) (QW (some (.int (iI 1))) (LO E ad ao fo (CW E ad sp se al ta n pg)) (AO ad ao)) 1 6 (AO ad ao) := by
  refine g_metW (cc := cL_headingsOn) (maxL := 4) (ret := (some .int)) (hh := [(0, 9, 12, 21)]) (lv := [(0, .ref (ad 0)), (1, .int (iI q)), (2, .ref (ao))]) (by decide) rfl (Nat.le_of_ble_eq_true rfl) rfl ?_
  intro xp xe xs xm xa xb xh xc S xK xX xN xt xr xlk
  have kx21 := S.2.2.2.2 (.classLink RL 21 "java/lang/IllegalArgumentException") (by decide +kernel)
  refine g_aload_n S dL_headingsOn_0 rfl 2 rfl ?_
  refine g_iconst S dL_headingsOn_1 ?_
  refine g_aload_n S dL_headingsOn_2 rfl 0 rfl ?_
  refine g_iload_n S dL_headingsOn_3 rfl 1 rfl ?_
  refine g_callVC S xK xX (Wp' := LO E ad ao fo (CW E ad sp se al ta n pg)) (As := [.int (iI q)]) (st := [.int (iI 0), .ref (ao)]) (r := (RX1, TX1, 9)) (m_X1_headingsOnX l hlt E bs hj sp se al ta n pg q hpg hq hr) (cwV 1 S.2.2.2.2 gL_headingsOn_X1_headingsOn rfl rfl rfl (by decide +kernel) ⟨Nat.le_of_ble_eq_true rfl, Nat.le_of_ble_eq_true rfl⟩) rfl rfl rfl (Nat.le_of_ble_eq_true rfl) ⟨Nat.le_of_ble_eq_true rfl, Nat.le_of_ble_eq_true rfl⟩ (fun _ q => q.elim) hAo (fun _ h => cw_x h.2.1) (fun _ h => h.2.1) (fun _ _ h h2 _ hq => lo_call (fun _ q => q.elim) h h2 hq) dL_headingsOn_4 [] ⟨0, 9, 12, 21⟩ [] xt (fun z hz => by cases hz) rfl (by decide) kx21 (by decide) (fun xq => ?_)
  refine g_astore_n S (lv' := [(3, .ref (xq)), (0, .ref (ad 0)), (1, .int (iI q)), (2, .ref (ao))]) dL_headingsOn_12 rfl (Nat.le_of_ble_eq_true rfl) rfl ?_
  refine g_iconst S dL_headingsOn_13 ?_
  exact g_iret S xr xlk dL_headingsOn_14 (fun _ h => h)
set_option maxHeartbeats 4000000 in
set_option maxRecDepth 100000 in
theorem m_L_steps (l : Launch) (hlt : l.stackTraces = false) (E : EN) (bs : Nat) {ad : Int → Nat} (hj : INJ ad) (sp : Int → SpT) (se : Int → Int) (al : Int → Nat) (ta : Int → Int) (n pg : Int) (u o : Int) (ao : Nat) (fo : Int → Int64) (hh : 0 ≤ u ∧ u < n) (hn : 0 ≤ n ∧ n ≤ 24) (ho : 0 ≤ o ∧ o < n) (hgr : GR se al n) (hAo : ∀ q, AO ad ao q → bs ≤ q) : Met l yL_steps wsL_steps ({ frames := 3, cells := 0, slots := 0, locals := 67 }) (CL E bs [.ref (ad 0), .int (iI u), .int (iI o), .ref (ao)] (LO E ad ao fo (CW E ad sp se al ta n pg))) (QW (some (.int (iI 0))) (LO E ad ao (upI fo 0 ((iI (fsS se al n o.toNat 24 (2 ^ u.toNat) 0) : Int32).toInt64)) (CW E ad sp se al ta n pg)) (AO ad ao)) 0 0 (AO ad ao) := by
  refine g_metW (cc := cL_steps) (maxL := 5) (ret := (some .int)) (hh := [(0, 10, 13, 19)]) (lv := [(0, .ref (ad 0)), (1, .int (iI u)), (2, .int (iI o)), (3, .ref (ao))]) (by decide) rfl (Nat.le_of_ble_eq_true rfl) rfl ?_
  intro xp xe xs xm xa xb xh xc S xK xX xN xt xr xlk
  refine g_aload_n S dL_steps_0 rfl 3 rfl ?_
  refine g_iconst S dL_steps_1 ?_
  refine g_aload_n S dL_steps_2 rfl 0 rfl ?_
  refine g_iload_n S dL_steps_3 rfl 1 rfl ?_
  refine g_iload_n S dL_steps_4 rfl 2 rfl ?_
  refine g_callV S xK (As := [.int (iI u), .int (iI o)]) (st := [.int (iI 0), .ref (ao)]) (stk' := [.int (iI (fsS se al n o.toNat 24 (2 ^ u.toNat) 0)), .int (iI 0), .ref (ao)]) (Wp' := LO E ad ao fo (CW E ad sp se al ta n pg)) (r := (RX1, TX1, 9)) (m_X1_steps l E hj sp se al ta n pg u o hh hn ho hgr) (cwV 2 S.2.2.2.2 gL_steps_X1_steps rfl rfl rfl (by decide +kernel) ⟨Nat.le_of_ble_eq_true rfl, Nat.le_of_ble_eq_true rfl⟩) rfl rfl rfl rfl (Nat.le_of_ble_eq_true rfl) ⟨Nat.le_of_ble_eq_true rfl, Nat.le_of_ble_eq_true rfl⟩ (fun _ q => q.elim) (fun _ h => cw_x h.2.1) (fun _ h => h.2.1) (fun _ _ h h2 _ hq => lo_call (fun _ q => q.elim) h h2 hq) dL_steps_5 ?_
  refine g_i2l S dL_steps_8 ?_
  refine g_last S xK (Wp' := LO E ad ao (upI fo 0 (((iI (fsS se al n o.toNat 24 (2 ^ u.toNat) 0)) : Int32).toInt64)) (CW E ad sp se al ta n pg)) (n := 1) (fun _ h => h.2.2) (by decide) (by decide) (Or.inr rfl) (fun _ _ h hv _ oq => lo_put (fun q h => cw_kept h q) h hv oq) dL_steps_9 ?_
  refine g_goto S (tgt := 17) dL_steps_10 (by decide) ?_
  refine g_iconst S dL_steps_17 ?_
  exact g_iret S xr xlk dL_steps_18 (fun _ h => h)
set_option maxHeartbeats 4000000 in
set_option maxRecDepth 100000 in
theorem m_L_stepsX (l : Launch) (hlt : l.stackTraces = false) (E : EN) (bs : Nat) {ad : Int → Nat} (hj : INJ ad) (sp : Int → SpT) (se : Int → Int) (al : Int → Nat) (ta : Int → Int) (n pg : Int) (u o : Int) (ao : Nat) (fo : Int → Int64) (hh : u < 0 ∨ n ≤ u) (hr : -2147483648 ≤ u ∧ u ≤ 2147483647) (hn : 0 ≤ n ∧ n ≤ 24) (hAo : ∀ q, AO ad ao q → bs ≤ q) : Met l yL_steps wsL_steps ({ frames := 8, cells := 1, slots := 6, locals := 127 }) (CL E bs [.ref (ad 0), .int (iI u), .int (iI o), .ref (ao)] (LO E ad ao fo (CW E ad sp se al ta n pg))) (QW (some (.int (iI 1))) (LO E ad ao fo (CW E ad sp se al ta n pg)) (AO ad ao)) 1 6 (AO ad ao) := by
  refine g_metW (cc := cL_steps) (maxL := 5) (ret := (some .int)) (hh := [(0, 10, 13, 19)]) (lv := [(0, .ref (ad 0)), (1, .int (iI u)), (2, .int (iI o)), (3, .ref (ao))]) (by decide) rfl (Nat.le_of_ble_eq_true rfl) rfl ?_
  intro xp xe xs xm xa xb xh xc S xK xX xN xt xr xlk
  have kx19 := S.2.2.2.2 (.classLink RL 19 "java/lang/IndexOutOfBoundsException") (by decide +kernel)
  refine g_aload_n S dL_steps_0 rfl 3 rfl ?_
  refine g_iconst S dL_steps_1 ?_
  refine g_aload_n S dL_steps_2 rfl 0 rfl ?_
  refine g_iload_n S dL_steps_3 rfl 1 rfl ?_
  refine g_iload_n S dL_steps_4 rfl 2 rfl ?_
  refine g_callVC S xK xX (Wp' := LO E ad ao fo (CW E ad sp se al ta n pg)) (As := [.int (iI u), .int (iI o)]) (st := [.int (iI 0), .ref (ao)]) (r := (RX1, TX1, 9)) (m_X1_stepsX l hlt E bs hj sp se al ta n pg u o hh hr hn) (cwV 2 S.2.2.2.2 gL_steps_X1_steps rfl rfl rfl (by decide +kernel) ⟨Nat.le_of_ble_eq_true rfl, Nat.le_of_ble_eq_true rfl⟩) rfl rfl rfl (Nat.le_of_ble_eq_true rfl) ⟨Nat.le_of_ble_eq_true rfl, Nat.le_of_ble_eq_true rfl⟩ (fun _ q => q.elim) hAo (fun _ h => cw_x h.2.1) (fun _ h => h.2.1) (fun _ _ h h2 _ hq => lo_call (fun _ q => q.elim) h h2 hq) dL_steps_5 [] ⟨0, 10, 13, 19⟩ [] xt (fun z hz => by cases hz) rfl (by decide) kx19 (by decide) (fun xq => ?_)
  refine g_astore S (lv' := [(4, .ref (xq)), (0, .ref (ad 0)), (1, .int (iI u)), (2, .int (iI o)), (3, .ref (ao))]) dL_steps_13 (Nat.le_of_ble_eq_true rfl) rfl ?_
  refine g_iconst S dL_steps_15 ?_
  exact g_iret S xr xlk dL_steps_16 (fun _ h => h)
set_option maxHeartbeats 4000000 in
set_option maxRecDepth 100000 in
theorem m_L_stepsY (l : Launch) (hlt : l.stackTraces = false) (E : EN) (bs : Nat) {ad : Int → Nat} (hj : INJ ad) (sp : Int → SpT) (se : Int → Int) (al : Int → Nat) (ta : Int → Int) (n pg : Int) (u o : Int) (ao : Nat) (fo : Int → Int64) (hh : 0 ≤ u ∧ u < n) (hn : 0 ≤ n ∧ n ≤ 24) (ho : o < 0 ∨ n ≤ o) (hr : -2147483648 ≤ o ∧ o ≤ 2147483647) (hAo : ∀ q, AO ad ao q → bs ≤ q) : Met l yL_steps wsL_steps ({ frames := 8, cells := 1, slots := 6, locals := 127 }) (CL E bs [.ref (ad 0), .int (iI u), .int (iI o), .ref (ao)] (LO E ad ao fo (CW E ad sp se al ta n pg))) (QW (some (.int (iI 1))) (LO E ad ao fo (CW E ad sp se al ta n pg)) (AO ad ao)) 1 6 (AO ad ao) := by
  refine g_metW (cc := cL_steps) (maxL := 5) (ret := (some .int)) (hh := [(0, 10, 13, 19)]) (lv := [(0, .ref (ad 0)), (1, .int (iI u)), (2, .int (iI o)), (3, .ref (ao))]) (by decide) rfl (Nat.le_of_ble_eq_true rfl) rfl ?_
  intro xp xe xs xm xa xb xh xc S xK xX xN xt xr xlk
  have kx19 := S.2.2.2.2 (.classLink RL 19 "java/lang/IndexOutOfBoundsException") (by decide +kernel)
  refine g_aload_n S dL_steps_0 rfl 3 rfl ?_
  refine g_iconst S dL_steps_1 ?_
  refine g_aload_n S dL_steps_2 rfl 0 rfl ?_
  refine g_iload_n S dL_steps_3 rfl 1 rfl ?_
  refine g_iload_n S dL_steps_4 rfl 2 rfl ?_
  refine g_callVC S xK xX (Wp' := LO E ad ao fo (CW E ad sp se al ta n pg)) (As := [.int (iI u), .int (iI o)]) (st := [.int (iI 0), .ref (ao)]) (r := (RX1, TX1, 9)) (m_X1_stepsY l hlt E bs hj sp se al ta n pg u o hh hn ho hr) (cwV 2 S.2.2.2.2 gL_steps_X1_steps rfl rfl rfl (by decide +kernel) ⟨Nat.le_of_ble_eq_true rfl, Nat.le_of_ble_eq_true rfl⟩) rfl rfl rfl (Nat.le_of_ble_eq_true rfl) ⟨Nat.le_of_ble_eq_true rfl, Nat.le_of_ble_eq_true rfl⟩ (fun _ q => q.elim) hAo (fun _ h => cw_x h.2.1) (fun _ h => h.2.1) (fun _ _ h h2 _ hq => lo_call (fun _ q => q.elim) h h2 hq) dL_steps_5 [] ⟨0, 10, 13, 19⟩ [] xt (fun z hz => by cases hz) rfl (by decide) kx19 (by decide) (fun xq => ?_)
  refine g_astore S (lv' := [(4, .ref (xq)), (0, .ref (ad 0)), (1, .int (iI u)), (2, .int (iI o)), (3, .ref (ao))]) dL_steps_13 (Nat.le_of_ble_eq_true rfl) rfl ?_
  refine g_iconst S dL_steps_15 ?_
  exact g_iret S xr xlk dL_steps_16 (fun _ h => h)
set_option maxHeartbeats 4000000 in
set_option maxRecDepth 100000 in
theorem m_L_commonPages (l : Launch) (hlt : l.stackTraces = false) (E : EN) (bs : Nat) {ad : Int → Nat} (hj : INJ ad) (sp : Int → SpT) (se : Int → Int) (al : Int → Nat) (ta : Int → Int) (n pg : Int) (u o : Int) (ao : Nat) (fo : Int → Int64) (hh : 0 ≤ u ∧ u < n) (hn : 0 ≤ n ∧ n ≤ 24) (ho : 0 ≤ o ∧ o < n) (hpg : 1 ≤ pg ∧ pg ≤ 300) (hsp : SPV sp n pg) (hAo : ∀ q, AO ad ao q → bs ≤ q) : Met l yL_commonPages wsL_commonPages ({ frames := 3, cells := 0, slots := 0, locals := 65 }) (CL E bs [.ref (ad 0), .int (iI u), .int (iI o), .ref (ao)] (LO E ad ao fo (CW E ad sp se al ta n pg))) (QW (some (.int (iI 0))) (LO E ad ao (upI fo 0 ((iI (smI (fun r => pI (cov (sp u) (r + 1) ∧ cov (sp o) (r + 1))) pg.toNat) : Int32).toInt64)) (CW E ad sp se al ta n pg)) (AO ad ao)) 0 0 (AO ad ao) := by
  refine g_metW (cc := cL_commonPages) (maxL := 5) (ret := (some .int)) (hh := [(0, 10, 13, 19)]) (lv := [(0, .ref (ad 0)), (1, .int (iI u)), (2, .int (iI o)), (3, .ref (ao))]) (by decide) rfl (Nat.le_of_ble_eq_true rfl) rfl ?_
  intro xp xe xs xm xa xb xh xc S xK xX xN xt xr xlk
  refine g_aload_n S dL_commonPages_0 rfl 3 rfl ?_
  refine g_iconst S dL_commonPages_1 ?_
  refine g_aload_n S dL_commonPages_2 rfl 0 rfl ?_
  refine g_iload_n S dL_commonPages_3 rfl 1 rfl ?_
  refine g_iload_n S dL_commonPages_4 rfl 2 rfl ?_
  refine g_callV S xK (As := [.int (iI u), .int (iI o)]) (st := [.int (iI 0), .ref (ao)]) (stk' := [.int (iI (smI (fun r => pI (cov (sp u) (r + 1) ∧ cov (sp o) (r + 1))) pg.toNat)), .int (iI 0), .ref (ao)]) (Wp' := LO E ad ao fo (CW E ad sp se al ta n pg)) (r := (RX1, TX1, 9)) (m_X1_commonPages l E hj sp se al ta n pg u o hh hn ho hpg hsp) (cwV 2 S.2.2.2.2 gL_commonPages_X1_commonPages rfl rfl rfl (by decide +kernel) ⟨Nat.le_of_ble_eq_true rfl, Nat.le_of_ble_eq_true rfl⟩) rfl rfl rfl rfl (Nat.le_of_ble_eq_true rfl) ⟨Nat.le_of_ble_eq_true rfl, Nat.le_of_ble_eq_true rfl⟩ (fun _ q => q.elim) (fun _ h => cw_x h.2.1) (fun _ h => h.2.1) (fun _ _ h h2 _ hq => lo_call (fun _ q => q.elim) h h2 hq) dL_commonPages_5 ?_
  refine g_i2l S dL_commonPages_8 ?_
  refine g_last S xK (Wp' := LO E ad ao (upI fo 0 (((iI (smI (fun r => pI (cov (sp u) (r + 1) ∧ cov (sp o) (r + 1))) pg.toNat)) : Int32).toInt64)) (CW E ad sp se al ta n pg)) (n := 1) (fun _ h => h.2.2) (by decide) (by decide) (Or.inr rfl) (fun _ _ h hv _ oq => lo_put (fun q h => cw_kept h q) h hv oq) dL_commonPages_9 ?_
  refine g_goto S (tgt := 17) dL_commonPages_10 (by decide) ?_
  refine g_iconst S dL_commonPages_17 ?_
  exact g_iret S xr xlk dL_commonPages_18 (fun _ h => h)
set_option maxHeartbeats 4000000 in
set_option maxRecDepth 100000 in
theorem m_L_commonPagesX (l : Launch) (hlt : l.stackTraces = false) (E : EN) (bs : Nat) {ad : Int → Nat} (hj : INJ ad) (sp : Int → SpT) (se : Int → Int) (al : Int → Nat) (ta : Int → Int) (n pg : Int) (u o : Int) (ao : Nat) (fo : Int → Int64) (hh : u < 0 ∨ n ≤ u) (hr : -2147483648 ≤ u ∧ u ≤ 2147483647) (hn : 0 ≤ n ∧ n ≤ 24) (hAo : ∀ q, AO ad ao q → bs ≤ q) : Met l yL_commonPages wsL_commonPages ({ frames := 8, cells := 1, slots := 6, locals := 125 }) (CL E bs [.ref (ad 0), .int (iI u), .int (iI o), .ref (ao)] (LO E ad ao fo (CW E ad sp se al ta n pg))) (QW (some (.int (iI 1))) (LO E ad ao fo (CW E ad sp se al ta n pg)) (AO ad ao)) 1 6 (AO ad ao) := by
  refine g_metW (cc := cL_commonPages) (maxL := 5) (ret := (some .int)) (hh := [(0, 10, 13, 19)]) (lv := [(0, .ref (ad 0)), (1, .int (iI u)), (2, .int (iI o)), (3, .ref (ao))]) (by decide) rfl (Nat.le_of_ble_eq_true rfl) rfl ?_
  intro xp xe xs xm xa xb xh xc S xK xX xN xt xr xlk
  have kx19 := S.2.2.2.2 (.classLink RL 19 "java/lang/IndexOutOfBoundsException") (by decide +kernel)
  refine g_aload_n S dL_commonPages_0 rfl 3 rfl ?_
  refine g_iconst S dL_commonPages_1 ?_
  refine g_aload_n S dL_commonPages_2 rfl 0 rfl ?_
  refine g_iload_n S dL_commonPages_3 rfl 1 rfl ?_
  refine g_iload_n S dL_commonPages_4 rfl 2 rfl ?_
  refine g_callVC S xK xX (Wp' := LO E ad ao fo (CW E ad sp se al ta n pg)) (As := [.int (iI u), .int (iI o)]) (st := [.int (iI 0), .ref (ao)]) (r := (RX1, TX1, 9)) (m_X1_commonPagesX l hlt E bs hj sp se al ta n pg u o hh hr hn) (cwV 2 S.2.2.2.2 gL_commonPages_X1_commonPages rfl rfl rfl (by decide +kernel) ⟨Nat.le_of_ble_eq_true rfl, Nat.le_of_ble_eq_true rfl⟩) rfl rfl rfl (Nat.le_of_ble_eq_true rfl) ⟨Nat.le_of_ble_eq_true rfl, Nat.le_of_ble_eq_true rfl⟩ (fun _ q => q.elim) hAo (fun _ h => cw_x h.2.1) (fun _ h => h.2.1) (fun _ _ h h2 _ hq => lo_call (fun _ q => q.elim) h h2 hq) dL_commonPages_5 [] ⟨0, 10, 13, 19⟩ [] xt (fun z hz => by cases hz) rfl (by decide) kx19 (by decide) (fun xq => ?_)
  refine g_astore S (lv' := [(4, .ref (xq)), (0, .ref (ad 0)), (1, .int (iI u)), (2, .int (iI o)), (3, .ref (ao))]) dL_commonPages_13 (Nat.le_of_ble_eq_true rfl) rfl ?_
  refine g_iconst S dL_commonPages_15 ?_
  exact g_iret S xr xlk dL_commonPages_16 (fun _ h => h)
set_option maxHeartbeats 4000000 in
set_option maxRecDepth 100000 in
theorem m_L_commonPagesY (l : Launch) (hlt : l.stackTraces = false) (E : EN) (bs : Nat) {ad : Int → Nat} (hj : INJ ad) (sp : Int → SpT) (se : Int → Int) (al : Int → Nat) (ta : Int → Int) (n pg : Int) (u o : Int) (ao : Nat) (fo : Int → Int64) (hh : 0 ≤ u ∧ u < n) (hn : 0 ≤ n ∧ n ≤ 24) (ho : o < 0 ∨ n ≤ o) (hr : -2147483648 ≤ o ∧ o ≤ 2147483647) (hAo : ∀ q, AO ad ao q → bs ≤ q) : Met l yL_commonPages wsL_commonPages ({ frames := 8, cells := 1, slots := 6, locals := 125 }) (CL E bs [.ref (ad 0), .int (iI u), .int (iI o), .ref (ao)] (LO E ad ao fo (CW E ad sp se al ta n pg))) (QW (some (.int (iI 1))) (LO E ad ao fo (CW E ad sp se al ta n pg)) (AO ad ao)) 1 6 (AO ad ao) := by
  refine g_metW (cc := cL_commonPages) (maxL := 5) (ret := (some .int)) (hh := [(0, 10, 13, 19)]) (lv := [(0, .ref (ad 0)), (1, .int (iI u)), (2, .int (iI o)), (3, .ref (ao))]) (by decide) rfl (Nat.le_of_ble_eq_true rfl) rfl ?_
  intro xp xe xs xm xa xb xh xc S xK xX xN xt xr xlk
  have kx19 := S.2.2.2.2 (.classLink RL 19 "java/lang/IndexOutOfBoundsException") (by decide +kernel)
  refine g_aload_n S dL_commonPages_0 rfl 3 rfl ?_
  refine g_iconst S dL_commonPages_1 ?_
  refine g_aload_n S dL_commonPages_2 rfl 0 rfl ?_
  refine g_iload_n S dL_commonPages_3 rfl 1 rfl ?_
  refine g_iload_n S dL_commonPages_4 rfl 2 rfl ?_
  refine g_callVC S xK xX (Wp' := LO E ad ao fo (CW E ad sp se al ta n pg)) (As := [.int (iI u), .int (iI o)]) (st := [.int (iI 0), .ref (ao)]) (r := (RX1, TX1, 9)) (m_X1_commonPagesY l hlt E bs hj sp se al ta n pg u o hh hn ho hr) (cwV 2 S.2.2.2.2 gL_commonPages_X1_commonPages rfl rfl rfl (by decide +kernel) ⟨Nat.le_of_ble_eq_true rfl, Nat.le_of_ble_eq_true rfl⟩) rfl rfl rfl (Nat.le_of_ble_eq_true rfl) ⟨Nat.le_of_ble_eq_true rfl, Nat.le_of_ble_eq_true rfl⟩ (fun _ q => q.elim) hAo (fun _ h => cw_x h.2.1) (fun _ h => h.2.1) (fun _ _ h h2 _ hq => lo_call (fun _ q => q.elim) h h2 hq) dL_commonPages_5 [] ⟨0, 10, 13, 19⟩ [] xt (fun z hz => by cases hz) rfl (by decide) kx19 (by decide) (fun xq => ?_)
  refine g_astore S (lv' := [(4, .ref (xq)), (0, .ref (ad 0)), (1, .int (iI u)), (2, .int (iI o)), (3, .ref (ao))]) dL_commonPages_13 (Nat.le_of_ble_eq_true rfl) rfl ?_
  refine g_iconst S dL_commonPages_15 ?_
  exact g_iret S xr xlk dL_commonPages_16 (fun _ h => h)
set_option maxHeartbeats 4000000 in
set_option maxRecDepth 100000 in
theorem m_L_spansTogether (l : Launch) (hlt : l.stackTraces = false) (E : EN) (bs : Nat) {ad : Int → Nat} (hj : INJ ad) (sp : Int → SpT) (se : Int → Int) (al : Int → Nat) (ta : Int → Int) (n pg : Int) (u o : Int) (ao : Nat) (fo : Int → Int64) (hh : 0 ≤ u ∧ u < n) (hn : 0 ≤ n ∧ n ≤ 24) (ho : 0 ≤ o ∧ o < n) (hpg : 1 ≤ pg ∧ pg ≤ 300) (hsp : SPV sp n pg) (hAo : ∀ q, AO ad ao q → bs ≤ q) : Met l yL_spansTogether wsL_spansTogether ({ frames := 4, cells := 0, slots := 0, locals := 86 }) (CL E bs [.ref (ad 0), .int (iI u), .int (iI o), .ref (ao)] (LO E ad ao fo (CW E ad sp se al ta n pg))) (QW (some (.int (iI 0))) (LO E ad ao (upI fo 0 ((iI ((spS (fun q => cov (sp u) q ∨ cov (sp o) q) 0 pg.toNat).1) : Int32).toInt64)) (CQ E ad se al n pg (fun i g => g = sp i))) (AO ad ao)) 0 0 (AO ad ao) := by
  refine g_metW (cc := cL_spansTogether) (maxL := 5) (ret := (some .int)) (hh := [(0, 10, 13, 19)]) (lv := [(0, .ref (ad 0)), (1, .int (iI u)), (2, .int (iI o)), (3, .ref (ao))]) (by decide) rfl (Nat.le_of_ble_eq_true rfl) rfl ?_
  intro xp xe xs xm xa xb xh xc S xK xX xN xt xr xlk
  refine g_aload_n S dL_spansTogether_0 rfl 3 rfl ?_
  refine g_iconst S dL_spansTogether_1 ?_
  refine g_aload_n S dL_spansTogether_2 rfl 0 rfl ?_
  refine g_iload_n S dL_spansTogether_3 rfl 1 rfl ?_
  refine g_iload_n S dL_spansTogether_4 rfl 2 rfl ?_
  refine g_callV S xK (As := [.int (iI u), .int (iI o)]) (st := [.int (iI 0), .ref (ao)]) (stk' := [.int (iI ((spS (fun q => cov (sp u) q ∨ cov (sp o) q) 0 pg.toNat).1)), .int (iI 0), .ref (ao)]) (Wp' := LO E ad ao fo (CQ E ad se al n pg (fun i g => g = sp i))) (r := (RX1, TX1, 9)) (m_X1_spansTogether l E hj sp se al ta n pg u o hh hn ho hpg hsp) (cwV 2 S.2.2.2.2 gL_spansTogether_X1_spansTogether rfl rfl rfl (by decide +kernel) ⟨Nat.le_of_ble_eq_true rfl, Nat.le_of_ble_eq_true rfl⟩) rfl rfl rfl rfl (Nat.le_of_ble_eq_true rfl) ⟨Nat.le_of_ble_eq_true rfl, Nat.le_of_ble_eq_true rfl⟩ (fun _ q => Or.inl q) (fun _ h => cw_x h.2.1) (fun _ h => h.2.1) (fun _ _ h h2 _ hq => lo_call (fun _ q => q) h h2 hq) dL_spansTogether_5 ?_
  refine g_i2l S dL_spansTogether_8 ?_
  refine g_last S xK (Wp' := LO E ad ao (upI fo 0 (((iI ((spS (fun q => cov (sp u) q ∨ cov (sp o) q) 0 pg.toNat).1)) : Int32).toInt64)) (CQ E ad se al n pg (fun i g => g = sp i))) (n := 1) (fun _ h => h.2.2) (by decide) (by decide) (Or.inr rfl) (fun _ _ h hv _ oq => lo_put (fun q h => cq_kept h q) h hv oq) dL_spansTogether_9 ?_
  refine g_goto S (tgt := 17) dL_spansTogether_10 (by decide) ?_
  refine g_iconst S dL_spansTogether_17 ?_
  exact g_iret S xr xlk dL_spansTogether_18 (fun _ h => h)
set_option maxHeartbeats 4000000 in
set_option maxRecDepth 100000 in
theorem m_L_spansTogetherX (l : Launch) (hlt : l.stackTraces = false) (E : EN) (bs : Nat) {ad : Int → Nat} (hj : INJ ad) (sp : Int → SpT) (se : Int → Int) (al : Int → Nat) (ta : Int → Int) (n pg : Int) (u o : Int) (ao : Nat) (fo : Int → Int64) (hh : u < 0 ∨ n ≤ u) (hr : -2147483648 ≤ u ∧ u ≤ 2147483647) (hn : 0 ≤ n ∧ n ≤ 24) (hAo : ∀ q, AO ad ao q → bs ≤ q) : Met l yL_spansTogether wsL_spansTogether ({ frames := 8, cells := 1, slots := 6, locals := 125 }) (CL E bs [.ref (ad 0), .int (iI u), .int (iI o), .ref (ao)] (LO E ad ao fo (CW E ad sp se al ta n pg))) (QW (some (.int (iI 1))) (LO E ad ao fo (CW E ad sp se al ta n pg)) (AO ad ao)) 1 6 (AO ad ao) := by
  refine g_metW (cc := cL_spansTogether) (maxL := 5) (ret := (some .int)) (hh := [(0, 10, 13, 19)]) (lv := [(0, .ref (ad 0)), (1, .int (iI u)), (2, .int (iI o)), (3, .ref (ao))]) (by decide) rfl (Nat.le_of_ble_eq_true rfl) rfl ?_
  intro xp xe xs xm xa xb xh xc S xK xX xN xt xr xlk
  have kx19 := S.2.2.2.2 (.classLink RL 19 "java/lang/IndexOutOfBoundsException") (by decide +kernel)
  refine g_aload_n S dL_spansTogether_0 rfl 3 rfl ?_
  refine g_iconst S dL_spansTogether_1 ?_
  refine g_aload_n S dL_spansTogether_2 rfl 0 rfl ?_
  refine g_iload_n S dL_spansTogether_3 rfl 1 rfl ?_
  refine g_iload_n S dL_spansTogether_4 rfl 2 rfl ?_
  refine g_callVC S xK xX (Wp' := LO E ad ao fo (CW E ad sp se al ta n pg)) (As := [.int (iI u), .int (iI o)]) (st := [.int (iI 0), .ref (ao)]) (r := (RX1, TX1, 9)) (m_X1_spansTogetherX l hlt E bs hj sp se al ta n pg u o hh hr hn) (cwV 2 S.2.2.2.2 gL_spansTogether_X1_spansTogether rfl rfl rfl (by decide +kernel) ⟨Nat.le_of_ble_eq_true rfl, Nat.le_of_ble_eq_true rfl⟩) rfl rfl rfl (Nat.le_of_ble_eq_true rfl) ⟨Nat.le_of_ble_eq_true rfl, Nat.le_of_ble_eq_true rfl⟩ (fun _ q => q.elim) hAo (fun _ h => cw_x h.2.1) (fun _ h => h.2.1) (fun _ _ h h2 _ hq => lo_call (fun _ q => q.elim) h h2 hq) dL_spansTogether_5 [] ⟨0, 10, 13, 19⟩ [] xt (fun z hz => by cases hz) rfl (by decide) kx19 (by decide) (fun xq => ?_)
  refine g_astore S (lv' := [(4, .ref (xq)), (0, .ref (ad 0)), (1, .int (iI u)), (2, .int (iI o)), (3, .ref (ao))]) dL_spansTogether_13 (Nat.le_of_ble_eq_true rfl) rfl ?_
  refine g_iconst S dL_spansTogether_15 ?_
  exact g_iret S xr xlk dL_spansTogether_16 (fun _ h => h)
set_option maxHeartbeats 4000000 in
set_option maxRecDepth 100000 in
theorem m_L_spansTogetherY (l : Launch) (hlt : l.stackTraces = false) (E : EN) (bs : Nat) {ad : Int → Nat} (hj : INJ ad) (sp : Int → SpT) (se : Int → Int) (al : Int → Nat) (ta : Int → Int) (n pg : Int) (u o : Int) (ao : Nat) (fo : Int → Int64) (hh : 0 ≤ u ∧ u < n) (hn : 0 ≤ n ∧ n ≤ 24) (ho : o < 0 ∨ n ≤ o) (hr : -2147483648 ≤ o ∧ o ≤ 2147483647) (hAo : ∀ q, AO ad ao q → bs ≤ q) : Met l yL_spansTogether wsL_spansTogether ({ frames := 8, cells := 1, slots := 6, locals := 125 }) (CL E bs [.ref (ad 0), .int (iI u), .int (iI o), .ref (ao)] (LO E ad ao fo (CW E ad sp se al ta n pg))) (QW (some (.int (iI 1))) (LO E ad ao fo (CW E ad sp se al ta n pg)) (AO ad ao)) 1 6 (AO ad ao) := by
  refine g_metW (cc := cL_spansTogether) (maxL := 5) (ret := (some .int)) (hh := [(0, 10, 13, 19)]) (lv := [(0, .ref (ad 0)), (1, .int (iI u)), (2, .int (iI o)), (3, .ref (ao))]) (by decide) rfl (Nat.le_of_ble_eq_true rfl) rfl ?_
  intro xp xe xs xm xa xb xh xc S xK xX xN xt xr xlk
  have kx19 := S.2.2.2.2 (.classLink RL 19 "java/lang/IndexOutOfBoundsException") (by decide +kernel)
  refine g_aload_n S dL_spansTogether_0 rfl 3 rfl ?_
  refine g_iconst S dL_spansTogether_1 ?_
  refine g_aload_n S dL_spansTogether_2 rfl 0 rfl ?_
  refine g_iload_n S dL_spansTogether_3 rfl 1 rfl ?_
  refine g_iload_n S dL_spansTogether_4 rfl 2 rfl ?_
  refine g_callVC S xK xX (Wp' := LO E ad ao fo (CW E ad sp se al ta n pg)) (As := [.int (iI u), .int (iI o)]) (st := [.int (iI 0), .ref (ao)]) (r := (RX1, TX1, 9)) (m_X1_spansTogetherY l hlt E bs hj sp se al ta n pg u o hh hn ho hr) (cwV 2 S.2.2.2.2 gL_spansTogether_X1_spansTogether rfl rfl rfl (by decide +kernel) ⟨Nat.le_of_ble_eq_true rfl, Nat.le_of_ble_eq_true rfl⟩) rfl rfl rfl (Nat.le_of_ble_eq_true rfl) ⟨Nat.le_of_ble_eq_true rfl, Nat.le_of_ble_eq_true rfl⟩ (fun _ q => q.elim) hAo (fun _ h => cw_x h.2.1) (fun _ h => h.2.1) (fun _ _ h h2 _ hq => lo_call (fun _ q => q.elim) h h2 hq) dL_spansTogether_5 [] ⟨0, 10, 13, 19⟩ [] xt (fun z hz => by cases hz) rfl (by decide) kx19 (by decide) (fun xq => ?_)
  refine g_astore S (lv' := [(4, .ref (xq)), (0, .ref (ad 0)), (1, .int (iI u)), (2, .int (iI o)), (3, .ref (ao))]) dL_spansTogether_13 (Nat.le_of_ble_eq_true rfl) rfl ?_
  refine g_iconst S dL_spansTogether_15 ?_
  exact g_iret S xr xlk dL_spansTogether_16 (fun _ h => h)
set_option maxHeartbeats 4000000 in
set_option maxRecDepth 100000 in
theorem m_L_spansWithGap (l : Launch) (hlt : l.stackTraces = false) (E : EN) (bs : Nat) {ad : Int → Nat} (hj : INJ ad) (sp : Int → SpT) (se : Int → Int) (al : Int → Nat) (ta : Int → Int) (n pg : Int) (u gap : Int) (ao : Nat) (fo : Int → Int64) (hh : 0 ≤ u ∧ u < n) (hn : 0 ≤ n ∧ n ≤ 24) (hpg : 1 ≤ pg ∧ pg ≤ 300) (hsp : SPV sp n pg) (hgap : 0 ≤ gap ∧ gap ≤ 100) (hAo : ∀ q, AO ad ao q → bs ≤ q) : Met l yL_spansWithGap wsL_spansWithGap ({ frames := 4, cells := 0, slots := 0, locals := 83 }) (CL E bs [.ref (ad 0), .int (iI u), .int (iI gap), .ref (ao)] (LO E ad ao fo (CW E ad sp se al ta n pg))) (QW (some (.int (iI 0))) (LO E ad ao (upI fo 0 ((iI ((spS (cov (sp u)) gap pg.toNat).1) : Int32).toInt64)) (CQ E ad se al n pg (fun i g => g = sp i))) (AO ad ao)) 0 0 (AO ad ao) := by
  refine g_metW (cc := cL_spansWithGap) (maxL := 5) (ret := (some .int)) (hh := [(0, 10, 13, 19), (0, 10, 17, 21)]) (lv := [(0, .ref (ad 0)), (1, .int (iI u)), (2, .int (iI gap)), (3, .ref (ao))]) (by decide) rfl (Nat.le_of_ble_eq_true rfl) rfl ?_
  intro xp xe xs xm xa xb xh xc S xK xX xN xt xr xlk
  refine g_aload_n S dL_spansWithGap_0 rfl 3 rfl ?_
  refine g_iconst S dL_spansWithGap_1 ?_
  refine g_aload_n S dL_spansWithGap_2 rfl 0 rfl ?_
  refine g_iload_n S dL_spansWithGap_3 rfl 1 rfl ?_
  refine g_iload_n S dL_spansWithGap_4 rfl 2 rfl ?_
  refine g_callV S xK (As := [.int (iI u), .int (iI gap)]) (st := [.int (iI 0), .ref (ao)]) (stk' := [.int (iI ((spS (cov (sp u)) gap pg.toNat).1)), .int (iI 0), .ref (ao)]) (Wp' := LO E ad ao fo (CQ E ad se al n pg (fun i g => g = sp i))) (r := (RX1, TX1, 9)) (m_X1_spansWithGap l E hj sp se al ta n pg u gap hh hn hpg hsp hgap) (cwV 2 S.2.2.2.2 gL_spansWithGap_X1_spansWithGap rfl rfl rfl (by decide +kernel) ⟨Nat.le_of_ble_eq_true rfl, Nat.le_of_ble_eq_true rfl⟩) rfl rfl rfl rfl (Nat.le_of_ble_eq_true rfl) ⟨Nat.le_of_ble_eq_true rfl, Nat.le_of_ble_eq_true rfl⟩ (fun _ q => Or.inl q) (fun _ h => cw_x h.2.1) (fun _ h => h.2.1) (fun _ _ h h2 _ hq => lo_call (fun _ q => q) h h2 hq) dL_spansWithGap_5 ?_
  refine g_i2l S dL_spansWithGap_8 ?_
  refine g_last S xK (Wp' := LO E ad ao (upI fo 0 (((iI ((spS (cov (sp u)) gap pg.toNat).1)) : Int32).toInt64)) (CQ E ad se al n pg (fun i g => g = sp i))) (n := 1) (fun _ h => h.2.2) (by decide) (by decide) (Or.inr rfl) (fun _ _ h hv _ oq => lo_put (fun q h => cq_kept h q) h hv oq) dL_spansWithGap_9 ?_
  refine g_goto S (tgt := 21) dL_spansWithGap_10 (by decide) ?_
  refine g_iconst S dL_spansWithGap_21 ?_
  exact g_iret S xr xlk dL_spansWithGap_22 (fun _ h => h)
set_option maxHeartbeats 4000000 in
set_option maxRecDepth 100000 in
theorem m_L_spansWithGapX (l : Launch) (hlt : l.stackTraces = false) (E : EN) (bs : Nat) {ad : Int → Nat} (hj : INJ ad) (sp : Int → SpT) (se : Int → Int) (al : Int → Nat) (ta : Int → Int) (n pg : Int) (u gap : Int) (ao : Nat) (fo : Int → Int64) (hh : u < 0 ∨ n ≤ u) (hr : -2147483648 ≤ u ∧ u ≤ 2147483647) (hn : 0 ≤ n ∧ n ≤ 24) (hAo : ∀ q, AO ad ao q → bs ≤ q) : Met l yL_spansWithGap wsL_spansWithGap ({ frames := 8, cells := 1, slots := 6, locals := 125 }) (CL E bs [.ref (ad 0), .int (iI u), .int (iI gap), .ref (ao)] (LO E ad ao fo (CW E ad sp se al ta n pg))) (QW (some (.int (iI 1))) (LO E ad ao fo (CW E ad sp se al ta n pg)) (AO ad ao)) 1 6 (AO ad ao) := by
  refine g_metW (cc := cL_spansWithGap) (maxL := 5) (ret := (some .int)) (hh := [(0, 10, 13, 19), (0, 10, 17, 21)]) (lv := [(0, .ref (ad 0)), (1, .int (iI u)), (2, .int (iI gap)), (3, .ref (ao))]) (by decide) rfl (Nat.le_of_ble_eq_true rfl) rfl ?_
  intro xp xe xs xm xa xb xh xc S xK xX xN xt xr xlk
  have kx19 := S.2.2.2.2 (.classLink RL 19 "java/lang/IndexOutOfBoundsException") (by decide +kernel)
  refine g_aload_n S dL_spansWithGap_0 rfl 3 rfl ?_
  refine g_iconst S dL_spansWithGap_1 ?_
  refine g_aload_n S dL_spansWithGap_2 rfl 0 rfl ?_
  refine g_iload_n S dL_spansWithGap_3 rfl 1 rfl ?_
  refine g_iload_n S dL_spansWithGap_4 rfl 2 rfl ?_
  refine g_callVC S xK xX (Wp' := LO E ad ao fo (CW E ad sp se al ta n pg)) (As := [.int (iI u), .int (iI gap)]) (st := [.int (iI 0), .ref (ao)]) (r := (RX1, TX1, 9)) (m_X1_spansWithGapX l hlt E bs hj sp se al ta n pg u gap hh hr hn) (cwV 2 S.2.2.2.2 gL_spansWithGap_X1_spansWithGap rfl rfl rfl (by decide +kernel) ⟨Nat.le_of_ble_eq_true rfl, Nat.le_of_ble_eq_true rfl⟩) rfl rfl rfl (Nat.le_of_ble_eq_true rfl) ⟨Nat.le_of_ble_eq_true rfl, Nat.le_of_ble_eq_true rfl⟩ (fun _ q => q.elim) hAo (fun _ h => cw_x h.2.1) (fun _ h => h.2.1) (fun _ _ h h2 _ hq => lo_call (fun _ q => q.elim) h h2 hq) dL_spansWithGap_5 [] ⟨0, 10, 13, 19⟩ [⟨0, 10, 17, 21⟩] xt (fun z hz => by cases hz) rfl (by decide) kx19 (by decide) (fun xq => ?_)
  refine g_astore S (lv' := [(4, .ref (xq)), (0, .ref (ad 0)), (1, .int (iI u)), (2, .int (iI gap)), (3, .ref (ao))]) dL_spansWithGap_13 (Nat.le_of_ble_eq_true rfl) rfl ?_
  refine g_iconst S dL_spansWithGap_15 ?_
  exact g_iret S xr xlk dL_spansWithGap_16 (fun _ h => h)
set_option maxHeartbeats 4000000 in
set_option maxRecDepth 100000 in
theorem m_L_spansWithGapY (l : Launch) (hlt : l.stackTraces = false) (E : EN) (bs : Nat) {ad : Int → Nat} (hj : INJ ad) (sp : Int → SpT) (se : Int → Int) (al : Int → Nat) (ta : Int → Int) (n pg : Int) (u gap : Int) (ao : Nat) (fo : Int → Int64) (hh : 0 ≤ u ∧ u < n) (hn : 0 ≤ n ∧ n ≤ 24) (hgap : gap < 0 ∨ 100 < gap) (hr : -2147483648 ≤ gap ∧ gap ≤ 2147483647) (hAo : ∀ q, AO ad ao q → bs ≤ q) : Met l yL_spansWithGap wsL_spansWithGap ({ frames := 7, cells := 1, slots := 6, locals := 104 }) (CL E bs [.ref (ad 0), .int (iI u), .int (iI gap), .ref (ao)] (LO E ad ao fo (CW E ad sp se al ta n pg))) (QW (some (.int (iI 2))) (LO E ad ao fo (CW E ad sp se al ta n pg)) (AO ad ao)) 1 6 (AO ad ao) := by
  refine g_metW (cc := cL_spansWithGap) (maxL := 5) (ret := (some .int)) (hh := [(0, 10, 13, 19), (0, 10, 17, 21)]) (lv := [(0, .ref (ad 0)), (1, .int (iI u)), (2, .int (iI gap)), (3, .ref (ao))]) (by decide) rfl (Nat.le_of_ble_eq_true rfl) rfl ?_
  intro xp xe xs xm xa xb xh xc S xK xX xN xt xr xlk
  have kx19 := S.2.2.2.2 (.classLink RL 19 "java/lang/IndexOutOfBoundsException") (by decide +kernel)
  have kx21 := S.2.2.2.2 (.classLink RL 21 "java/lang/IllegalArgumentException") (by decide +kernel)
  refine g_aload_n S dL_spansWithGap_0 rfl 3 rfl ?_
  refine g_iconst S dL_spansWithGap_1 ?_
  refine g_aload_n S dL_spansWithGap_2 rfl 0 rfl ?_
  refine g_iload_n S dL_spansWithGap_3 rfl 1 rfl ?_
  refine g_iload_n S dL_spansWithGap_4 rfl 2 rfl ?_
  refine g_callVC S xK xX (Wp' := LO E ad ao fo (CW E ad sp se al ta n pg)) (As := [.int (iI u), .int (iI gap)]) (st := [.int (iI 0), .ref (ao)]) (r := (RX1, TX1, 9)) (m_X1_spansWithGapY l hlt E bs hj sp se al ta n pg u gap hh hn hgap hr) (cwV 2 S.2.2.2.2 gL_spansWithGap_X1_spansWithGap rfl rfl rfl (by decide +kernel) ⟨Nat.le_of_ble_eq_true rfl, Nat.le_of_ble_eq_true rfl⟩) rfl rfl rfl (Nat.le_of_ble_eq_true rfl) ⟨Nat.le_of_ble_eq_true rfl, Nat.le_of_ble_eq_true rfl⟩ (fun _ q => q.elim) hAo (fun _ h => cw_x h.2.1) (fun _ h => h.2.1) (fun _ _ h h2 _ hq => lo_call (fun _ q => q.elim) h h2 hq) dL_spansWithGap_5 [⟨0, 10, 13, 19⟩] ⟨0, 10, 17, 21⟩ [] xt (fun z hz => by rw [List.mem_singleton.mp hz]; exact ⟨by decide, "java/lang/IndexOutOfBoundsException", kx19, xN.1⟩) rfl (by decide) kx21 (by decide) (fun xq => ?_)
  refine g_astore S (lv' := [(4, .ref (xq)), (0, .ref (ad 0)), (1, .int (iI u)), (2, .int (iI gap)), (3, .ref (ao))]) dL_spansWithGap_17 (Nat.le_of_ble_eq_true rfl) rfl ?_
  refine g_iconst S dL_spansWithGap_19 ?_
  exact g_iret S xr xlk dL_spansWithGap_20 (fun _ h => h)
set_option maxHeartbeats 4000000 in
set_option maxRecDepth 100000 in
theorem m_L_addHeading (l : Launch) (hlt : l.stackTraces = false) (E : EN) (bs : Nat) {ad : Int → Nat} (hj : INJ ad) (sp : Int → SpT) (se : Int → Int) (al : Int → Nat) (ta : Int → Int) (n pg : Int) (ao : Nat) (fo : Int → Int64) (hn : 0 ≤ n ∧ n < 24) (hAo : ∀ q, AO ad ao q → bs ≤ q) : Met l yL_addHeading wsL_addHeading ({ frames := 1, cells := 0, slots := 0, locals := 21 }) (CL E bs [.ref (ad 0), .ref (ao)] (LO E ad ao fo (CW E ad sp se al ta n pg))) (QW (some (.int (iI 0))) (LO E ad ao (upI fo 0 ((iI n : Int32).toInt64)) (CW E ad sp (upI se n (-1)) al ta (n + 1) pg)) (AO ad ao)) 0 0 (AO ad ao) := by
  refine g_metW (cc := cL_addHeading) (maxL := 3) (ret := (some .int)) (hh := [(0, 8, 11, 13)]) (lv := [(0, .ref (ad 0)), (1, .ref (ao))]) (by decide) rfl (Nat.le_of_ble_eq_true rfl) rfl ?_
  intro xp xe xs xm xa xb xh xc S xK xX xN xt xr xlk
  refine g_aload_n S dL_addHeading_0 rfl 1 rfl ?_
  refine g_iconst S dL_addHeading_1 ?_
  refine g_aload_n S dL_addHeading_2 rfl 0 rfl ?_
  refine g_callV S xK (As := []) (st := [.int (iI 0), .ref (ao)]) (stk' := [.int (iI n), .int (iI 0), .ref (ao)]) (Wp' := LO E ad ao fo (CW E ad sp (upI se n (-1)) al ta (n + 1) pg)) (r := (RX1, TX1, 9)) (m_X1_addHeading l E hj sp se al ta n pg  hn) (cwV 0 S.2.2.2.2 gL_addHeading_X1_addHeading rfl rfl rfl (by decide +kernel) ⟨Nat.le_of_ble_eq_true rfl, Nat.le_of_ble_eq_true rfl⟩) rfl rfl rfl rfl (Nat.le_of_ble_eq_true rfl) ⟨Nat.le_of_ble_eq_true rfl, Nat.le_of_ble_eq_true rfl⟩ (fun _ q => Or.inl q) (fun _ h => cw_x h.2.1) (fun _ h => h.2.1) (fun _ _ h h2 _ hq => lo_call (fun _ q => q) h h2 hq) dL_addHeading_3 ?_
  refine g_i2l S dL_addHeading_6 ?_
  refine g_last S xK (Wp' := LO E ad ao (upI fo 0 (((iI n) : Int32).toInt64)) (CW E ad sp (upI se n (-1)) al ta (n + 1) pg)) (n := 1) (fun _ h => h.2.2) (by decide) (by decide) (Or.inr rfl) (fun _ _ h hv _ oq => lo_put (fun q h => cw_kept h q) h hv oq) dL_addHeading_7 ?_
  refine g_goto S (tgt := 14) dL_addHeading_8 (by decide) ?_
  refine g_iconst S dL_addHeading_14 ?_
  exact g_iret S xr xlk dL_addHeading_15 (fun _ h => h)
set_option maxHeartbeats 4000000 in
set_option maxRecDepth 100000 in
theorem m_L_addHeadingX (l : Launch) (hlt : l.stackTraces = false) (E : EN) (bs : Nat) {ad : Int → Nat} (hj : INJ ad) (sp : Int → SpT) (se : Int → Int) (al : Int → Nat) (ta : Int → Int) (n pg : Int) (ao : Nat) (fo : Int → Int64) (hn : n = 24) (hAo : ∀ q, AO ad ao q → bs ≤ q) : Met l yL_addHeading wsL_addHeading ({ frames := 7, cells := 1, slots := 6, locals := 103 }) (CL E bs [.ref (ad 0), .ref (ao)] (LO E ad ao fo (CW E ad sp se al ta n pg))) (QW (some (.int (iI 1))) (LO E ad ao fo (CW E ad sp se al ta n pg)) (AO ad ao)) 1 6 (AO ad ao) := by
  refine g_metW (cc := cL_addHeading) (maxL := 3) (ret := (some .int)) (hh := [(0, 8, 11, 13)]) (lv := [(0, .ref (ad 0)), (1, .ref (ao))]) (by decide) rfl (Nat.le_of_ble_eq_true rfl) rfl ?_
  intro xp xe xs xm xa xb xh xc S xK xX xN xt xr xlk
  have kx13 := S.2.2.2.2 (.classLink RL 13 "java/lang/IllegalStateException") (by decide +kernel)
  refine g_aload_n S dL_addHeading_0 rfl 1 rfl ?_
  refine g_iconst S dL_addHeading_1 ?_
  refine g_aload_n S dL_addHeading_2 rfl 0 rfl ?_
  refine g_callVC S xK xX (Wp' := LO E ad ao fo (CW E ad sp se al ta n pg)) (As := []) (st := [.int (iI 0), .ref (ao)]) (r := (RX1, TX1, 9)) (m_X1_addHeadingX l hlt E bs hj sp se al ta n pg  hn) (cwV 0 S.2.2.2.2 gL_addHeading_X1_addHeading rfl rfl rfl (by decide +kernel) ⟨Nat.le_of_ble_eq_true rfl, Nat.le_of_ble_eq_true rfl⟩) rfl rfl rfl (Nat.le_of_ble_eq_true rfl) ⟨Nat.le_of_ble_eq_true rfl, Nat.le_of_ble_eq_true rfl⟩ (fun _ q => q.elim) hAo (fun _ h => cw_x h.2.1) (fun _ h => h.2.1) (fun _ _ h h2 _ hq => lo_call (fun _ q => q.elim) h h2 hq) dL_addHeading_3 [] ⟨0, 8, 11, 13⟩ [] xt (fun z hz => by cases hz) rfl (by decide) kx13 (by decide) (fun xq => ?_)
  refine g_astore_n S (lv' := [(2, .ref (xq)), (0, .ref (ad 0)), (1, .ref (ao))]) dL_addHeading_11 rfl (Nat.le_of_ble_eq_true rfl) rfl ?_
  refine g_iconst S dL_addHeading_12 ?_
  exact g_iret S xr xlk dL_addHeading_13 (fun _ h => h)
set_option maxHeartbeats 4000000 in
set_option maxRecDepth 100000 in
theorem m_L_addPages (l : Launch) (hlt : l.stackTraces = false) (E : EN) (bs : Nat) {ad : Int → Nat} (hj : INJ ad) (sp : Int → SpT) (se : Int → Int) (al : Int → Nat) (ta : Int → Int) (n pg : Int) (u fr to : Int) (ao : Nat) (fo : Int → Int64) (hh : 0 ≤ u ∧ u < n) (hn : 0 ≤ n ∧ n ≤ 24) (hpg : 1 ≤ pg ∧ pg ≤ 300) (hsp : SPV sp n pg) (hf : 1 ≤ fr ∧ fr ≤ to ∧ to ≤ pg) (hse : se u = -1) (hc : (spS (fun q => cov (sp u) q ∨ (fr ≤ q ∧ q ≤ to)) 0 pg.toNat).1 ≤ 8) (hAo : ∀ q, AO ad ao q → bs ≤ q) : Met l yL_addPages wsL_addPages ({ frames := 5, cells := 0, slots := 0, locals := 106 }) (CL E bs [.ref (ad 0), .int (iI u), .int (iI fr), .int (iI to), .ref (ao)] (LO E ad ao fo (CW E ad sp se al ta n pg))) (QW (some (.int (iI 0))) (LO E ad ao (upI fo 0 ((iI ((spS (fun q => cov (sp u) q ∨ (fr ≤ q ∧ q ≤ to)) 0 pg.toNat).1) : Int32).toInt64)) (CQ E ad se al n pg (fun i g => (i ≠ u → g = sp i) ∧ (i = u → VL g pg ∧ ∀ q, cov g q ↔ (fun q => cov (sp u) q ∨ (fr ≤ q ∧ q ≤ to)) q)))) (AO ad ao)) 0 0 (AO ad ao) := by
  refine g_metW (cc := cL_addPages) (maxL := 6) (ret := (some .int)) (hh := [(0, 12, 15, 19), (0, 12, 19, 21), (0, 12, 23, 13)]) (lv := [(0, .ref (ad 0)), (1, .int (iI u)), (2, .int (iI fr)), (3, .int (iI to)), (4, .ref (ao))]) (by decide) rfl (Nat.le_of_ble_eq_true rfl) rfl ?_
  intro xp xe xs xm xa xb xh xc S xK xX xN xt xr xlk
  refine g_aload S dL_addPages_0 4 rfl ?_
  refine g_iconst S dL_addPages_2 ?_
  refine g_aload_n S dL_addPages_3 rfl 0 rfl ?_
  refine g_iload_n S dL_addPages_4 rfl 1 rfl ?_
  refine g_iload_n S dL_addPages_5 rfl 2 rfl ?_
  refine g_iload_n S dL_addPages_6 rfl 3 rfl ?_
  refine g_callV S xK (As := [.int (iI u), .int (iI fr), .int (iI to)]) (st := [.int (iI 0), .ref (ao)]) (stk' := [.int (iI ((spS (fun q => cov (sp u) q ∨ (fr ≤ q ∧ q ≤ to)) 0 pg.toNat).1)), .int (iI 0), .ref (ao)]) (Wp' := LO E ad ao fo (CQ E ad se al n pg (fun i g => (i ≠ u → g = sp i) ∧ (i = u → VL g pg ∧ ∀ q, cov g q ↔ (fun q => cov (sp u) q ∨ (fr ≤ q ∧ q ≤ to)) q)))) (r := (RX1, TX1, 9)) (m_X1_addPages l E hj sp se al ta n pg u fr to hh hn hpg hsp hf hse hc) (cwV 3 S.2.2.2.2 gL_addPages_X1_addPages rfl rfl rfl (by decide +kernel) ⟨Nat.le_of_ble_eq_true rfl, Nat.le_of_ble_eq_true rfl⟩) rfl rfl rfl rfl (Nat.le_of_ble_eq_true rfl) ⟨Nat.le_of_ble_eq_true rfl, Nat.le_of_ble_eq_true rfl⟩ (fun _ q => Or.inl q) (fun _ h => cw_x h.2.1) (fun _ h => h.2.1) (fun _ _ h h2 _ hq => lo_call (fun _ q => q) h h2 hq) dL_addPages_7 ?_
  refine g_i2l S dL_addPages_10 ?_
  refine g_last S xK (Wp' := LO E ad ao (upI fo 0 (((iI ((spS (fun q => cov (sp u) q ∨ (fr ≤ q ∧ q ≤ to)) 0 pg.toNat).1)) : Int32).toInt64)) (CQ E ad se al n pg (fun i g => (i ≠ u → g = sp i) ∧ (i = u → VL g pg ∧ ∀ q, cov g q ↔ (fun q => cov (sp u) q ∨ (fr ≤ q ∧ q ≤ to)) q)))) (n := 1) (fun _ h => h.2.2) (by decide) (by decide) (Or.inr rfl) (fun _ _ h hv _ oq => lo_put (fun q h => cq_kept h q) h hv oq) dL_addPages_11 ?_
  refine g_goto S (tgt := 27) dL_addPages_12 (by decide) ?_
  refine g_iconst S dL_addPages_27 ?_
  exact g_iret S xr xlk dL_addPages_28 (fun _ h => h)
set_option maxHeartbeats 4000000 in
set_option maxRecDepth 100000 in
theorem m_L_addPagesX (l : Launch) (hlt : l.stackTraces = false) (E : EN) (bs : Nat) {ad : Int → Nat} (hj : INJ ad) (sp : Int → SpT) (se : Int → Int) (al : Int → Nat) (ta : Int → Int) (n pg : Int) (u fr to : Int) (ao : Nat) (fo : Int → Int64) (hh : u < 0 ∨ n ≤ u) (hr : -2147483648 ≤ u ∧ u ≤ 2147483647) (hn : 0 ≤ n ∧ n ≤ 24) (hAo : ∀ q, AO ad ao q → bs ≤ q) : Met l yL_addPages wsL_addPages ({ frames := 8, cells := 1, slots := 6, locals := 127 }) (CL E bs [.ref (ad 0), .int (iI u), .int (iI fr), .int (iI to), .ref (ao)] (LO E ad ao fo (CW E ad sp se al ta n pg))) (QW (some (.int (iI 1))) (LO E ad ao fo (CW E ad sp se al ta n pg)) (AO ad ao)) 1 6 (AO ad ao) := by
  refine g_metW (cc := cL_addPages) (maxL := 6) (ret := (some .int)) (hh := [(0, 12, 15, 19), (0, 12, 19, 21), (0, 12, 23, 13)]) (lv := [(0, .ref (ad 0)), (1, .int (iI u)), (2, .int (iI fr)), (3, .int (iI to)), (4, .ref (ao))]) (by decide) rfl (Nat.le_of_ble_eq_true rfl) rfl ?_
  intro xp xe xs xm xa xb xh xc S xK xX xN xt xr xlk
  have kx19 := S.2.2.2.2 (.classLink RL 19 "java/lang/IndexOutOfBoundsException") (by decide +kernel)
  refine g_aload S dL_addPages_0 4 rfl ?_
  refine g_iconst S dL_addPages_2 ?_
  refine g_aload_n S dL_addPages_3 rfl 0 rfl ?_
  refine g_iload_n S dL_addPages_4 rfl 1 rfl ?_
  refine g_iload_n S dL_addPages_5 rfl 2 rfl ?_
  refine g_iload_n S dL_addPages_6 rfl 3 rfl ?_
  refine g_callVC S xK xX (Wp' := LO E ad ao fo (CW E ad sp se al ta n pg)) (As := [.int (iI u), .int (iI fr), .int (iI to)]) (st := [.int (iI 0), .ref (ao)]) (r := (RX1, TX1, 9)) (m_X1_addPagesX l hlt E bs hj sp se al ta n pg u fr to hh hr hn) (cwV 3 S.2.2.2.2 gL_addPages_X1_addPages rfl rfl rfl (by decide +kernel) ⟨Nat.le_of_ble_eq_true rfl, Nat.le_of_ble_eq_true rfl⟩) rfl rfl rfl (Nat.le_of_ble_eq_true rfl) ⟨Nat.le_of_ble_eq_true rfl, Nat.le_of_ble_eq_true rfl⟩ (fun _ q => q.elim) hAo (fun _ h => cw_x h.2.1) (fun _ h => h.2.1) (fun _ _ h h2 _ hq => lo_call (fun _ q => q.elim) h h2 hq) dL_addPages_7 [] ⟨0, 12, 15, 19⟩ [⟨0, 12, 19, 21⟩, ⟨0, 12, 23, 13⟩] xt (fun z hz => by cases hz) rfl (by decide) kx19 (by decide) (fun xq => ?_)
  refine g_astore S (lv' := [(5, .ref (xq)), (0, .ref (ad 0)), (1, .int (iI u)), (2, .int (iI fr)), (3, .int (iI to)), (4, .ref (ao))]) dL_addPages_15 (Nat.le_of_ble_eq_true rfl) rfl ?_
  refine g_iconst S dL_addPages_17 ?_
  exact g_iret S xr xlk dL_addPages_18 (fun _ h => h)
set_option maxHeartbeats 4000000 in
set_option maxRecDepth 100000 in
theorem m_L_addPagesY (l : Launch) (hlt : l.stackTraces = false) (E : EN) (bs : Nat) {ad : Int → Nat} (hj : INJ ad) (sp : Int → SpT) (se : Int → Int) (al : Int → Nat) (ta : Int → Int) (n pg : Int) (u fr to : Int) (ao : Nat) (fo : Int → Int64) (hh : 0 ≤ u ∧ u < n) (hn : 0 ≤ n ∧ n ≤ 24) (hpg : 1 ≤ pg ∧ pg ≤ 300) (hf : fr < 1 ∨ to < fr ∨ pg < to) (hr : -2147483648 ≤ fr ∧ fr ≤ 2147483647 ∧ -2147483648 ≤ to ∧ to ≤ 2147483647) (hAo : ∀ q, AO ad ao q → bs ≤ q) : Met l yL_addPages wsL_addPages ({ frames := 8, cells := 1, slots := 6, locals := 128 }) (CL E bs [.ref (ad 0), .int (iI u), .int (iI fr), .int (iI to), .ref (ao)] (LO E ad ao fo (CW E ad sp se al ta n pg))) (QW (some (.int (iI 2))) (LO E ad ao fo (CW E ad sp se al ta n pg)) (AO ad ao)) 1 6 (AO ad ao) := by
  refine g_metW (cc := cL_addPages) (maxL := 6) (ret := (some .int)) (hh := [(0, 12, 15, 19), (0, 12, 19, 21), (0, 12, 23, 13)]) (lv := [(0, .ref (ad 0)), (1, .int (iI u)), (2, .int (iI fr)), (3, .int (iI to)), (4, .ref (ao))]) (by decide) rfl (Nat.le_of_ble_eq_true rfl) rfl ?_
  intro xp xe xs xm xa xb xh xc S xK xX xN xt xr xlk
  have kx19 := S.2.2.2.2 (.classLink RL 19 "java/lang/IndexOutOfBoundsException") (by decide +kernel)
  have kx21 := S.2.2.2.2 (.classLink RL 21 "java/lang/IllegalArgumentException") (by decide +kernel)
  refine g_aload S dL_addPages_0 4 rfl ?_
  refine g_iconst S dL_addPages_2 ?_
  refine g_aload_n S dL_addPages_3 rfl 0 rfl ?_
  refine g_iload_n S dL_addPages_4 rfl 1 rfl ?_
  refine g_iload_n S dL_addPages_5 rfl 2 rfl ?_
  refine g_iload_n S dL_addPages_6 rfl 3 rfl ?_
  refine g_callVC S xK xX (Wp' := LO E ad ao fo (CW E ad sp se al ta n pg)) (As := [.int (iI u), .int (iI fr), .int (iI to)]) (st := [.int (iI 0), .ref (ao)]) (r := (RX1, TX1, 9)) (m_X1_addPagesY l hlt E bs hj sp se al ta n pg u fr to hh hn hpg hf hr) (cwV 3 S.2.2.2.2 gL_addPages_X1_addPages rfl rfl rfl (by decide +kernel) ⟨Nat.le_of_ble_eq_true rfl, Nat.le_of_ble_eq_true rfl⟩) rfl rfl rfl (Nat.le_of_ble_eq_true rfl) ⟨Nat.le_of_ble_eq_true rfl, Nat.le_of_ble_eq_true rfl⟩ (fun _ q => q.elim) hAo (fun _ h => cw_x h.2.1) (fun _ h => h.2.1) (fun _ _ h h2 _ hq => lo_call (fun _ q => q.elim) h h2 hq) dL_addPages_7 [⟨0, 12, 15, 19⟩] ⟨0, 12, 19, 21⟩ [⟨0, 12, 23, 13⟩] xt (fun z hz => by rw [List.mem_singleton.mp hz]; exact ⟨by decide, "java/lang/IndexOutOfBoundsException", kx19, xN.1⟩) rfl (by decide) kx21 (by decide) (fun xq => ?_)
  refine g_astore S (lv' := [(5, .ref (xq)), (0, .ref (ad 0)), (1, .int (iI u)), (2, .int (iI fr)), (3, .int (iI to)), (4, .ref (ao))]) dL_addPages_19 (Nat.le_of_ble_eq_true rfl) rfl ?_
  refine g_iconst S dL_addPages_21 ?_
  exact g_iret S xr xlk dL_addPages_22 (fun _ h => h)
set_option maxHeartbeats 4000000 in
set_option maxRecDepth 100000 in
theorem m_L_addPagesZ (l : Launch) (hlt : l.stackTraces = false) (E : EN) (bs : Nat) {ad : Int → Nat} (hj : INJ ad) (sp : Int → SpT) (se : Int → Int) (al : Int → Nat) (ta : Int → Int) (n pg : Int) (u fr to : Int) (ao : Nat) (fo : Int → Int64) (hh : 0 ≤ u ∧ u < n) (hn : 0 ≤ n ∧ n ≤ 24) (hpg : 1 ≤ pg ∧ pg ≤ 300) (hf : 1 ≤ fr ∧ fr ≤ to ∧ to ≤ pg) (hgr : GR se al n) (hse : se u ≠ -1) (hAo : ∀ q, AO ad ao q → bs ≤ q) : Met l yL_addPages wsL_addPages ({ frames := 7, cells := 1, slots := 6, locals := 106 }) (CL E bs [.ref (ad 0), .int (iI u), .int (iI fr), .int (iI to), .ref (ao)] (LO E ad ao fo (CW E ad sp se al ta n pg))) (QW (some (.int (iI 3))) (LO E ad ao fo (CW E ad sp se al ta n pg)) (AO ad ao)) 1 6 (AO ad ao) := by
  refine g_metW (cc := cL_addPages) (maxL := 6) (ret := (some .int)) (hh := [(0, 12, 15, 19), (0, 12, 19, 21), (0, 12, 23, 13)]) (lv := [(0, .ref (ad 0)), (1, .int (iI u)), (2, .int (iI fr)), (3, .int (iI to)), (4, .ref (ao))]) (by decide) rfl (Nat.le_of_ble_eq_true rfl) rfl ?_
  intro xp xe xs xm xa xb xh xc S xK xX xN xt xr xlk
  have kx19 := S.2.2.2.2 (.classLink RL 19 "java/lang/IndexOutOfBoundsException") (by decide +kernel)
  have kx21 := S.2.2.2.2 (.classLink RL 21 "java/lang/IllegalArgumentException") (by decide +kernel)
  have kx13 := S.2.2.2.2 (.classLink RL 13 "java/lang/IllegalStateException") (by decide +kernel)
  refine g_aload S dL_addPages_0 4 rfl ?_
  refine g_iconst S dL_addPages_2 ?_
  refine g_aload_n S dL_addPages_3 rfl 0 rfl ?_
  refine g_iload_n S dL_addPages_4 rfl 1 rfl ?_
  refine g_iload_n S dL_addPages_5 rfl 2 rfl ?_
  refine g_iload_n S dL_addPages_6 rfl 3 rfl ?_
  refine g_callVC S xK xX (Wp' := LO E ad ao fo (CW E ad sp se al ta n pg)) (As := [.int (iI u), .int (iI fr), .int (iI to)]) (st := [.int (iI 0), .ref (ao)]) (r := (RX1, TX1, 9)) (m_X1_addPagesZ l hlt E bs hj sp se al ta n pg u fr to hh hn hpg hf hgr hse) (cwV 3 S.2.2.2.2 gL_addPages_X1_addPages rfl rfl rfl (by decide +kernel) ⟨Nat.le_of_ble_eq_true rfl, Nat.le_of_ble_eq_true rfl⟩) rfl rfl rfl (Nat.le_of_ble_eq_true rfl) ⟨Nat.le_of_ble_eq_true rfl, Nat.le_of_ble_eq_true rfl⟩ (fun _ q => q.elim) hAo (fun _ h => cw_x h.2.1) (fun _ h => h.2.1) (fun _ _ h h2 _ hq => lo_call (fun _ q => q.elim) h h2 hq) dL_addPages_7 [⟨0, 12, 15, 19⟩, ⟨0, 12, 19, 21⟩] ⟨0, 12, 23, 13⟩ [] xt (fun z hz => by rcases List.mem_cons.mp hz with rfl | hz; (· exact ⟨by decide, "java/lang/IndexOutOfBoundsException", kx19, xN.2.1⟩); (· rw [List.mem_singleton.mp hz]; exact ⟨by decide, "java/lang/IllegalArgumentException", kx21, xN.2.2⟩)) rfl (by decide) kx13 (by decide) (fun xq => ?_)
  refine g_astore S (lv' := [(5, .ref (xq)), (0, .ref (ad 0)), (1, .int (iI u)), (2, .int (iI fr)), (3, .int (iI to)), (4, .ref (ao))]) dL_addPages_23 (Nat.le_of_ble_eq_true rfl) rfl ?_
  refine g_iconst S dL_addPages_25 ?_
  exact g_iret S xr xlk dL_addPages_26 (fun _ h => h)
set_option maxHeartbeats 4000000 in
set_option maxRecDepth 100000 in
theorem m_L_addPagesR (l : Launch) (hlt : l.stackTraces = false) (E : EN) (bs : Nat) {ad : Int → Nat} (hj : INJ ad) (sp : Int → SpT) (se : Int → Int) (al : Int → Nat) (ta : Int → Int) (n pg : Int) (u fr to : Int) (ao : Nat) (fo : Int → Int64) (hh : 0 ≤ u ∧ u < n) (hn : 0 ≤ n ∧ n ≤ 24) (hpg : 1 ≤ pg ∧ pg ≤ 300) (hsp : SPV sp n pg) (hf : 1 ≤ fr ∧ fr ≤ to ∧ to ≤ pg) (hse : se u = -1) (hc : 8 < (spS (fun q => cov (sp u) q ∨ (fr ≤ q ∧ q ≤ to)) 0 pg.toNat).1) (hAo : ∀ q, AO ad ao q → bs ≤ q) : Met l yL_addPages wsL_addPages ({ frames := 8, cells := 1, slots := 6, locals := 126 }) (CL E bs [.ref (ad 0), .int (iI u), .int (iI fr), .int (iI to), .ref (ao)] (LO E ad ao fo (CW E ad sp se al ta n pg))) (QW (some (.int (iI 3))) (LO E ad ao fo (CQ E ad se al n pg (fun i g => g = sp i))) (AO ad ao)) 1 6 (AO ad ao) := by
  refine g_metW (cc := cL_addPages) (maxL := 6) (ret := (some .int)) (hh := [(0, 12, 15, 19), (0, 12, 19, 21), (0, 12, 23, 13)]) (lv := [(0, .ref (ad 0)), (1, .int (iI u)), (2, .int (iI fr)), (3, .int (iI to)), (4, .ref (ao))]) (by decide) rfl (Nat.le_of_ble_eq_true rfl) rfl ?_
  intro xp xe xs xm xa xb xh xc S xK xX xN xt xr xlk
  have kx19 := S.2.2.2.2 (.classLink RL 19 "java/lang/IndexOutOfBoundsException") (by decide +kernel)
  have kx21 := S.2.2.2.2 (.classLink RL 21 "java/lang/IllegalArgumentException") (by decide +kernel)
  have kx13 := S.2.2.2.2 (.classLink RL 13 "java/lang/IllegalStateException") (by decide +kernel)
  refine g_aload S dL_addPages_0 4 rfl ?_
  refine g_iconst S dL_addPages_2 ?_
  refine g_aload_n S dL_addPages_3 rfl 0 rfl ?_
  refine g_iload_n S dL_addPages_4 rfl 1 rfl ?_
  refine g_iload_n S dL_addPages_5 rfl 2 rfl ?_
  refine g_iload_n S dL_addPages_6 rfl 3 rfl ?_
  refine g_callVC S xK xX (Wp' := LO E ad ao fo (CQ E ad se al n pg (fun i g => g = sp i))) (As := [.int (iI u), .int (iI fr), .int (iI to)]) (st := [.int (iI 0), .ref (ao)]) (r := (RX1, TX1, 9)) (m_X1_addPagesR l hlt E bs hj sp se al ta n pg u fr to hh hn hpg hsp hf hse hc (fun q z => hAo q (Or.inl z))) (cwV 3 S.2.2.2.2 gL_addPages_X1_addPages rfl rfl rfl (by decide +kernel) ⟨Nat.le_of_ble_eq_true rfl, Nat.le_of_ble_eq_true rfl⟩) rfl rfl rfl (Nat.le_of_ble_eq_true rfl) ⟨Nat.le_of_ble_eq_true rfl, Nat.le_of_ble_eq_true rfl⟩ (fun _ q => Or.inl q) hAo (fun _ h => cw_x h.2.1) (fun _ h => h.2.1) (fun _ _ h h2 _ hq => lo_call (fun _ q => q) h h2 hq) dL_addPages_7 [⟨0, 12, 15, 19⟩, ⟨0, 12, 19, 21⟩] ⟨0, 12, 23, 13⟩ [] xt (fun z hz => by rcases List.mem_cons.mp hz with rfl | hz; (· exact ⟨by decide, "java/lang/IndexOutOfBoundsException", kx19, xN.2.1⟩); (· rw [List.mem_singleton.mp hz]; exact ⟨by decide, "java/lang/IllegalArgumentException", kx21, xN.2.2⟩)) rfl (by decide) kx13 (by decide) (fun xq => ?_)
  refine g_astore S (lv' := [(5, .ref (xq)), (0, .ref (ad 0)), (1, .int (iI u)), (2, .int (iI fr)), (3, .int (iI to)), (4, .ref (ao))]) dL_addPages_23 (Nat.le_of_ble_eq_true rfl) rfl ?_
  refine g_iconst S dL_addPages_25 ?_
  exact g_iret S xr xlk dL_addPages_26 (fun _ h => h)
set_option maxHeartbeats 4000000 in
set_option maxRecDepth 100000 in
theorem m_L_takePages (l : Launch) (hlt : l.stackTraces = false) (E : EN) (bs : Nat) {ad : Int → Nat} (hj : INJ ad) (sp : Int → SpT) (se : Int → Int) (al : Int → Nat) (ta : Int → Int) (n pg : Int) (u fr to : Int) (ao : Nat) (fo : Int → Int64) (hh : 0 ≤ u ∧ u < n) (hn : 0 ≤ n ∧ n ≤ 24) (hpg : 1 ≤ pg ∧ pg ≤ 300) (hsp : SPV sp n pg) (hf : 1 ≤ fr ∧ fr ≤ to ∧ to ≤ pg) (hc : (spS (fun q => cov (sp u) q ∧ ¬ (fr ≤ q ∧ q ≤ to)) 0 pg.toNat).1 ≤ 8) (hAo : ∀ q, AO ad ao q → bs ≤ q) : Met l yL_takePages wsL_takePages ({ frames := 5, cells := 0, slots := 0, locals := 109 }) (CL E bs [.ref (ad 0), .int (iI u), .int (iI fr), .int (iI to), .ref (ao)] (LO E ad ao fo (CW E ad sp se al ta n pg))) (QW (some (.int (iI 0))) (LO E ad ao (upI fo 0 ((iI (smI (fun k => pI (cov (sp u) (k + 1))) pg.toNat - smI (fun k => pI ((fun q => cov (sp u) q ∧ ¬ (fr ≤ q ∧ q ≤ to)) (k + 1))) pg.toNat) : Int32).toInt64)) (CQ E ad se al n pg (fun i g => (i ≠ u → g = sp i) ∧ (i = u → VL g pg ∧ ∀ q, cov g q ↔ (fun q => cov (sp u) q ∧ ¬ (fr ≤ q ∧ q ≤ to)) q)))) (AO ad ao)) 0 0 (AO ad ao) := by
  refine g_metW (cc := cL_takePages) (maxL := 6) (ret := (some .int)) (hh := [(0, 12, 15, 19), (0, 12, 19, 21), (0, 12, 23, 13)]) (lv := [(0, .ref (ad 0)), (1, .int (iI u)), (2, .int (iI fr)), (3, .int (iI to)), (4, .ref (ao))]) (by decide) rfl (Nat.le_of_ble_eq_true rfl) rfl ?_
  intro xp xe xs xm xa xb xh xc S xK xX xN xt xr xlk
  refine g_aload S dL_takePages_0 4 rfl ?_
  refine g_iconst S dL_takePages_2 ?_
  refine g_aload_n S dL_takePages_3 rfl 0 rfl ?_
  refine g_iload_n S dL_takePages_4 rfl 1 rfl ?_
  refine g_iload_n S dL_takePages_5 rfl 2 rfl ?_
  refine g_iload_n S dL_takePages_6 rfl 3 rfl ?_
  refine g_callV S xK (As := [.int (iI u), .int (iI fr), .int (iI to)]) (st := [.int (iI 0), .ref (ao)]) (stk' := [.int (iI (smI (fun k => pI (cov (sp u) (k + 1))) pg.toNat - smI (fun k => pI ((fun q => cov (sp u) q ∧ ¬ (fr ≤ q ∧ q ≤ to)) (k + 1))) pg.toNat)), .int (iI 0), .ref (ao)]) (Wp' := LO E ad ao fo (CQ E ad se al n pg (fun i g => (i ≠ u → g = sp i) ∧ (i = u → VL g pg ∧ ∀ q, cov g q ↔ (fun q => cov (sp u) q ∧ ¬ (fr ≤ q ∧ q ≤ to)) q)))) (r := (RX1, TX1, 9)) (m_X1_takePages l E hj sp se al ta n pg u fr to hh hn hpg hsp hf hc) (cwV 3 S.2.2.2.2 gL_takePages_X1_takePages rfl rfl rfl (by decide +kernel) ⟨Nat.le_of_ble_eq_true rfl, Nat.le_of_ble_eq_true rfl⟩) rfl rfl rfl rfl (Nat.le_of_ble_eq_true rfl) ⟨Nat.le_of_ble_eq_true rfl, Nat.le_of_ble_eq_true rfl⟩ (fun _ q => Or.inl q) (fun _ h => cw_x h.2.1) (fun _ h => h.2.1) (fun _ _ h h2 _ hq => lo_call (fun _ q => q) h h2 hq) dL_takePages_7 ?_
  refine g_i2l S dL_takePages_10 ?_
  refine g_last S xK (Wp' := LO E ad ao (upI fo 0 (((iI (smI (fun k => pI (cov (sp u) (k + 1))) pg.toNat - smI (fun k => pI ((fun q => cov (sp u) q ∧ ¬ (fr ≤ q ∧ q ≤ to)) (k + 1))) pg.toNat)) : Int32).toInt64)) (CQ E ad se al n pg (fun i g => (i ≠ u → g = sp i) ∧ (i = u → VL g pg ∧ ∀ q, cov g q ↔ (fun q => cov (sp u) q ∧ ¬ (fr ≤ q ∧ q ≤ to)) q)))) (n := 1) (fun _ h => h.2.2) (by decide) (by decide) (Or.inr rfl) (fun _ _ h hv _ oq => lo_put (fun q h => cq_kept h q) h hv oq) dL_takePages_11 ?_
  refine g_goto S (tgt := 27) dL_takePages_12 (by decide) ?_
  refine g_iconst S dL_takePages_27 ?_
  exact g_iret S xr xlk dL_takePages_28 (fun _ h => h)
set_option maxHeartbeats 4000000 in
set_option maxRecDepth 100000 in
theorem m_L_takePagesX (l : Launch) (hlt : l.stackTraces = false) (E : EN) (bs : Nat) {ad : Int → Nat} (hj : INJ ad) (sp : Int → SpT) (se : Int → Int) (al : Int → Nat) (ta : Int → Int) (n pg : Int) (u fr to : Int) (ao : Nat) (fo : Int → Int64) (hh : u < 0 ∨ n ≤ u) (hr : -2147483648 ≤ u ∧ u ≤ 2147483647) (hn : 0 ≤ n ∧ n ≤ 24) (hAo : ∀ q, AO ad ao q → bs ≤ q) : Met l yL_takePages wsL_takePages ({ frames := 8, cells := 1, slots := 6, locals := 128 }) (CL E bs [.ref (ad 0), .int (iI u), .int (iI fr), .int (iI to), .ref (ao)] (LO E ad ao fo (CW E ad sp se al ta n pg))) (QW (some (.int (iI 1))) (LO E ad ao fo (CW E ad sp se al ta n pg)) (AO ad ao)) 1 6 (AO ad ao) := by
  refine g_metW (cc := cL_takePages) (maxL := 6) (ret := (some .int)) (hh := [(0, 12, 15, 19), (0, 12, 19, 21), (0, 12, 23, 13)]) (lv := [(0, .ref (ad 0)), (1, .int (iI u)), (2, .int (iI fr)), (3, .int (iI to)), (4, .ref (ao))]) (by decide) rfl (Nat.le_of_ble_eq_true rfl) rfl ?_
  intro xp xe xs xm xa xb xh xc S xK xX xN xt xr xlk
  have kx19 := S.2.2.2.2 (.classLink RL 19 "java/lang/IndexOutOfBoundsException") (by decide +kernel)
  refine g_aload S dL_takePages_0 4 rfl ?_
  refine g_iconst S dL_takePages_2 ?_
  refine g_aload_n S dL_takePages_3 rfl 0 rfl ?_
  refine g_iload_n S dL_takePages_4 rfl 1 rfl ?_
  refine g_iload_n S dL_takePages_5 rfl 2 rfl ?_
  refine g_iload_n S dL_takePages_6 rfl 3 rfl ?_
  refine g_callVC S xK xX (Wp' := LO E ad ao fo (CW E ad sp se al ta n pg)) (As := [.int (iI u), .int (iI fr), .int (iI to)]) (st := [.int (iI 0), .ref (ao)]) (r := (RX1, TX1, 9)) (m_X1_takePagesX l hlt E bs hj sp se al ta n pg u fr to hh hr hn) (cwV 3 S.2.2.2.2 gL_takePages_X1_takePages rfl rfl rfl (by decide +kernel) ⟨Nat.le_of_ble_eq_true rfl, Nat.le_of_ble_eq_true rfl⟩) rfl rfl rfl (Nat.le_of_ble_eq_true rfl) ⟨Nat.le_of_ble_eq_true rfl, Nat.le_of_ble_eq_true rfl⟩ (fun _ q => q.elim) hAo (fun _ h => cw_x h.2.1) (fun _ h => h.2.1) (fun _ _ h h2 _ hq => lo_call (fun _ q => q.elim) h h2 hq) dL_takePages_7 [] ⟨0, 12, 15, 19⟩ [⟨0, 12, 19, 21⟩, ⟨0, 12, 23, 13⟩] xt (fun z hz => by cases hz) rfl (by decide) kx19 (by decide) (fun xq => ?_)
  refine g_astore S (lv' := [(5, .ref (xq)), (0, .ref (ad 0)), (1, .int (iI u)), (2, .int (iI fr)), (3, .int (iI to)), (4, .ref (ao))]) dL_takePages_15 (Nat.le_of_ble_eq_true rfl) rfl ?_
  refine g_iconst S dL_takePages_17 ?_
  exact g_iret S xr xlk dL_takePages_18 (fun _ h => h)
set_option maxHeartbeats 4000000 in
set_option maxRecDepth 100000 in
theorem m_L_takePagesY (l : Launch) (hlt : l.stackTraces = false) (E : EN) (bs : Nat) {ad : Int → Nat} (hj : INJ ad) (sp : Int → SpT) (se : Int → Int) (al : Int → Nat) (ta : Int → Int) (n pg : Int) (u fr to : Int) (ao : Nat) (fo : Int → Int64) (hh : 0 ≤ u ∧ u < n) (hn : 0 ≤ n ∧ n ≤ 24) (hpg : 1 ≤ pg ∧ pg ≤ 300) (hf : fr < 1 ∨ to < fr ∨ pg < to) (hr : -2147483648 ≤ fr ∧ fr ≤ 2147483647 ∧ -2147483648 ≤ to ∧ to ≤ 2147483647) (hAo : ∀ q, AO ad ao q → bs ≤ q) : Met l yL_takePages wsL_takePages ({ frames := 8, cells := 1, slots := 6, locals := 129 }) (CL E bs [.ref (ad 0), .int (iI u), .int (iI fr), .int (iI to), .ref (ao)] (LO E ad ao fo (CW E ad sp se al ta n pg))) (QW (some (.int (iI 2))) (LO E ad ao fo (CW E ad sp se al ta n pg)) (AO ad ao)) 1 6 (AO ad ao) := by
  refine g_metW (cc := cL_takePages) (maxL := 6) (ret := (some .int)) (hh := [(0, 12, 15, 19), (0, 12, 19, 21), (0, 12, 23, 13)]) (lv := [(0, .ref (ad 0)), (1, .int (iI u)), (2, .int (iI fr)), (3, .int (iI to)), (4, .ref (ao))]) (by decide) rfl (Nat.le_of_ble_eq_true rfl) rfl ?_
  intro xp xe xs xm xa xb xh xc S xK xX xN xt xr xlk
  have kx19 := S.2.2.2.2 (.classLink RL 19 "java/lang/IndexOutOfBoundsException") (by decide +kernel)
  have kx21 := S.2.2.2.2 (.classLink RL 21 "java/lang/IllegalArgumentException") (by decide +kernel)
  refine g_aload S dL_takePages_0 4 rfl ?_
  refine g_iconst S dL_takePages_2 ?_
  refine g_aload_n S dL_takePages_3 rfl 0 rfl ?_
  refine g_iload_n S dL_takePages_4 rfl 1 rfl ?_
  refine g_iload_n S dL_takePages_5 rfl 2 rfl ?_
  refine g_iload_n S dL_takePages_6 rfl 3 rfl ?_
  refine g_callVC S xK xX (Wp' := LO E ad ao fo (CW E ad sp se al ta n pg)) (As := [.int (iI u), .int (iI fr), .int (iI to)]) (st := [.int (iI 0), .ref (ao)]) (r := (RX1, TX1, 9)) (m_X1_takePagesY l hlt E bs hj sp se al ta n pg u fr to hh hn hpg hf hr) (cwV 3 S.2.2.2.2 gL_takePages_X1_takePages rfl rfl rfl (by decide +kernel) ⟨Nat.le_of_ble_eq_true rfl, Nat.le_of_ble_eq_true rfl⟩) rfl rfl rfl (Nat.le_of_ble_eq_true rfl) ⟨Nat.le_of_ble_eq_true rfl, Nat.le_of_ble_eq_true rfl⟩ (fun _ q => q.elim) hAo (fun _ h => cw_x h.2.1) (fun _ h => h.2.1) (fun _ _ h h2 _ hq => lo_call (fun _ q => q.elim) h h2 hq) dL_takePages_7 [⟨0, 12, 15, 19⟩] ⟨0, 12, 19, 21⟩ [⟨0, 12, 23, 13⟩] xt (fun z hz => by rw [List.mem_singleton.mp hz]; exact ⟨by decide, "java/lang/IndexOutOfBoundsException", kx19, xN.1⟩) rfl (by decide) kx21 (by decide) (fun xq => ?_)
  refine g_astore S (lv' := [(5, .ref (xq)), (0, .ref (ad 0)), (1, .int (iI u)), (2, .int (iI fr)), (3, .int (iI to)), (4, .ref (ao))]) dL_takePages_19 (Nat.le_of_ble_eq_true rfl) rfl ?_
  refine g_iconst S dL_takePages_21 ?_
  exact g_iret S xr xlk dL_takePages_22 (fun _ h => h)
set_option maxHeartbeats 4000000 in
set_option maxRecDepth 100000 in
theorem m_L_takePagesR (l : Launch) (hlt : l.stackTraces = false) (E : EN) (bs : Nat) {ad : Int → Nat} (hj : INJ ad) (sp : Int → SpT) (se : Int → Int) (al : Int → Nat) (ta : Int → Int) (n pg : Int) (u fr to : Int) (ao : Nat) (fo : Int → Int64) (hh : 0 ≤ u ∧ u < n) (hn : 0 ≤ n ∧ n ≤ 24) (hpg : 1 ≤ pg ∧ pg ≤ 300) (hsp : SPV sp n pg) (hf : 1 ≤ fr ∧ fr ≤ to ∧ to ≤ pg) (hc : 8 < (spS (fun q => cov (sp u) q ∧ ¬ (fr ≤ q ∧ q ≤ to)) 0 pg.toNat).1) (hAo : ∀ q, AO ad ao q → bs ≤ q) : Met l yL_takePages wsL_takePages ({ frames := 8, cells := 1, slots := 6, locals := 127 }) (CL E bs [.ref (ad 0), .int (iI u), .int (iI fr), .int (iI to), .ref (ao)] (LO E ad ao fo (CW E ad sp se al ta n pg))) (QW (some (.int (iI 3))) (LO E ad ao fo (CQ E ad se al n pg (fun i g => g = sp i))) (AO ad ao)) 1 6 (AO ad ao) := by
  refine g_metW (cc := cL_takePages) (maxL := 6) (ret := (some .int)) (hh := [(0, 12, 15, 19), (0, 12, 19, 21), (0, 12, 23, 13)]) (lv := [(0, .ref (ad 0)), (1, .int (iI u)), (2, .int (iI fr)), (3, .int (iI to)), (4, .ref (ao))]) (by decide) rfl (Nat.le_of_ble_eq_true rfl) rfl ?_
  intro xp xe xs xm xa xb xh xc S xK xX xN xt xr xlk
  have kx19 := S.2.2.2.2 (.classLink RL 19 "java/lang/IndexOutOfBoundsException") (by decide +kernel)
  have kx21 := S.2.2.2.2 (.classLink RL 21 "java/lang/IllegalArgumentException") (by decide +kernel)
  have kx13 := S.2.2.2.2 (.classLink RL 13 "java/lang/IllegalStateException") (by decide +kernel)
  refine g_aload S dL_takePages_0 4 rfl ?_
  refine g_iconst S dL_takePages_2 ?_
  refine g_aload_n S dL_takePages_3 rfl 0 rfl ?_
  refine g_iload_n S dL_takePages_4 rfl 1 rfl ?_
  refine g_iload_n S dL_takePages_5 rfl 2 rfl ?_
  refine g_iload_n S dL_takePages_6 rfl 3 rfl ?_
  refine g_callVC S xK xX (Wp' := LO E ad ao fo (CQ E ad se al n pg (fun i g => g = sp i))) (As := [.int (iI u), .int (iI fr), .int (iI to)]) (st := [.int (iI 0), .ref (ao)]) (r := (RX1, TX1, 9)) (m_X1_takePagesR l hlt E bs hj sp se al ta n pg u fr to hh hn hpg hsp hf hc (fun q z => hAo q (Or.inl z))) (cwV 3 S.2.2.2.2 gL_takePages_X1_takePages rfl rfl rfl (by decide +kernel) ⟨Nat.le_of_ble_eq_true rfl, Nat.le_of_ble_eq_true rfl⟩) rfl rfl rfl (Nat.le_of_ble_eq_true rfl) ⟨Nat.le_of_ble_eq_true rfl, Nat.le_of_ble_eq_true rfl⟩ (fun _ q => Or.inl q) hAo (fun _ h => cw_x h.2.1) (fun _ h => h.2.1) (fun _ _ h h2 _ hq => lo_call (fun _ q => q) h h2 hq) dL_takePages_7 [⟨0, 12, 15, 19⟩, ⟨0, 12, 19, 21⟩] ⟨0, 12, 23, 13⟩ [] xt (fun z hz => by rcases List.mem_cons.mp hz with rfl | hz; (· exact ⟨by decide, "java/lang/IndexOutOfBoundsException", kx19, xN.2.1⟩); (· rw [List.mem_singleton.mp hz]; exact ⟨by decide, "java/lang/IllegalArgumentException", kx21, xN.2.2⟩)) rfl (by decide) kx13 (by decide) (fun xq => ?_)
  refine g_astore S (lv' := [(5, .ref (xq)), (0, .ref (ad 0)), (1, .int (iI u)), (2, .int (iI fr)), (3, .int (iI to)), (4, .ref (ao))]) dL_takePages_23 (Nat.le_of_ble_eq_true rfl) rfl ?_
  refine g_iconst S dL_takePages_25 ?_
  exact g_iret S xr xlk dL_takePages_26 (fun _ h => h)
set_option maxHeartbeats 4000000 in
set_option maxRecDepth 100000 in
theorem m_L_setSee (l : Launch) (hlt : l.stackTraces = false) (E : EN) (bs : Nat) {ad : Int → Nat} (hj : INJ ad) (sp : Int → SpT) (se : Int → Int) (al : Int → Nat) (ta : Int → Int) (n pg : Int) (u o : Int) (ao : Nat) (fo : Int → Int64) (hh : 0 ≤ u ∧ u < n) (hn : 0 ≤ n ∧ n ≤ 24) (hsp : SPV sp n pg) (ho : o = -1 ∨ (0 ≤ o ∧ o < n ∧ o ≠ u ∧ (sp u).1 = 0)) (hAo : ∀ q, AO ad ao q → bs ≤ q) : Met l yL_setSee wsL_setSee ({ frames := 4, cells := 0, slots := 0, locals := 87 }) (CL E bs [.ref (ad 0), .int (iI u), .int (iI o), .ref (ao)] (LO E ad ao fo (CW E ad sp se al ta n pg))) (QW (some (.int (iI 0))) (LO E ad ao (upI fo 0 ((iI (se u) : Int32).toInt64)) (CW E ad sp (upI se u o) al ta n pg)) (AO ad ao)) 0 0 (AO ad ao) := by
  refine g_metW (cc := cL_setSee) (maxL := 5) (ret := (some .int)) (hh := [(0, 10, 13, 19), (0, 10, 17, 21), (0, 10, 21, 13)]) (lv := [(0, .ref (ad 0)), (1, .int (iI u)), (2, .int (iI o)), (3, .ref (ao))]) (by decide) rfl (Nat.le_of_ble_eq_true rfl) rfl ?_
  intro xp xe xs xm xa xb xh xc S xK xX xN xt xr xlk
  refine g_aload_n S dL_setSee_0 rfl 3 rfl ?_
  refine g_iconst S dL_setSee_1 ?_
  refine g_aload_n S dL_setSee_2 rfl 0 rfl ?_
  refine g_iload_n S dL_setSee_3 rfl 1 rfl ?_
  refine g_iload_n S dL_setSee_4 rfl 2 rfl ?_
  refine g_callV S xK (As := [.int (iI u), .int (iI o)]) (st := [.int (iI 0), .ref (ao)]) (stk' := [.int (iI (se u)), .int (iI 0), .ref (ao)]) (Wp' := LO E ad ao fo (CW E ad sp (upI se u o) al ta n pg)) (r := (RX1, TX1, 9)) (m_X1_setSee l E hj sp se al ta n pg u o hh hn hsp ho) (cwV 2 S.2.2.2.2 gL_setSee_X1_setSee rfl rfl rfl (by decide +kernel) ⟨Nat.le_of_ble_eq_true rfl, Nat.le_of_ble_eq_true rfl⟩) rfl rfl rfl rfl (Nat.le_of_ble_eq_true rfl) ⟨Nat.le_of_ble_eq_true rfl, Nat.le_of_ble_eq_true rfl⟩ (fun _ q => Or.inl q) (fun _ h => cw_x h.2.1) (fun _ h => h.2.1) (fun _ _ h h2 _ hq => lo_call (fun _ q => q) h h2 hq) dL_setSee_5 ?_
  refine g_i2l S dL_setSee_8 ?_
  refine g_last S xK (Wp' := LO E ad ao (upI fo 0 (((iI (se u)) : Int32).toInt64)) (CW E ad sp (upI se u o) al ta n pg)) (n := 1) (fun _ h => h.2.2) (by decide) (by decide) (Or.inr rfl) (fun _ _ h hv _ oq => lo_put (fun q h => cw_kept h q) h hv oq) dL_setSee_9 ?_
  refine g_goto S (tgt := 25) dL_setSee_10 (by decide) ?_
  refine g_iconst S dL_setSee_25 ?_
  exact g_iret S xr xlk dL_setSee_26 (fun _ h => h)
set_option maxHeartbeats 4000000 in
set_option maxRecDepth 100000 in
theorem m_L_setSeeX (l : Launch) (hlt : l.stackTraces = false) (E : EN) (bs : Nat) {ad : Int → Nat} (hj : INJ ad) (sp : Int → SpT) (se : Int → Int) (al : Int → Nat) (ta : Int → Int) (n pg : Int) (u o : Int) (ao : Nat) (fo : Int → Int64) (hh : u < 0 ∨ n ≤ u) (hr : -2147483648 ≤ u ∧ u ≤ 2147483647) (hn : 0 ≤ n ∧ n ≤ 24) (hAo : ∀ q, AO ad ao q → bs ≤ q) : Met l yL_setSee wsL_setSee ({ frames := 8, cells := 1, slots := 6, locals := 126 }) (CL E bs [.ref (ad 0), .int (iI u), .int (iI o), .ref (ao)] (LO E ad ao fo (CW E ad sp se al ta n pg))) (QW (some (.int (iI 1))) (LO E ad ao fo (CW E ad sp se al ta n pg)) (AO ad ao)) 1 6 (AO ad ao) := by
  refine g_metW (cc := cL_setSee) (maxL := 5) (ret := (some .int)) (hh := [(0, 10, 13, 19), (0, 10, 17, 21), (0, 10, 21, 13)]) (lv := [(0, .ref (ad 0)), (1, .int (iI u)), (2, .int (iI o)), (3, .ref (ao))]) (by decide) rfl (Nat.le_of_ble_eq_true rfl) rfl ?_
  intro xp xe xs xm xa xb xh xc S xK xX xN xt xr xlk
  have kx19 := S.2.2.2.2 (.classLink RL 19 "java/lang/IndexOutOfBoundsException") (by decide +kernel)
  refine g_aload_n S dL_setSee_0 rfl 3 rfl ?_
  refine g_iconst S dL_setSee_1 ?_
  refine g_aload_n S dL_setSee_2 rfl 0 rfl ?_
  refine g_iload_n S dL_setSee_3 rfl 1 rfl ?_
  refine g_iload_n S dL_setSee_4 rfl 2 rfl ?_
  refine g_callVC S xK xX (Wp' := LO E ad ao fo (CW E ad sp se al ta n pg)) (As := [.int (iI u), .int (iI o)]) (st := [.int (iI 0), .ref (ao)]) (r := (RX1, TX1, 9)) (m_X1_setSeeX l hlt E bs hj sp se al ta n pg u o hh hr hn) (cwV 2 S.2.2.2.2 gL_setSee_X1_setSee rfl rfl rfl (by decide +kernel) ⟨Nat.le_of_ble_eq_true rfl, Nat.le_of_ble_eq_true rfl⟩) rfl rfl rfl (Nat.le_of_ble_eq_true rfl) ⟨Nat.le_of_ble_eq_true rfl, Nat.le_of_ble_eq_true rfl⟩ (fun _ q => q.elim) hAo (fun _ h => cw_x h.2.1) (fun _ h => h.2.1) (fun _ _ h h2 _ hq => lo_call (fun _ q => q.elim) h h2 hq) dL_setSee_5 [] ⟨0, 10, 13, 19⟩ [⟨0, 10, 17, 21⟩, ⟨0, 10, 21, 13⟩] xt (fun z hz => by cases hz) rfl (by decide) kx19 (by decide) (fun xq => ?_)
  refine g_astore S (lv' := [(4, .ref (xq)), (0, .ref (ad 0)), (1, .int (iI u)), (2, .int (iI o)), (3, .ref (ao))]) dL_setSee_13 (Nat.le_of_ble_eq_true rfl) rfl ?_
  refine g_iconst S dL_setSee_15 ?_
  exact g_iret S xr xlk dL_setSee_16 (fun _ h => h)
set_option maxHeartbeats 4000000 in
set_option maxRecDepth 100000 in
theorem m_L_setSeeY (l : Launch) (hlt : l.stackTraces = false) (E : EN) (bs : Nat) {ad : Int → Nat} (hj : INJ ad) (sp : Int → SpT) (se : Int → Int) (al : Int → Nat) (ta : Int → Int) (n pg : Int) (u o : Int) (ao : Nat) (fo : Int → Int64) (hh : 0 ≤ u ∧ u < n) (hn : 0 ≤ n ∧ n ≤ 24) (ho : o < -1 ∨ n ≤ o) (hr : -2147483648 ≤ o ∧ o ≤ 2147483647) (hAo : ∀ q, AO ad ao q → bs ≤ q) : Met l yL_setSee wsL_setSee ({ frames := 8, cells := 1, slots := 6, locals := 126 }) (CL E bs [.ref (ad 0), .int (iI u), .int (iI o), .ref (ao)] (LO E ad ao fo (CW E ad sp se al ta n pg))) (QW (some (.int (iI 1))) (LO E ad ao fo (CW E ad sp se al ta n pg)) (AO ad ao)) 1 6 (AO ad ao) := by
  refine g_metW (cc := cL_setSee) (maxL := 5) (ret := (some .int)) (hh := [(0, 10, 13, 19), (0, 10, 17, 21), (0, 10, 21, 13)]) (lv := [(0, .ref (ad 0)), (1, .int (iI u)), (2, .int (iI o)), (3, .ref (ao))]) (by decide) rfl (Nat.le_of_ble_eq_true rfl) rfl ?_
  intro xp xe xs xm xa xb xh xc S xK xX xN xt xr xlk
  have kx19 := S.2.2.2.2 (.classLink RL 19 "java/lang/IndexOutOfBoundsException") (by decide +kernel)
  refine g_aload_n S dL_setSee_0 rfl 3 rfl ?_
  refine g_iconst S dL_setSee_1 ?_
  refine g_aload_n S dL_setSee_2 rfl 0 rfl ?_
  refine g_iload_n S dL_setSee_3 rfl 1 rfl ?_
  refine g_iload_n S dL_setSee_4 rfl 2 rfl ?_
  refine g_callVC S xK xX (Wp' := LO E ad ao fo (CW E ad sp se al ta n pg)) (As := [.int (iI u), .int (iI o)]) (st := [.int (iI 0), .ref (ao)]) (r := (RX1, TX1, 9)) (m_X1_setSeeY l hlt E bs hj sp se al ta n pg u o hh hn ho hr) (cwV 2 S.2.2.2.2 gL_setSee_X1_setSee rfl rfl rfl (by decide +kernel) ⟨Nat.le_of_ble_eq_true rfl, Nat.le_of_ble_eq_true rfl⟩) rfl rfl rfl (Nat.le_of_ble_eq_true rfl) ⟨Nat.le_of_ble_eq_true rfl, Nat.le_of_ble_eq_true rfl⟩ (fun _ q => q.elim) hAo (fun _ h => cw_x h.2.1) (fun _ h => h.2.1) (fun _ _ h h2 _ hq => lo_call (fun _ q => q.elim) h h2 hq) dL_setSee_5 [] ⟨0, 10, 13, 19⟩ [⟨0, 10, 17, 21⟩, ⟨0, 10, 21, 13⟩] xt (fun z hz => by cases hz) rfl (by decide) kx19 (by decide) (fun xq => ?_)
  refine g_astore S (lv' := [(4, .ref (xq)), (0, .ref (ad 0)), (1, .int (iI u)), (2, .int (iI o)), (3, .ref (ao))]) dL_setSee_13 (Nat.le_of_ble_eq_true rfl) rfl ?_
  refine g_iconst S dL_setSee_15 ?_
  exact g_iret S xr xlk dL_setSee_16 (fun _ h => h)
set_option maxHeartbeats 4000000 in
set_option maxRecDepth 100000 in
theorem m_L_setSeeZ (l : Launch) (hlt : l.stackTraces = false) (E : EN) (bs : Nat) {ad : Int → Nat} (hj : INJ ad) (sp : Int → SpT) (se : Int → Int) (al : Int → Nat) (ta : Int → Int) (n pg : Int) (u o : Int) (ao : Nat) (fo : Int → Int64) (hh : 0 ≤ u ∧ u < n) (hn : 0 ≤ n ∧ n ≤ 24) (ho : o = u) (hAo : ∀ q, AO ad ao q → bs ≤ q) : Met l yL_setSee wsL_setSee ({ frames := 8, cells := 1, slots := 6, locals := 127 }) (CL E bs [.ref (ad 0), .int (iI u), .int (iI o), .ref (ao)] (LO E ad ao fo (CW E ad sp se al ta n pg))) (QW (some (.int (iI 2))) (LO E ad ao fo (CW E ad sp se al ta n pg)) (AO ad ao)) 1 6 (AO ad ao) := by
  refine g_metW (cc := cL_setSee) (maxL := 5) (ret := (some .int)) (hh := [(0, 10, 13, 19), (0, 10, 17, 21), (0, 10, 21, 13)]) (lv := [(0, .ref (ad 0)), (1, .int (iI u)), (2, .int (iI o)), (3, .ref (ao))]) (by decide) rfl (Nat.le_of_ble_eq_true rfl) rfl ?_
  intro xp xe xs xm xa xb xh xc S xK xX xN xt xr xlk
  have kx19 := S.2.2.2.2 (.classLink RL 19 "java/lang/IndexOutOfBoundsException") (by decide +kernel)
  have kx21 := S.2.2.2.2 (.classLink RL 21 "java/lang/IllegalArgumentException") (by decide +kernel)
  refine g_aload_n S dL_setSee_0 rfl 3 rfl ?_
  refine g_iconst S dL_setSee_1 ?_
  refine g_aload_n S dL_setSee_2 rfl 0 rfl ?_
  refine g_iload_n S dL_setSee_3 rfl 1 rfl ?_
  refine g_iload_n S dL_setSee_4 rfl 2 rfl ?_
  refine g_callVC S xK xX (Wp' := LO E ad ao fo (CW E ad sp se al ta n pg)) (As := [.int (iI u), .int (iI o)]) (st := [.int (iI 0), .ref (ao)]) (r := (RX1, TX1, 9)) (m_X1_setSeeZ l hlt E bs hj sp se al ta n pg u o hh hn ho) (cwV 2 S.2.2.2.2 gL_setSee_X1_setSee rfl rfl rfl (by decide +kernel) ⟨Nat.le_of_ble_eq_true rfl, Nat.le_of_ble_eq_true rfl⟩) rfl rfl rfl (Nat.le_of_ble_eq_true rfl) ⟨Nat.le_of_ble_eq_true rfl, Nat.le_of_ble_eq_true rfl⟩ (fun _ q => q.elim) hAo (fun _ h => cw_x h.2.1) (fun _ h => h.2.1) (fun _ _ h h2 _ hq => lo_call (fun _ q => q.elim) h h2 hq) dL_setSee_5 [⟨0, 10, 13, 19⟩] ⟨0, 10, 17, 21⟩ [⟨0, 10, 21, 13⟩] xt (fun z hz => by rw [List.mem_singleton.mp hz]; exact ⟨by decide, "java/lang/IndexOutOfBoundsException", kx19, xN.1⟩) rfl (by decide) kx21 (by decide) (fun xq => ?_)
  refine g_astore S (lv' := [(4, .ref (xq)), (0, .ref (ad 0)), (1, .int (iI u)), (2, .int (iI o)), (3, .ref (ao))]) dL_setSee_17 (Nat.le_of_ble_eq_true rfl) rfl ?_
  refine g_iconst S dL_setSee_19 ?_
  exact g_iret S xr xlk dL_setSee_20 (fun _ h => h)
set_option maxHeartbeats 4000000 in
set_option maxRecDepth 100000 in
theorem m_L_setSeeR (l : Launch) (hlt : l.stackTraces = false) (E : EN) (bs : Nat) {ad : Int → Nat} (hj : INJ ad) (sp : Int → SpT) (se : Int → Int) (al : Int → Nat) (ta : Int → Int) (n pg : Int) (u o : Int) (ao : Nat) (fo : Int → Int64) (hh : 0 ≤ u ∧ u < n) (hn : 0 ≤ n ∧ n ≤ 24) (hsp : SPV sp n pg) (ho : 0 ≤ o ∧ o < n ∧ o ≠ u) (hc : (sp u).1 ≠ 0) (hAo : ∀ q, AO ad ao q → bs ≤ q) : Met l yL_setSee wsL_setSee ({ frames := 8, cells := 1, slots := 6, locals := 126 }) (CL E bs [.ref (ad 0), .int (iI u), .int (iI o), .ref (ao)] (LO E ad ao fo (CW E ad sp se al ta n pg))) (QW (some (.int (iI 3))) (LO E ad ao fo (CW E ad sp se al ta n pg)) (AO ad ao)) 1 6 (AO ad ao) := by
  refine g_metW (cc := cL_setSee) (maxL := 5) (ret := (some .int)) (hh := [(0, 10, 13, 19), (0, 10, 17, 21), (0, 10, 21, 13)]) (lv := [(0, .ref (ad 0)), (1, .int (iI u)), (2, .int (iI o)), (3, .ref (ao))]) (by decide) rfl (Nat.le_of_ble_eq_true rfl) rfl ?_
  intro xp xe xs xm xa xb xh xc S xK xX xN xt xr xlk
  have kx19 := S.2.2.2.2 (.classLink RL 19 "java/lang/IndexOutOfBoundsException") (by decide +kernel)
  have kx21 := S.2.2.2.2 (.classLink RL 21 "java/lang/IllegalArgumentException") (by decide +kernel)
  have kx13 := S.2.2.2.2 (.classLink RL 13 "java/lang/IllegalStateException") (by decide +kernel)
  refine g_aload_n S dL_setSee_0 rfl 3 rfl ?_
  refine g_iconst S dL_setSee_1 ?_
  refine g_aload_n S dL_setSee_2 rfl 0 rfl ?_
  refine g_iload_n S dL_setSee_3 rfl 1 rfl ?_
  refine g_iload_n S dL_setSee_4 rfl 2 rfl ?_
  refine g_callVC S xK xX (Wp' := LO E ad ao fo (CW E ad sp se al ta n pg)) (As := [.int (iI u), .int (iI o)]) (st := [.int (iI 0), .ref (ao)]) (r := (RX1, TX1, 9)) (m_X1_setSeeR l hlt E bs hj sp se al ta n pg u o hh hn hsp ho hc) (cwV 2 S.2.2.2.2 gL_setSee_X1_setSee rfl rfl rfl (by decide +kernel) ⟨Nat.le_of_ble_eq_true rfl, Nat.le_of_ble_eq_true rfl⟩) rfl rfl rfl (Nat.le_of_ble_eq_true rfl) ⟨Nat.le_of_ble_eq_true rfl, Nat.le_of_ble_eq_true rfl⟩ (fun _ q => q.elim) hAo (fun _ h => cw_x h.2.1) (fun _ h => h.2.1) (fun _ _ h h2 _ hq => lo_call (fun _ q => q.elim) h h2 hq) dL_setSee_5 [⟨0, 10, 13, 19⟩, ⟨0, 10, 17, 21⟩] ⟨0, 10, 21, 13⟩ [] xt (fun z hz => by rcases List.mem_cons.mp hz with rfl | hz; (· exact ⟨by decide, "java/lang/IndexOutOfBoundsException", kx19, xN.2.1⟩); (· rw [List.mem_singleton.mp hz]; exact ⟨by decide, "java/lang/IllegalArgumentException", kx21, xN.2.2⟩)) rfl (by decide) kx13 (by decide) (fun xq => ?_)
  refine g_astore S (lv' := [(4, .ref (xq)), (0, .ref (ad 0)), (1, .int (iI u)), (2, .int (iI o)), (3, .ref (ao))]) dL_setSee_21 (Nat.le_of_ble_eq_true rfl) rfl ?_
  refine g_iconst S dL_setSee_23 ?_
  exact g_iret S xr xlk dL_setSee_24 (fun _ h => h)
set_option maxHeartbeats 4000000 in
set_option maxRecDepth 100000 in
theorem m_L_turnSeeAlso (l : Launch) (hlt : l.stackTraces = false) (E : EN) (bs : Nat) {ad : Int → Nat} (hj : INJ ad) (sp : Int → SpT) (se : Int → Int) (al : Int → Nat) (ta : Int → Int) (n pg : Int) (u o : Int) (ao : Nat) (fo : Int → Int64) (hh : 0 ≤ u ∧ u < n) (hn : 0 ≤ n ∧ n ≤ 24) (hgr : GR se al n) (ho : 0 ≤ o ∧ o < n ∧ o ≠ u) (hc : pop (al u ^^^ 2 ^ o.toNat) 24 ≤ 4) (hAo : ∀ q, AO ad ao q → bs ≤ q) : Met l yL_turnSeeAlso wsL_turnSeeAlso ({ frames := 3, cells := 0, slots := 0, locals := 65 }) (CL E bs [.ref (ad 0), .int (iI u), .int (iI o), .ref (ao)] (LO E ad ao fo (CW E ad sp se al ta n pg))) (QW (some (.int (iI 0))) (LO E ad ao (upI fo 0 ((iI ((pop (al u ^^^ 2 ^ o.toNat) 24 : Nat) : Int) : Int32).toInt64)) (CW E ad sp se (upI al u (al u ^^^ 2 ^ o.toNat)) ta n pg)) (AO ad ao)) 0 0 (AO ad ao) := by
  refine g_metW (cc := cL_turnSeeAlso) (maxL := 5) (ret := (some .int)) (hh := [(0, 10, 13, 19), (0, 10, 17, 21), (0, 10, 21, 13)]) (lv := [(0, .ref (ad 0)), (1, .int (iI u)), (2, .int (iI o)), (3, .ref (ao))]) (by decide) rfl (Nat.le_of_ble_eq_true rfl) rfl ?_
  intro xp xe xs xm xa xb xh xc S xK xX xN xt xr xlk
  refine g_aload_n S dL_turnSeeAlso_0 rfl 3 rfl ?_
  refine g_iconst S dL_turnSeeAlso_1 ?_
  refine g_aload_n S dL_turnSeeAlso_2 rfl 0 rfl ?_
  refine g_iload_n S dL_turnSeeAlso_3 rfl 1 rfl ?_
  refine g_iload_n S dL_turnSeeAlso_4 rfl 2 rfl ?_
  refine g_callV S xK (As := [.int (iI u), .int (iI o)]) (st := [.int (iI 0), .ref (ao)]) (stk' := [.int (iI ((pop (al u ^^^ 2 ^ o.toNat) 24 : Nat) : Int)), .int (iI 0), .ref (ao)]) (Wp' := LO E ad ao fo (CW E ad sp se (upI al u (al u ^^^ 2 ^ o.toNat)) ta n pg)) (r := (RX1, TX1, 9)) (m_X1_turnSeeAlso l E hj sp se al ta n pg u o hh hn hgr ho hc) (cwV 2 S.2.2.2.2 gL_turnSeeAlso_X1_turnSeeAlso rfl rfl rfl (by decide +kernel) ⟨Nat.le_of_ble_eq_true rfl, Nat.le_of_ble_eq_true rfl⟩) rfl rfl rfl rfl (Nat.le_of_ble_eq_true rfl) ⟨Nat.le_of_ble_eq_true rfl, Nat.le_of_ble_eq_true rfl⟩ (fun _ q => Or.inl q) (fun _ h => cw_x h.2.1) (fun _ h => h.2.1) (fun _ _ h h2 _ hq => lo_call (fun _ q => q) h h2 hq) dL_turnSeeAlso_5 ?_
  refine g_i2l S dL_turnSeeAlso_8 ?_
  refine g_last S xK (Wp' := LO E ad ao (upI fo 0 (((iI ((pop (al u ^^^ 2 ^ o.toNat) 24 : Nat) : Int)) : Int32).toInt64)) (CW E ad sp se (upI al u (al u ^^^ 2 ^ o.toNat)) ta n pg)) (n := 1) (fun _ h => h.2.2) (by decide) (by decide) (Or.inr rfl) (fun _ _ h hv _ oq => lo_put (fun q h => cw_kept h q) h hv oq) dL_turnSeeAlso_9 ?_
  refine g_goto S (tgt := 25) dL_turnSeeAlso_10 (by decide) ?_
  refine g_iconst S dL_turnSeeAlso_25 ?_
  exact g_iret S xr xlk dL_turnSeeAlso_26 (fun _ h => h)
set_option maxHeartbeats 4000000 in
set_option maxRecDepth 100000 in
theorem m_L_turnSeeAlsoX (l : Launch) (hlt : l.stackTraces = false) (E : EN) (bs : Nat) {ad : Int → Nat} (hj : INJ ad) (sp : Int → SpT) (se : Int → Int) (al : Int → Nat) (ta : Int → Int) (n pg : Int) (u o : Int) (ao : Nat) (fo : Int → Int64) (hh : u < 0 ∨ n ≤ u) (hr : -2147483648 ≤ u ∧ u ≤ 2147483647) (hn : 0 ≤ n ∧ n ≤ 24) (hAo : ∀ q, AO ad ao q → bs ≤ q) : Met l yL_turnSeeAlso wsL_turnSeeAlso ({ frames := 8, cells := 1, slots := 6, locals := 126 }) (CL E bs [.ref (ad 0), .int (iI u), .int (iI o), .ref (ao)] (LO E ad ao fo (CW E ad sp se al ta n pg))) (QW (some (.int (iI 1))) (LO E ad ao fo (CW E ad sp se al ta n pg)) (AO ad ao)) 1 6 (AO ad ao) := by
  refine g_metW (cc := cL_turnSeeAlso) (maxL := 5) (ret := (some .int)) (hh := [(0, 10, 13, 19), (0, 10, 17, 21), (0, 10, 21, 13)]) (lv := [(0, .ref (ad 0)), (1, .int (iI u)), (2, .int (iI o)), (3, .ref (ao))]) (by decide) rfl (Nat.le_of_ble_eq_true rfl) rfl ?_
  intro xp xe xs xm xa xb xh xc S xK xX xN xt xr xlk
  have kx19 := S.2.2.2.2 (.classLink RL 19 "java/lang/IndexOutOfBoundsException") (by decide +kernel)
  refine g_aload_n S dL_turnSeeAlso_0 rfl 3 rfl ?_
  refine g_iconst S dL_turnSeeAlso_1 ?_
  refine g_aload_n S dL_turnSeeAlso_2 rfl 0 rfl ?_
  refine g_iload_n S dL_turnSeeAlso_3 rfl 1 rfl ?_
  refine g_iload_n S dL_turnSeeAlso_4 rfl 2 rfl ?_
  refine g_callVC S xK xX (Wp' := LO E ad ao fo (CW E ad sp se al ta n pg)) (As := [.int (iI u), .int (iI o)]) (st := [.int (iI 0), .ref (ao)]) (r := (RX1, TX1, 9)) (m_X1_turnSeeAlsoX l hlt E bs hj sp se al ta n pg u o hh hr hn) (cwV 2 S.2.2.2.2 gL_turnSeeAlso_X1_turnSeeAlso rfl rfl rfl (by decide +kernel) ⟨Nat.le_of_ble_eq_true rfl, Nat.le_of_ble_eq_true rfl⟩) rfl rfl rfl (Nat.le_of_ble_eq_true rfl) ⟨Nat.le_of_ble_eq_true rfl, Nat.le_of_ble_eq_true rfl⟩ (fun _ q => q.elim) hAo (fun _ h => cw_x h.2.1) (fun _ h => h.2.1) (fun _ _ h h2 _ hq => lo_call (fun _ q => q.elim) h h2 hq) dL_turnSeeAlso_5 [] ⟨0, 10, 13, 19⟩ [⟨0, 10, 17, 21⟩, ⟨0, 10, 21, 13⟩] xt (fun z hz => by cases hz) rfl (by decide) kx19 (by decide) (fun xq => ?_)
  refine g_astore S (lv' := [(4, .ref (xq)), (0, .ref (ad 0)), (1, .int (iI u)), (2, .int (iI o)), (3, .ref (ao))]) dL_turnSeeAlso_13 (Nat.le_of_ble_eq_true rfl) rfl ?_
  refine g_iconst S dL_turnSeeAlso_15 ?_
  exact g_iret S xr xlk dL_turnSeeAlso_16 (fun _ h => h)
set_option maxHeartbeats 4000000 in
set_option maxRecDepth 100000 in
theorem m_L_turnSeeAlsoY (l : Launch) (hlt : l.stackTraces = false) (E : EN) (bs : Nat) {ad : Int → Nat} (hj : INJ ad) (sp : Int → SpT) (se : Int → Int) (al : Int → Nat) (ta : Int → Int) (n pg : Int) (u o : Int) (ao : Nat) (fo : Int → Int64) (hh : 0 ≤ u ∧ u < n) (hn : 0 ≤ n ∧ n ≤ 24) (ho : o < 0 ∨ n ≤ o) (hr : -2147483648 ≤ o ∧ o ≤ 2147483647) (hAo : ∀ q, AO ad ao q → bs ≤ q) : Met l yL_turnSeeAlso wsL_turnSeeAlso ({ frames := 8, cells := 1, slots := 6, locals := 126 }) (CL E bs [.ref (ad 0), .int (iI u), .int (iI o), .ref (ao)] (LO E ad ao fo (CW E ad sp se al ta n pg))) (QW (some (.int (iI 1))) (LO E ad ao fo (CW E ad sp se al ta n pg)) (AO ad ao)) 1 6 (AO ad ao) := by
  refine g_metW (cc := cL_turnSeeAlso) (maxL := 5) (ret := (some .int)) (hh := [(0, 10, 13, 19), (0, 10, 17, 21), (0, 10, 21, 13)]) (lv := [(0, .ref (ad 0)), (1, .int (iI u)), (2, .int (iI o)), (3, .ref (ao))]) (by decide) rfl (Nat.le_of_ble_eq_true rfl) rfl ?_
  intro xp xe xs xm xa xb xh xc S xK xX xN xt xr xlk
  have kx19 := S.2.2.2.2 (.classLink RL 19 "java/lang/IndexOutOfBoundsException") (by decide +kernel)
  refine g_aload_n S dL_turnSeeAlso_0 rfl 3 rfl ?_
  refine g_iconst S dL_turnSeeAlso_1 ?_
  refine g_aload_n S dL_turnSeeAlso_2 rfl 0 rfl ?_
  refine g_iload_n S dL_turnSeeAlso_3 rfl 1 rfl ?_
  refine g_iload_n S dL_turnSeeAlso_4 rfl 2 rfl ?_
  refine g_callVC S xK xX (Wp' := LO E ad ao fo (CW E ad sp se al ta n pg)) (As := [.int (iI u), .int (iI o)]) (st := [.int (iI 0), .ref (ao)]) (r := (RX1, TX1, 9)) (m_X1_turnSeeAlsoY l hlt E bs hj sp se al ta n pg u o hh hn ho hr) (cwV 2 S.2.2.2.2 gL_turnSeeAlso_X1_turnSeeAlso rfl rfl rfl (by decide +kernel) ⟨Nat.le_of_ble_eq_true rfl, Nat.le_of_ble_eq_true rfl⟩) rfl rfl rfl (Nat.le_of_ble_eq_true rfl) ⟨Nat.le_of_ble_eq_true rfl, Nat.le_of_ble_eq_true rfl⟩ (fun _ q => q.elim) hAo (fun _ h => cw_x h.2.1) (fun _ h => h.2.1) (fun _ _ h h2 _ hq => lo_call (fun _ q => q.elim) h h2 hq) dL_turnSeeAlso_5 [] ⟨0, 10, 13, 19⟩ [⟨0, 10, 17, 21⟩, ⟨0, 10, 21, 13⟩] xt (fun z hz => by cases hz) rfl (by decide) kx19 (by decide) (fun xq => ?_)
  refine g_astore S (lv' := [(4, .ref (xq)), (0, .ref (ad 0)), (1, .int (iI u)), (2, .int (iI o)), (3, .ref (ao))]) dL_turnSeeAlso_13 (Nat.le_of_ble_eq_true rfl) rfl ?_
  refine g_iconst S dL_turnSeeAlso_15 ?_
  exact g_iret S xr xlk dL_turnSeeAlso_16 (fun _ h => h)
set_option maxHeartbeats 4000000 in
set_option maxRecDepth 100000 in
theorem m_L_turnSeeAlsoZ (l : Launch) (hlt : l.stackTraces = false) (E : EN) (bs : Nat) {ad : Int → Nat} (hj : INJ ad) (sp : Int → SpT) (se : Int → Int) (al : Int → Nat) (ta : Int → Int) (n pg : Int) (u o : Int) (ao : Nat) (fo : Int → Int64) (hh : 0 ≤ u ∧ u < n) (hn : 0 ≤ n ∧ n ≤ 24) (ho : o = u) (hAo : ∀ q, AO ad ao q → bs ≤ q) : Met l yL_turnSeeAlso wsL_turnSeeAlso ({ frames := 8, cells := 1, slots := 6, locals := 127 }) (CL E bs [.ref (ad 0), .int (iI u), .int (iI o), .ref (ao)] (LO E ad ao fo (CW E ad sp se al ta n pg))) (QW (some (.int (iI 2))) (LO E ad ao fo (CW E ad sp se al ta n pg)) (AO ad ao)) 1 6 (AO ad ao) := by
  refine g_metW (cc := cL_turnSeeAlso) (maxL := 5) (ret := (some .int)) (hh := [(0, 10, 13, 19), (0, 10, 17, 21), (0, 10, 21, 13)]) (lv := [(0, .ref (ad 0)), (1, .int (iI u)), (2, .int (iI o)), (3, .ref (ao))]) (by decide) rfl (Nat.le_of_ble_eq_true rfl) rfl ?_
  intro xp xe xs xm xa xb xh xc S xK xX xN xt xr xlk
  have kx19 := S.2.2.2.2 (.classLink RL 19 "java/lang/IndexOutOfBoundsException") (by decide +kernel)
  have kx21 := S.2.2.2.2 (.classLink RL 21 "java/lang/IllegalArgumentException") (by decide +kernel)
  refine g_aload_n S dL_turnSeeAlso_0 rfl 3 rfl ?_
  refine g_iconst S dL_turnSeeAlso_1 ?_
  refine g_aload_n S dL_turnSeeAlso_2 rfl 0 rfl ?_
  refine g_iload_n S dL_turnSeeAlso_3 rfl 1 rfl ?_
  refine g_iload_n S dL_turnSeeAlso_4 rfl 2 rfl ?_
  refine g_callVC S xK xX (Wp' := LO E ad ao fo (CW E ad sp se al ta n pg)) (As := [.int (iI u), .int (iI o)]) (st := [.int (iI 0), .ref (ao)]) (r := (RX1, TX1, 9)) (m_X1_turnSeeAlsoZ l hlt E bs hj sp se al ta n pg u o hh hn ho) (cwV 2 S.2.2.2.2 gL_turnSeeAlso_X1_turnSeeAlso rfl rfl rfl (by decide +kernel) ⟨Nat.le_of_ble_eq_true rfl, Nat.le_of_ble_eq_true rfl⟩) rfl rfl rfl (Nat.le_of_ble_eq_true rfl) ⟨Nat.le_of_ble_eq_true rfl, Nat.le_of_ble_eq_true rfl⟩ (fun _ q => q.elim) hAo (fun _ h => cw_x h.2.1) (fun _ h => h.2.1) (fun _ _ h h2 _ hq => lo_call (fun _ q => q.elim) h h2 hq) dL_turnSeeAlso_5 [⟨0, 10, 13, 19⟩] ⟨0, 10, 17, 21⟩ [⟨0, 10, 21, 13⟩] xt (fun z hz => by rw [List.mem_singleton.mp hz]; exact ⟨by decide, "java/lang/IndexOutOfBoundsException", kx19, xN.1⟩) rfl (by decide) kx21 (by decide) (fun xq => ?_)
  refine g_astore S (lv' := [(4, .ref (xq)), (0, .ref (ad 0)), (1, .int (iI u)), (2, .int (iI o)), (3, .ref (ao))]) dL_turnSeeAlso_17 (Nat.le_of_ble_eq_true rfl) rfl ?_
  refine g_iconst S dL_turnSeeAlso_19 ?_
  exact g_iret S xr xlk dL_turnSeeAlso_20 (fun _ h => h)
set_option maxHeartbeats 4000000 in
set_option maxRecDepth 100000 in
theorem m_L_turnSeeAlsoR (l : Launch) (hlt : l.stackTraces = false) (E : EN) (bs : Nat) {ad : Int → Nat} (hj : INJ ad) (sp : Int → SpT) (se : Int → Int) (al : Int → Nat) (ta : Int → Int) (n pg : Int) (u o : Int) (ao : Nat) (fo : Int → Int64) (hh : 0 ≤ u ∧ u < n) (hn : 0 ≤ n ∧ n ≤ 24) (hgr : GR se al n) (ho : 0 ≤ o ∧ o < n ∧ o ≠ u) (hc : 4 < pop (al u ^^^ 2 ^ o.toNat) 24) (hAo : ∀ q, AO ad ao q → bs ≤ q) : Met l yL_turnSeeAlso wsL_turnSeeAlso ({ frames := 7, cells := 1, slots := 6, locals := 105 }) (CL E bs [.ref (ad 0), .int (iI u), .int (iI o), .ref (ao)] (LO E ad ao fo (CW E ad sp se al ta n pg))) (QW (some (.int (iI 3))) (LO E ad ao fo (CW E ad sp se al ta n pg)) (AO ad ao)) 1 6 (AO ad ao) := by
  refine g_metW (cc := cL_turnSeeAlso) (maxL := 5) (ret := (some .int)) (hh := [(0, 10, 13, 19), (0, 10, 17, 21), (0, 10, 21, 13)]) (lv := [(0, .ref (ad 0)), (1, .int (iI u)), (2, .int (iI o)), (3, .ref (ao))]) (by decide) rfl (Nat.le_of_ble_eq_true rfl) rfl ?_
  intro xp xe xs xm xa xb xh xc S xK xX xN xt xr xlk
  have kx19 := S.2.2.2.2 (.classLink RL 19 "java/lang/IndexOutOfBoundsException") (by decide +kernel)
  have kx21 := S.2.2.2.2 (.classLink RL 21 "java/lang/IllegalArgumentException") (by decide +kernel)
  have kx13 := S.2.2.2.2 (.classLink RL 13 "java/lang/IllegalStateException") (by decide +kernel)
  refine g_aload_n S dL_turnSeeAlso_0 rfl 3 rfl ?_
  refine g_iconst S dL_turnSeeAlso_1 ?_
  refine g_aload_n S dL_turnSeeAlso_2 rfl 0 rfl ?_
  refine g_iload_n S dL_turnSeeAlso_3 rfl 1 rfl ?_
  refine g_iload_n S dL_turnSeeAlso_4 rfl 2 rfl ?_
  refine g_callVC S xK xX (Wp' := LO E ad ao fo (CW E ad sp se al ta n pg)) (As := [.int (iI u), .int (iI o)]) (st := [.int (iI 0), .ref (ao)]) (r := (RX1, TX1, 9)) (m_X1_turnSeeAlsoR l hlt E bs hj sp se al ta n pg u o hh hn hgr ho hc) (cwV 2 S.2.2.2.2 gL_turnSeeAlso_X1_turnSeeAlso rfl rfl rfl (by decide +kernel) ⟨Nat.le_of_ble_eq_true rfl, Nat.le_of_ble_eq_true rfl⟩) rfl rfl rfl (Nat.le_of_ble_eq_true rfl) ⟨Nat.le_of_ble_eq_true rfl, Nat.le_of_ble_eq_true rfl⟩ (fun _ q => q.elim) hAo (fun _ h => cw_x h.2.1) (fun _ h => h.2.1) (fun _ _ h h2 _ hq => lo_call (fun _ q => q.elim) h h2 hq) dL_turnSeeAlso_5 [⟨0, 10, 13, 19⟩, ⟨0, 10, 17, 21⟩] ⟨0, 10, 21, 13⟩ [] xt (fun z hz => by rcases List.mem_cons.mp hz with rfl | hz; (· exact ⟨by decide, "java/lang/IndexOutOfBoundsException", kx19, xN.2.1⟩); (· rw [List.mem_singleton.mp hz]; exact ⟨by decide, "java/lang/IllegalArgumentException", kx21, xN.2.2⟩)) rfl (by decide) kx13 (by decide) (fun xq => ?_)
  refine g_astore S (lv' := [(4, .ref (xq)), (0, .ref (ad 0)), (1, .int (iI u)), (2, .int (iI o)), (3, .ref (ao))]) dL_turnSeeAlso_21 (Nat.le_of_ble_eq_true rfl) rfl ?_
  refine g_iconst S dL_turnSeeAlso_23 ?_
  exact g_iret S xr xlk dL_turnSeeAlso_24 (fun _ h => h)
set_option maxHeartbeats 4000000 in
set_option maxRecDepth 100000 in
theorem m_L_putIn (l : Launch) (hlt : l.stackTraces = false) (E : EN) (bs : Nat) {ad : Int → Nat} (hj : INJ ad) (sp : Int → SpT) (se : Int → Int) (al : Int → Nat) (ta : Int → Int) (n pg : Int) (q mn : Int) (ao : Nat) (fo : Int → Int64) (hn : 0 ≤ n ∧ n ≤ 24) (hpg : 1 ≤ pg ∧ pg ≤ 300) (hsp : SPV sp n pg) (hq : 1 ≤ q ∧ q ≤ pg + 1 ∧ 1 ≤ mn ∧ mn ≤ 100 ∧ pg + mn ≤ 300) (hAo : ∀ q, AO ad ao q → bs ≤ q) : Met l yL_putIn wsL_putIn ({ frames := 3, cells := 0, slots := 0, locals := 66 }) (CL E bs [.ref (ad 0), .int (iI q), .int (iI mn), .ref (ao)] (LO E ad ao fo (CW E ad sp se al ta n pg))) (QW (some (.int (iI 0))) (LO E ad ao (upI fo 0 ((iI (pg + mn) : Int32).toInt64)) (CQ E ad se al n (pg + mn) (fun i g => (i < n → g = mvd (sp i) q mn (sp i).1) ∧ (n ≤ i → g = sp i)))) (AO ad ao)) 0 0 (AO ad ao) := by
  refine g_metW (cc := cL_putIn) (maxL := 5) (ret := (some .int)) (hh := [(0, 10, 13, 21), (0, 10, 17, 13)]) (lv := [(0, .ref (ad 0)), (1, .int (iI q)), (2, .int (iI mn)), (3, .ref (ao))]) (by decide) rfl (Nat.le_of_ble_eq_true rfl) rfl ?_
  intro xp xe xs xm xa xb xh xc S xK xX xN xt xr xlk
  refine g_aload_n S dL_putIn_0 rfl 3 rfl ?_
  refine g_iconst S dL_putIn_1 ?_
  refine g_aload_n S dL_putIn_2 rfl 0 rfl ?_
  refine g_iload_n S dL_putIn_3 rfl 1 rfl ?_
  refine g_iload_n S dL_putIn_4 rfl 2 rfl ?_
  refine g_callV S xK (As := [.int (iI q), .int (iI mn)]) (st := [.int (iI 0), .ref (ao)]) (stk' := [.int (iI (pg + mn)), .int (iI 0), .ref (ao)]) (Wp' := LO E ad ao fo (CQ E ad se al n (pg + mn) (fun i g => (i < n → g = mvd (sp i) q mn (sp i).1) ∧ (n ≤ i → g = sp i)))) (r := (RX1, TX1, 9)) (m_X1_putIn l E hj sp se al ta n pg q mn hn hpg hsp hq) (cwV 2 S.2.2.2.2 gL_putIn_X1_putIn rfl rfl rfl (by decide +kernel) ⟨Nat.le_of_ble_eq_true rfl, Nat.le_of_ble_eq_true rfl⟩) rfl rfl rfl rfl (Nat.le_of_ble_eq_true rfl) ⟨Nat.le_of_ble_eq_true rfl, Nat.le_of_ble_eq_true rfl⟩ (fun _ q => Or.inl q) (fun _ h => cw_x h.2.1) (fun _ h => h.2.1) (fun _ _ h h2 _ hq => lo_call (fun _ q => q) h h2 hq) dL_putIn_5 ?_
  refine g_i2l S dL_putIn_8 ?_
  refine g_last S xK (Wp' := LO E ad ao (upI fo 0 (((iI (pg + mn)) : Int32).toInt64)) (CQ E ad se al n (pg + mn) (fun i g => (i < n → g = mvd (sp i) q mn (sp i).1) ∧ (n ≤ i → g = sp i)))) (n := 1) (fun _ h => h.2.2) (by decide) (by decide) (Or.inr rfl) (fun _ _ h hv _ oq => lo_put (fun q h => cq_kept h q) h hv oq) dL_putIn_9 ?_
  refine g_goto S (tgt := 21) dL_putIn_10 (by decide) ?_
  refine g_iconst S dL_putIn_21 ?_
  exact g_iret S xr xlk dL_putIn_22 (fun _ h => h)
set_option maxHeartbeats 4000000 in
set_option maxRecDepth 100000 in
theorem m_L_putInX (l : Launch) (hlt : l.stackTraces = false) (E : EN) (bs : Nat) {ad : Int → Nat} (hj : INJ ad) (sp : Int → SpT) (se : Int → Int) (al : Int → Nat) (ta : Int → Int) (n pg : Int) (q mn : Int) (ao : Nat) (fo : Int → Int64) (hpg : 1 ≤ pg ∧ pg ≤ 300) (hq : q < 1 ∨ pg + 1 < q ∨ mn < 1 ∨ 100 < mn) (hr : -2147483648 ≤ q ∧ q ≤ 2147483647 ∧ -2147483648 ≤ mn ∧ mn ≤ 2147483647) (hAo : ∀ q, AO ad ao q → bs ≤ q) : Met l yL_putIn wsL_putIn ({ frames := 7, cells := 1, slots := 6, locals := 105 }) (CL E bs [.ref (ad 0), .int (iI q), .int (iI mn), .ref (ao)] (LO E ad ao fo (CW E ad sp se al ta n pg))) (QW (some (.int (iI 1))) (LO E ad ao fo (CW E ad sp se al ta n pg)) (AO ad ao)) 1 6 (AO ad ao) := by
  refine g_metW (cc := cL_putIn) (maxL := 5) (ret := (some .int)) (hh := [(0, 10, 13, 21), (0, 10, 17, 13)]) (lv := [(0, .ref (ad 0)), (1, .int (iI q)), (2, .int (iI mn)), (3, .ref (ao))]) (by decide) rfl (Nat.le_of_ble_eq_true rfl) rfl ?_
  intro xp xe xs xm xa xb xh xc S xK xX xN xt xr xlk
  have kx21 := S.2.2.2.2 (.classLink RL 21 "java/lang/IllegalArgumentException") (by decide +kernel)
  refine g_aload_n S dL_putIn_0 rfl 3 rfl ?_
  refine g_iconst S dL_putIn_1 ?_
  refine g_aload_n S dL_putIn_2 rfl 0 rfl ?_
  refine g_iload_n S dL_putIn_3 rfl 1 rfl ?_
  refine g_iload_n S dL_putIn_4 rfl 2 rfl ?_
  refine g_callVC S xK xX (Wp' := LO E ad ao fo (CW E ad sp se al ta n pg)) (As := [.int (iI q), .int (iI mn)]) (st := [.int (iI 0), .ref (ao)]) (r := (RX1, TX1, 9)) (m_X1_putInX l hlt E bs hj sp se al ta n pg q mn hpg hq hr) (cwV 2 S.2.2.2.2 gL_putIn_X1_putIn rfl rfl rfl (by decide +kernel) ⟨Nat.le_of_ble_eq_true rfl, Nat.le_of_ble_eq_true rfl⟩) rfl rfl rfl (Nat.le_of_ble_eq_true rfl) ⟨Nat.le_of_ble_eq_true rfl, Nat.le_of_ble_eq_true rfl⟩ (fun _ q => q.elim) hAo (fun _ h => cw_x h.2.1) (fun _ h => h.2.1) (fun _ _ h h2 _ hq => lo_call (fun _ q => q.elim) h h2 hq) dL_putIn_5 [] ⟨0, 10, 13, 21⟩ [⟨0, 10, 17, 13⟩] xt (fun z hz => by cases hz) rfl (by decide) kx21 (by decide) (fun xq => ?_)
  refine g_astore S (lv' := [(4, .ref (xq)), (0, .ref (ad 0)), (1, .int (iI q)), (2, .int (iI mn)), (3, .ref (ao))]) dL_putIn_13 (Nat.le_of_ble_eq_true rfl) rfl ?_
  refine g_iconst S dL_putIn_15 ?_
  exact g_iret S xr xlk dL_putIn_16 (fun _ h => h)
set_option maxHeartbeats 4000000 in
set_option maxRecDepth 100000 in
theorem m_L_putInY (l : Launch) (hlt : l.stackTraces = false) (E : EN) (bs : Nat) {ad : Int → Nat} (hj : INJ ad) (sp : Int → SpT) (se : Int → Int) (al : Int → Nat) (ta : Int → Int) (n pg : Int) (q mn : Int) (ao : Nat) (fo : Int → Int64) (hpg : 1 ≤ pg ∧ pg ≤ 300) (hq : 1 ≤ q ∧ q ≤ pg + 1 ∧ 1 ≤ mn ∧ mn ≤ 100 ∧ 300 < pg + mn) (hAo : ∀ q, AO ad ao q → bs ≤ q) : Met l yL_putIn wsL_putIn ({ frames := 7, cells := 1, slots := 6, locals := 105 }) (CL E bs [.ref (ad 0), .int (iI q), .int (iI mn), .ref (ao)] (LO E ad ao fo (CW E ad sp se al ta n pg))) (QW (some (.int (iI 2))) (LO E ad ao fo (CW E ad sp se al ta n pg)) (AO ad ao)) 1 6 (AO ad ao) := by
  refine g_metW (cc := cL_putIn) (maxL := 5) (ret := (some .int)) (hh := [(0, 10, 13, 21), (0, 10, 17, 13)]) (lv := [(0, .ref (ad 0)), (1, .int (iI q)), (2, .int (iI mn)), (3, .ref (ao))]) (by decide) rfl (Nat.le_of_ble_eq_true rfl) rfl ?_
  intro xp xe xs xm xa xb xh xc S xK xX xN xt xr xlk
  have kx21 := S.2.2.2.2 (.classLink RL 21 "java/lang/IllegalArgumentException") (by decide +kernel)
  have kx13 := S.2.2.2.2 (.classLink RL 13 "java/lang/IllegalStateException") (by decide +kernel)
  refine g_aload_n S dL_putIn_0 rfl 3 rfl ?_
  refine g_iconst S dL_putIn_1 ?_
  refine g_aload_n S dL_putIn_2 rfl 0 rfl ?_
  refine g_iload_n S dL_putIn_3 rfl 1 rfl ?_
  refine g_iload_n S dL_putIn_4 rfl 2 rfl ?_
  refine g_callVC S xK xX (Wp' := LO E ad ao fo (CW E ad sp se al ta n pg)) (As := [.int (iI q), .int (iI mn)]) (st := [.int (iI 0), .ref (ao)]) (r := (RX1, TX1, 9)) (m_X1_putInY l hlt E bs hj sp se al ta n pg q mn hpg hq) (cwV 2 S.2.2.2.2 gL_putIn_X1_putIn rfl rfl rfl (by decide +kernel) ⟨Nat.le_of_ble_eq_true rfl, Nat.le_of_ble_eq_true rfl⟩) rfl rfl rfl (Nat.le_of_ble_eq_true rfl) ⟨Nat.le_of_ble_eq_true rfl, Nat.le_of_ble_eq_true rfl⟩ (fun _ q => q.elim) hAo (fun _ h => cw_x h.2.1) (fun _ h => h.2.1) (fun _ _ h h2 _ hq => lo_call (fun _ q => q.elim) h h2 hq) dL_putIn_5 [⟨0, 10, 13, 21⟩] ⟨0, 10, 17, 13⟩ [] xt (fun z hz => by rw [List.mem_singleton.mp hz]; exact ⟨by decide, "java/lang/IllegalArgumentException", kx21, xN.2.2⟩) rfl (by decide) kx13 (by decide) (fun xq => ?_)
  refine g_astore S (lv' := [(4, .ref (xq)), (0, .ref (ad 0)), (1, .int (iI q)), (2, .int (iI mn)), (3, .ref (ao))]) dL_putIn_17 (Nat.le_of_ble_eq_true rfl) rfl ?_
  refine g_iconst S dL_putIn_19 ?_
  exact g_iret S xr xlk dL_putIn_20 (fun _ h => h)
set_option maxHeartbeats 4000000 in
set_option maxRecDepth 100000 in
theorem m_L_takeOut (l : Launch) (hlt : l.stackTraces = false) (E : EN) (bs : Nat) {ad : Int → Nat} (hj : INJ ad) (sp : Int → SpT) (se : Int → Int) (al : Int → Nat) (ta : Int → Int) (n pg : Int) (q : Int) (ao : Nat) (fo : Int → Int64) (hn : 0 ≤ n ∧ n ≤ 24) (hpg : 1 ≤ pg ∧ pg ≤ 300) (hsp : SPV sp n pg) (hq : 1 ≤ q ∧ q ≤ pg ∧ 1 < pg) (hAo : ∀ q, AO ad ao q → bs ≤ q) : Met l yL_takeOut wsL_takeOut ({ frames := 5, cells := 0, slots := 0, locals := 109 }) (CL E bs [.ref (ad 0), .int (iI q), .ref (ao)] (LO E ad ao fo (CW E ad sp se al ta n pg))) (QW (some (.int (iI 0))) (LO E ad ao (upI fo 0 ((iI (CHN sp n q) : Int32).toInt64)) (CQ E ad se al n (pg - 1) (fun i g => (i < n → VL g (pg - 1) ∧ g.1 ≤ 8 ∧ ∀ r, cov g r ↔ cov (sp i) (if r < q then r else r + 1)) ∧ (n ≤ i → g = sp i)))) (AO ad ao)) 0 0 (AO ad ao) := by
  refine g_metW (cc := cL_takeOut) (maxL := 4) (ret := (some .int)) (hh := [(0, 9, 12, 21), (0, 9, 15, 13)]) (lv := [(0, .ref (ad 0)), (1, .int (iI q)), (2, .ref (ao))]) (by decide) rfl (Nat.le_of_ble_eq_true rfl) rfl ?_
  intro xp xe xs xm xa xb xh xc S xK xX xN xt xr xlk
  refine g_aload_n S dL_takeOut_0 rfl 2 rfl ?_
  refine g_iconst S dL_takeOut_1 ?_
  refine g_aload_n S dL_takeOut_2 rfl 0 rfl ?_
  refine g_iload_n S dL_takeOut_3 rfl 1 rfl ?_
  refine g_callV S xK (As := [.int (iI q)]) (st := [.int (iI 0), .ref (ao)]) (stk' := [.int (iI (CHN sp n q)), .int (iI 0), .ref (ao)]) (Wp' := LO E ad ao fo (CQ E ad se al n (pg - 1) (fun i g => (i < n → VL g (pg - 1) ∧ g.1 ≤ 8 ∧ ∀ r, cov g r ↔ cov (sp i) (if r < q then r else r + 1)) ∧ (n ≤ i → g = sp i)))) (r := (RX1, TX1, 9)) (m_X1_takeOut l E hj sp se al ta n pg q hn hpg hsp hq) (cwV 1 S.2.2.2.2 gL_takeOut_X1_takeOut rfl rfl rfl (by decide +kernel) ⟨Nat.le_of_ble_eq_true rfl, Nat.le_of_ble_eq_true rfl⟩) rfl rfl rfl rfl (Nat.le_of_ble_eq_true rfl) ⟨Nat.le_of_ble_eq_true rfl, Nat.le_of_ble_eq_true rfl⟩ (fun _ q => Or.inl q) (fun _ h => cw_x h.2.1) (fun _ h => h.2.1) (fun _ _ h h2 _ hq => lo_call (fun _ q => q) h h2 hq) dL_takeOut_4 ?_
  refine g_i2l S dL_takeOut_7 ?_
  refine g_last S xK (Wp' := LO E ad ao (upI fo 0 (((iI (CHN sp n q)) : Int32).toInt64)) (CQ E ad se al n (pg - 1) (fun i g => (i < n → VL g (pg - 1) ∧ g.1 ≤ 8 ∧ ∀ r, cov g r ↔ cov (sp i) (if r < q then r else r + 1)) ∧ (n ≤ i → g = sp i)))) (n := 1) (fun _ h => h.2.2) (by decide) (by decide) (Or.inr rfl) (fun _ _ h hv _ oq => lo_put (fun q h => cq_kept h q) h hv oq) dL_takeOut_8 ?_
  refine g_goto S (tgt := 18) dL_takeOut_9 (by decide) ?_
  refine g_iconst S dL_takeOut_18 ?_
  exact g_iret S xr xlk dL_takeOut_19 (fun _ h => h)
set_option maxHeartbeats 4000000 in
set_option maxRecDepth 100000 in
theorem m_L_takeOutX (l : Launch) (hlt : l.stackTraces = false) (E : EN) (bs : Nat) {ad : Int → Nat} (hj : INJ ad) (sp : Int → SpT) (se : Int → Int) (al : Int → Nat) (ta : Int → Int) (n pg : Int) (q : Int) (ao : Nat) (fo : Int → Int64) (hpg : 1 ≤ pg ∧ pg ≤ 300) (hq : q < 1 ∨ pg < q) (hr : -2147483648 ≤ q ∧ q ≤ 2147483647) (hAo : ∀ q, AO ad ao q → bs ≤ q) : Met l yL_takeOut wsL_takeOut ({ frames := 8, cells := 1, slots := 6, locals := 127 }) (CL E bs [.ref (ad 0), .int (iI q), .ref (ao)] (LO E ad ao fo (CW E ad sp se al ta n pg))) (QW (some (.int (iI 1))) (LO E ad ao fo (CW E ad sp se al ta n pg)) (AO ad ao)) 1 6 (AO ad ao) := by
  refine g_metW (cc := cL_takeOut) (maxL := 4) (ret := (some .int)) (hh := [(0, 9, 12, 21), (0, 9, 15, 13)]) (lv := [(0, .ref (ad 0)), (1, .int (iI q)), (2, .ref (ao))]) (by decide) rfl (Nat.le_of_ble_eq_true rfl) rfl ?_
  intro xp xe xs xm xa xb xh xc S xK xX xN xt xr xlk
  have kx21 := S.2.2.2.2 (.classLink RL 21 "java/lang/IllegalArgumentException") (by decide +kernel)
  refine g_aload_n S dL_takeOut_0 rfl 2 rfl ?_
  refine g_iconst S dL_takeOut_1 ?_
  refine g_aload_n S dL_takeOut_2 rfl 0 rfl ?_
  refine g_iload_n S dL_takeOut_3 rfl 1 rfl ?_
  refine g_callVC S xK xX (Wp' := LO E ad ao fo (CW E ad sp se al ta n pg)) (As := [.int (iI q)]) (st := [.int (iI 0), .ref (ao)]) (r := (RX1, TX1, 9)) (m_X1_takeOutX l hlt E bs hj sp se al ta n pg q hpg hq hr) (cwV 1 S.2.2.2.2 gL_takeOut_X1_takeOut rfl rfl rfl (by decide +kernel) ⟨Nat.le_of_ble_eq_true rfl, Nat.le_of_ble_eq_true rfl⟩) rfl rfl rfl (Nat.le_of_ble_eq_true rfl) ⟨Nat.le_of_ble_eq_true rfl, Nat.le_of_ble_eq_true rfl⟩ (fun _ q => q.elim) hAo (fun _ h => cw_x h.2.1) (fun _ h => h.2.1) (fun _ _ h h2 _ hq => lo_call (fun _ q => q.elim) h h2 hq) dL_takeOut_4 [] ⟨0, 9, 12, 21⟩ [⟨0, 9, 15, 13⟩] xt (fun z hz => by cases hz) rfl (by decide) kx21 (by decide) (fun xq => ?_)
  refine g_astore_n S (lv' := [(3, .ref (xq)), (0, .ref (ad 0)), (1, .int (iI q)), (2, .ref (ao))]) dL_takeOut_12 rfl (Nat.le_of_ble_eq_true rfl) rfl ?_
  refine g_iconst S dL_takeOut_13 ?_
  exact g_iret S xr xlk dL_takeOut_14 (fun _ h => h)
set_option maxHeartbeats 4000000 in
set_option maxRecDepth 100000 in
theorem m_L_takeOutY (l : Launch) (hlt : l.stackTraces = false) (E : EN) (bs : Nat) {ad : Int → Nat} (hj : INJ ad) (sp : Int → SpT) (se : Int → Int) (al : Int → Nat) (ta : Int → Int) (n pg : Int) (q : Int) (ao : Nat) (fo : Int → Int64) (hpg : 1 ≤ pg ∧ pg ≤ 300) (hq : q = 1 ∧ pg = 1) (hAo : ∀ q, AO ad ao q → bs ≤ q) : Met l yL_takeOut wsL_takeOut ({ frames := 7, cells := 1, slots := 6, locals := 106 }) (CL E bs [.ref (ad 0), .int (iI q), .ref (ao)] (LO E ad ao fo (CW E ad sp se al ta n pg))) (QW (some (.int (iI 2))) (LO E ad ao fo (CW E ad sp se al ta n pg)) (AO ad ao)) 1 6 (AO ad ao) := by
  refine g_metW (cc := cL_takeOut) (maxL := 4) (ret := (some .int)) (hh := [(0, 9, 12, 21), (0, 9, 15, 13)]) (lv := [(0, .ref (ad 0)), (1, .int (iI q)), (2, .ref (ao))]) (by decide) rfl (Nat.le_of_ble_eq_true rfl) rfl ?_
  intro xp xe xs xm xa xb xh xc S xK xX xN xt xr xlk
  have kx21 := S.2.2.2.2 (.classLink RL 21 "java/lang/IllegalArgumentException") (by decide +kernel)
  have kx13 := S.2.2.2.2 (.classLink RL 13 "java/lang/IllegalStateException") (by decide +kernel)
  refine g_aload_n S dL_takeOut_0 rfl 2 rfl ?_
  refine g_iconst S dL_takeOut_1 ?_
  refine g_aload_n S dL_takeOut_2 rfl 0 rfl ?_
  refine g_iload_n S dL_takeOut_3 rfl 1 rfl ?_
  refine g_callVC S xK xX (Wp' := LO E ad ao fo (CW E ad sp se al ta n pg)) (As := [.int (iI q)]) (st := [.int (iI 0), .ref (ao)]) (r := (RX1, TX1, 9)) (m_X1_takeOutY l hlt E bs hj sp se al ta n pg q hpg hq) (cwV 1 S.2.2.2.2 gL_takeOut_X1_takeOut rfl rfl rfl (by decide +kernel) ⟨Nat.le_of_ble_eq_true rfl, Nat.le_of_ble_eq_true rfl⟩) rfl rfl rfl (Nat.le_of_ble_eq_true rfl) ⟨Nat.le_of_ble_eq_true rfl, Nat.le_of_ble_eq_true rfl⟩ (fun _ q => q.elim) hAo (fun _ h => cw_x h.2.1) (fun _ h => h.2.1) (fun _ _ h h2 _ hq => lo_call (fun _ q => q.elim) h h2 hq) dL_takeOut_4 [⟨0, 9, 12, 21⟩] ⟨0, 9, 15, 13⟩ [] xt (fun z hz => by rw [List.mem_singleton.mp hz]; exact ⟨by decide, "java/lang/IllegalArgumentException", kx21, xN.2.2⟩) rfl (by decide) kx13 (by decide) (fun xq => ?_)
  refine g_astore_n S (lv' := [(3, .ref (xq)), (0, .ref (ad 0)), (1, .int (iI q)), (2, .ref (ao))]) dL_takeOut_15 rfl (Nat.le_of_ble_eq_true rfl) rfl ?_
  refine g_iconst S dL_takeOut_16 ?_
  exact g_iret S xr xlk dL_takeOut_17 (fun _ h => h)
