set_option maxHeartbeats 4000000 in
set_option maxRecDepth 100000 in
theorem m_X2_isIn (l : Launch) (E : EN) {Wp : Heap → Prop} (v low high : Int) (hr : -2147483648 ≤ v ∧ v ≤ 2147483647 ∧ -2147483648 ≤ low ∧ low ≤ 2147483647 ∧ -2147483648 ≤ high ∧ high ≤ 2147483647) : Met l yX2_isIn wsX2_isIn ({ frames := 0, cells := 0, slots := 0, locals := 0 }) (CI E [.int (iI v), .int (iI low), .int (iI high)] (Wp)) (QW (some (.int (iI (pI (low ≤ v ∧ v ≤ high))))) (Wp) (fun _ => False)) 0 0 (fun _ => False) := by
  refine g_met (cc := cX2_isIn) (maxL := 3) (ret := (some .boolean)) (lv := [(0, .int (iI v)), (1, .int (iI low)), (2, .int (iI high))]) (by decide) rfl (Nat.le_of_ble_eq_true rfl) rfl ?_
  intro xp xe xs xm xa xb xh xc S xK xr xlk xin
  refine g_iload_n S dX2_isIn_0 rfl 0 rfl ?_
  refine g_iload_n S dX2_isIn_1 rfl 1 rfl ?_
  refine g_icmp_lt S (tgt := 14) dX2_isIn_2 (by decide) (by omega) (fun c2 => ?_) (fun c2 => ?_)
  · skip
    refine g_iconst S dX2_isIn_14 ?_
    rw [pI_f (P := low ≤ v ∧ v ≤ high) (fun z => by omega)]
    exact g_zret S xr xlk (Or.inl rfl) dX2_isIn_15 (fun _ h => h)
  · skip
    refine g_iload_n S dX2_isIn_5 rfl 0 rfl ?_
    refine g_iload_n S dX2_isIn_6 rfl 2 rfl ?_
    refine g_icmp_gt S (tgt := 14) dX2_isIn_7 (by decide) (by omega) (fun c7 => ?_) (fun c7 => ?_)
    · skip
      refine g_iconst S dX2_isIn_14 ?_
      rw [pI_f (P := low ≤ v ∧ v ≤ high) (fun z => by omega)]
      exact g_zret S xr xlk (Or.inl rfl) dX2_isIn_15 (fun _ h => h)
    · skip
      refine g_iconst S dX2_isIn_10 ?_
      refine g_goto S (tgt := 15) dX2_isIn_11 (by decide) ?_
      rw [pI_t (P := low ≤ v ∧ v ≤ high) ⟨by omega, by omega⟩]
      exact g_zret S xr xlk (Or.inr rfl) dX2_isIn_15 (fun _ h => h)
set_option maxHeartbeats 4000000 in
set_option maxRecDepth 100000 in
theorem m_X2_isHeading (l : Launch) (E : EN) {am : Int → Nat} (hj : INM am) (th pg n : Int) (on se : Int → Int) (al : Int → Nat) (h : Int) (hr : -2147483648 ≤ h ∧ h ≤ 2147483647) (hn : 0 ≤ n ∧ n ≤ 24) : Met l yX2_isHeading wsX2_isHeading ({ frames := 1, cells := 0, slots := 0, locals := 22 }) (CI E [.ref (am 0), .int (iI h)] (MW E am th pg n on se al)) (QW (some (.int (iI (pI (0 ≤ h ∧ h ≤ n - 1))))) (MW E am th pg n on se al) (fun _ => False)) 0 0 (fun _ => False) := by
  refine g_met (cc := cX2_isHeading) (maxL := 2) (ret := (some .boolean)) (lv := [(0, .ref (am 0)), (1, .int (iI h))]) (by decide) rfl (Nat.le_of_ble_eq_true rfl) rfl ?_
  intro xp xe xs xm xa xb xh xc S xK xr xlk xin
  have kf27 := S.2.2.2.2 (.fieldLink RX2 27 "BookIndexModel" "headings" "I") (by decide +kernel)
  have hin2 : ∀ w ∈ wsX20, w ∈ wsX2_isHeading := by decide +kernel
  refine g_iload_n S dX2_isHeading_0 rfl 1 rfl ?_
  refine g_iconst S dX2_isHeading_1 ?_
  refine g_aload_n S dX2_isHeading_2 rfl 0 rfl ?_
  refine g_get S xK (ref := "BookIndexModel") hin2 2 (by decide) (show vwCl[2]? = some (RX2, TX2, 6) from rfl) kf27 (fun _ h9 => h9) (fun _ h => mw_x h) rfl dX2_isHeading_3 ?_
  refine g_iconst S dX2_isHeading_6 ?_
  refine g_isub S dX2_isHeading_7 ?_
  refine g_callS S xK (As := [.int (iI h), .int (iI 0), .int (iI (n - 1))]) (st := []) (stk' := [.int (iI (pI (0 ≤ h ∧ h ≤ n - 1)))]) (Wp' := MW E am th pg n on se al) (m_X2_isIn l E (Wp := MW E am th pg n on se al) h 0 (n - 1) (by omega)) (cwS 3 S.2.2.2.2 gX2_isHeading_X2_isIn rfl rfl rfl (by decide +kernel) ⟨Nat.le_of_ble_eq_true rfl, Nat.le_of_ble_eq_true rfl⟩) rfl rfl rfl (Nat.le_of_ble_eq_true rfl) ⟨Nat.le_of_ble_eq_true rfl, Nat.le_of_ble_eq_true rfl⟩ (fun _ q => q.elim) (fun _ h => h) (fun _ _ _ h _ _ => h) dX2_isHeading_8 ?_
  exact g_zret S xr xlk (pI_01 _) dX2_isHeading_11 (fun _ h => h)
set_option maxHeartbeats 4000000 in
set_option maxRecDepth 100000 in
theorem m_X2_isPage (l : Launch) (E : EN) {am : Int → Nat} (hj : INM am) (th pg n : Int) (on se : Int → Int) (al : Int → Nat) (h : Int) (hr : -2147483648 ≤ h ∧ h ≤ 2147483647) (hpg : 1 ≤ pg ∧ pg ≤ 300) : Met l yX2_isPage wsX2_isPage ({ frames := 1, cells := 0, slots := 0, locals := 22 }) (CI E [.ref (am 0), .int (iI h)] (MW E am th pg n on se al)) (QW (some (.int (iI (pI (1 ≤ h ∧ h ≤ pg))))) (MW E am th pg n on se al) (fun _ => False)) 0 0 (fun _ => False) := by
  refine g_met (cc := cX2_isPage) (maxL := 2) (ret := (some .boolean)) (lv := [(0, .ref (am 0)), (1, .int (iI h))]) (by decide) rfl (Nat.le_of_ble_eq_true rfl) rfl ?_
  intro xp xe xs xm xa xb xh xc S xK xr xlk xin
  have kf9 := S.2.2.2.2 (.fieldLink RX2 9 "BookIndexModel" "pages" "I") (by decide +kernel)
  have hin2 : ∀ w ∈ wsX20, w ∈ wsX2_isPage := by decide +kernel
  refine g_iload_n S dX2_isPage_0 rfl 1 rfl ?_
  refine g_iconst S dX2_isPage_1 ?_
  refine g_aload_n S dX2_isPage_2 rfl 0 rfl ?_
  refine g_get S xK (ref := "BookIndexModel") hin2 1 (by decide) (show vwCl[2]? = some (RX2, TX2, 6) from rfl) kf9 (fun _ h9 => h9) (fun _ h => mw_x h) rfl dX2_isPage_3 ?_
  refine g_callS S xK (As := [.int (iI h), .int (iI 1), .int (iI pg)]) (st := []) (stk' := [.int (iI (pI (1 ≤ h ∧ h ≤ pg)))]) (Wp' := MW E am th pg n on se al) (m_X2_isIn l E (Wp := MW E am th pg n on se al) h 1 pg (by omega)) (cwS 3 S.2.2.2.2 gX2_isPage_X2_isIn rfl rfl rfl (by decide +kernel) ⟨Nat.le_of_ble_eq_true rfl, Nat.le_of_ble_eq_true rfl⟩) rfl rfl rfl (Nat.le_of_ble_eq_true rfl) ⟨Nat.le_of_ble_eq_true rfl, Nat.le_of_ble_eq_true rfl⟩ (fun _ q => q.elim) (fun _ h => h) (fun _ _ _ h _ _ => h) dX2_isPage_6 ?_
  exact g_zret S xr xlk (pI_01 _) dX2_isPage_9 (fun _ h => h)
set_option maxHeartbeats 4000000 in
set_option maxRecDepth 100000 in
theorem m_X2_arePages (l : Launch) (E : EN) {am : Int → Nat} (hj : INM am) (th pg n : Int) (on se : Int → Int) (al : Int → Nat) (fr to : Int) (hr : -2147483648 ≤ fr ∧ fr ≤ 2147483647 ∧ -2147483648 ≤ to ∧ to ≤ 2147483647) (hpg : 1 ≤ pg ∧ pg ≤ 300) : Met l yX2_arePages wsX2_arePages ({ frames := 0, cells := 0, slots := 0, locals := 0 }) (CI E [.ref (am 0), .int (iI fr), .int (iI to)] (MW E am th pg n on se al)) (QW (some (.int (iI (pI (1 ≤ fr ∧ to ≤ pg ∧ fr ≤ to))))) (MW E am th pg n on se al) (fun _ => False)) 0 0 (fun _ => False) := by
  refine g_met (cc := cX2_arePages) (maxL := 3) (ret := (some .boolean)) (lv := [(0, .ref (am 0)), (1, .int (iI fr)), (2, .int (iI to))]) (by decide) rfl (Nat.le_of_ble_eq_true rfl) rfl ?_
  intro xp xe xs xm xa xb xh xc S xK xr xlk xin
  have kf9 := S.2.2.2.2 (.fieldLink RX2 9 "BookIndexModel" "pages" "I") (by decide +kernel)
  have hin2 : ∀ w ∈ wsX20, w ∈ wsX2_arePages := by decide +kernel
  refine g_iload_n S dX2_arePages_0 rfl 1 rfl ?_
  refine g_iconst S dX2_arePages_1 ?_
  refine g_icmp_lt S (tgt := 22) dX2_arePages_2 (by decide) (by omega) (fun c2 => ?_) (fun c2 => ?_)
  · skip
    refine g_iconst S dX2_arePages_22 ?_
    rw [pI_f (P := 1 ≤ fr ∧ to ≤ pg ∧ fr ≤ to) (fun z => by omega)]
    exact g_zret S xr xlk (Or.inl rfl) dX2_arePages_23 (fun _ h => h)
  · skip
    refine g_iload_n S dX2_arePages_5 rfl 2 rfl ?_
    refine g_aload_n S dX2_arePages_6 rfl 0 rfl ?_
    refine g_get S xK (ref := "BookIndexModel") hin2 1 (by decide) (show vwCl[2]? = some (RX2, TX2, 6) from rfl) kf9 (fun _ h9 => h9) (fun _ h => mw_x h) rfl dX2_arePages_7 ?_
    refine g_icmp_gt S (tgt := 22) dX2_arePages_10 (by decide) (by omega) (fun c10 => ?_) (fun c10 => ?_)
    · skip
      refine g_iconst S dX2_arePages_22 ?_
      rw [pI_f (P := 1 ≤ fr ∧ to ≤ pg ∧ fr ≤ to) (fun z => by omega)]
      exact g_zret S xr xlk (Or.inl rfl) dX2_arePages_23 (fun _ h => h)
    · skip
      refine g_iload_n S dX2_arePages_13 rfl 2 rfl ?_
      refine g_iload_n S dX2_arePages_14 rfl 1 rfl ?_
      refine g_icmp_lt S (tgt := 22) dX2_arePages_15 (by decide) (by omega) (fun c15 => ?_) (fun c15 => ?_)
      · skip
        refine g_iconst S dX2_arePages_22 ?_
        rw [pI_f (P := 1 ≤ fr ∧ to ≤ pg ∧ fr ≤ to) (fun z => by omega)]
        exact g_zret S xr xlk (Or.inl rfl) dX2_arePages_23 (fun _ h => h)
      · skip
        refine g_iconst S dX2_arePages_18 ?_
        refine g_goto S (tgt := 23) dX2_arePages_19 (by decide) ?_
        rw [pI_t (P := 1 ≤ fr ∧ to ≤ pg ∧ fr ≤ to) ⟨by omega, by omega, by omega⟩]
        exact g_zret S xr xlk (Or.inr rfl) dX2_arePages_23 (fun _ h => h)
set_option maxHeartbeats 4000000 in
set_option maxRecDepth 100000 in
theorem m_X2_has (l : Launch) (E : EN) {am : Int → Nat} (hj : INM am) (th pg n : Int) (on se : Int → Int) (al : Int → Nat) (h q : Int) (hh : 0 ≤ h ∧ h ≤ 23) (hq : 0 ≤ q ∧ q ≤ 301) (hon : ∀ k, on k = 0 ∨ on k = 1) : Met l yX2_has wsX2_has ({ frames := 0, cells := 0, slots := 0, locals := 0 }) (CI E [.ref (am 0), .int (iI h), .int (iI q)] (MW E am th pg n on se al)) (QW (some (.int (iI (on (302 * h + q))))) (MW E am th pg n on se al) (fun _ => False)) 0 0 (fun _ => False) := by
  refine g_met (cc := cX2_has) (maxL := 3) (ret := (some .boolean)) (lv := [(0, .ref (am 0)), (1, .int (iI h)), (2, .int (iI q))]) (by decide) rfl (Nat.le_of_ble_eq_true rfl) rfl ?_
  intro xp xe xs xm xa xb xh xc S xK xr xlk xin
  have kf13 := S.2.2.2.2 (.fieldLink RX2 13 "BookIndexModel" "on" "[Z") (by decide +kernel)
  have hin2 : ∀ w ∈ wsX20, w ∈ wsX2_has := by decide +kernel
  refine g_aload_n S dX2_has_0 rfl 0 rfl ?_
  refine g_get S xK (ref := "BookIndexModel") hin2 3 (by decide) (show vwCl[2]? = some (RX2, TX2, 6) from rfl) kf13 (fun _ h9 => h9) (fun _ h => mw_x h) rfl dX2_has_1 ?_
  refine g_sipush S dX2_has_4 (by decide) ?_
  refine g_iload_n S dX2_has_7 rfl 1 rfl ?_
  refine g_imul S dX2_has_8 ?_
  refine g_iload_n S dX2_has_9 rfl 2 rfl ?_
  refine g_iadd S dX2_has_10 ?_
  refine g_zald S xK (n := 7248) (fun _ h => mw_on h) (by omega) (by decide) dX2_has_11 ?_
  exact g_zret S xr xlk (hon _) dX2_has_12 (fun _ h => h)
set_option maxHeartbeats 4000000 in
set_option maxRecDepth 100000 in
theorem m_X2_let (l : Launch) (E : EN) {am : Int → Nat} (hj : INM am) (th pg n : Int) (on se : Int → Int) (al : Int → Nat) (h q v : Int) (hh : 0 ≤ h ∧ h ≤ 23) (hq : 0 ≤ q ∧ q ≤ 301) (hv : v = 0 ∨ v = 1) : Met l yX2_let wsX2_let ({ frames := 0, cells := 0, slots := 0, locals := 0 }) (CI E [.ref (am 0), .int (iI h), .int (iI q), .int (iI v)] (MW E am th pg n on se al)) (QW (none) (MW E am th pg n (upI on (302 * h + q) v) se al) (AM am)) 0 0 (AM am) := by
  refine g_met (cc := cX2_let) (maxL := 4) (ret := none) (lv := [(0, .ref (am 0)), (1, .int (iI h)), (2, .int (iI q)), (3, .int (iI v))]) (by decide) rfl (Nat.le_of_ble_eq_true rfl) rfl ?_
  intro xp xe xs xm xa xb xh xc S xK xr xlk xin
  have kf13 := S.2.2.2.2 (.fieldLink RX2 13 "BookIndexModel" "on" "[Z") (by decide +kernel)
  have hin2 : ∀ w ∈ wsX20, w ∈ wsX2_let := by decide +kernel
  refine g_aload_n S dX2_let_0 rfl 0 rfl ?_
  refine g_get S xK (ref := "BookIndexModel") hin2 3 (by decide) (show vwCl[2]? = some (RX2, TX2, 6) from rfl) kf13 (fun _ h9 => h9) (fun _ h => mw_x h) rfl dX2_let_1 ?_
  refine g_sipush S dX2_let_4 (by decide) ?_
  refine g_iload_n S dX2_let_7 rfl 1 rfl ?_
  refine g_imul S dX2_let_8 ?_
  refine g_iload_n S dX2_let_9 rfl 2 rfl ?_
  refine g_iadd S dX2_let_10 ?_
  refine g_iload_n S dX2_let_11 rfl 3 rfl ?_
  refine g_zast S xK (Wp' := MW E am th pg n (upI on (302 * h + q) v) se al) (n := 7248) (hv) (fun _ h => mw_on h) (by omega) (by decide) (am_in (by omega)) (fun _ _ h hv _ oq => mw_sOn hj h hv oq) dX2_let_12 ?_
  exact g_vret S xr xlk dX2_let_13 (fun _ h => h)
set_option maxHeartbeats 4000000 in
set_option maxRecDepth 100000 in
theorem m_X2_no (l : Launch) (E : EN) {am : Int → Nat} (hj : INM am) (th pg n : Int) (on se : Int → Int) (al : Int → Nat) (v : Int)  : Met l yX2_no wsX2_no ({ frames := 0, cells := 0, slots := 0, locals := 0 }) (CI E [.ref (am 0), .int (iI v)] (MW E am th pg n on se al)) (QW (some (.int (iI 0))) (MW E am v pg n on se al) (AM am)) 0 0 (AM am) := by
  refine g_met (cc := cX2_no) (maxL := 2) (ret := (some .int)) (lv := [(0, .ref (am 0)), (1, .int (iI v))]) (by decide) rfl (Nat.le_of_ble_eq_true rfl) rfl ?_
  intro xp xe xs xm xa xb xh xc S xK xr xlk xin
  have kf24 := S.2.2.2.2 (.fieldLink RX2 24 "BookIndexModel" "thrown" "I") (by decide +kernel)
  have hin2 : ∀ w ∈ wsX20, w ∈ wsX2_no := by decide +kernel
  refine g_aload_n S dX2_no_0 rfl 0 rfl ?_
  refine g_iload_n S dX2_no_1 rfl 1 rfl ?_
  refine g_put S xK (Wp' := MW E am v pg n on se al) (ref := "BookIndexModel") (ty := .int) hin2 tyX2 tyX2_ok nmX2 0 (by decide) (show vwCl[2]? = some (RX2, TX2, 6) from rfl) kf24 (fun _ h9 => h9) rfl (by decide +kernel) rfl rfl (fun _ h => mw_x h) (Nat.le_of_ble_eq_true rfl) (am_in (by omega)) (fun _ _ h hv _ oq => mw_sX hj h hv oq) dX2_no_2 ?_
  refine g_iconst S dX2_no_5 ?_
  exact g_iret S xr xlk dX2_no_6 (fun _ h => h)
set_option maxHeartbeats 4000000 in
set_option maxRecDepth 100000 in
theorem m_X2_isNot (l : Launch) (E : EN) {am : Int → Nat} (hj : INM am) (th pg n : Int) (on se : Int → Int) (al : Int → Nat) (v : Int)  : Met l yX2_isNot wsX2_isNot ({ frames := 0, cells := 0, slots := 0, locals := 0 }) (CI E [.ref (am 0), .int (iI v)] (MW E am th pg n on se al)) (QW (some (.int (iI 0))) (MW E am v pg n on se al) (AM am)) 0 0 (AM am) := by
  refine g_met (cc := cX2_isNot) (maxL := 2) (ret := (some .boolean)) (lv := [(0, .ref (am 0)), (1, .int (iI v))]) (by decide) rfl (Nat.le_of_ble_eq_true rfl) rfl ?_
  intro xp xe xs xm xa xb xh xc S xK xr xlk xin
  have kf24 := S.2.2.2.2 (.fieldLink RX2 24 "BookIndexModel" "thrown" "I") (by decide +kernel)
  have hin2 : ∀ w ∈ wsX20, w ∈ wsX2_isNot := by decide +kernel
  refine g_aload_n S dX2_isNot_0 rfl 0 rfl ?_
  refine g_iload_n S dX2_isNot_1 rfl 1 rfl ?_
  refine g_put S xK (Wp' := MW E am v pg n on se al) (ref := "BookIndexModel") (ty := .int) hin2 tyX2 tyX2_ok nmX2 0 (by decide) (show vwCl[2]? = some (RX2, TX2, 6) from rfl) kf24 (fun _ h9 => h9) rfl (by decide +kernel) rfl rfl (fun _ h => mw_x h) (Nat.le_of_ble_eq_true rfl) (am_in (by omega)) (fun _ _ h hv _ oq => mw_sX hj h hv oq) dX2_isNot_2 ?_
  refine g_iconst S dX2_isNot_5 ?_
  exact g_zret S xr xlk (Or.inl rfl) dX2_isNot_6 (fun _ h => h)
set_option maxHeartbeats 4000000 in
set_option maxRecDepth 100000 in
theorem m_X2_ok (l : Launch) (E : EN) {am : Int → Nat} (hj : INM am) (th pg n : Int) (on se : Int → Int) (al : Int → Nat) (v : Int)  : Met l yX2_ok wsX2_ok ({ frames := 0, cells := 0, slots := 0, locals := 0 }) (CI E [.ref (am 0), .int (iI v)] (MW E am th pg n on se al)) (QW (some (.int (iI v))) (MW E am 0 pg n on se al) (AM am)) 0 0 (AM am) := by
  refine g_met (cc := cX2_ok) (maxL := 2) (ret := (some .int)) (lv := [(0, .ref (am 0)), (1, .int (iI v))]) (by decide) rfl (Nat.le_of_ble_eq_true rfl) rfl ?_
  intro xp xe xs xm xa xb xh xc S xK xr xlk xin
  have kf24 := S.2.2.2.2 (.fieldLink RX2 24 "BookIndexModel" "thrown" "I") (by decide +kernel)
  have hin2 : ∀ w ∈ wsX20, w ∈ wsX2_ok := by decide +kernel
  refine g_aload_n S dX2_ok_0 rfl 0 rfl ?_
  refine g_iconst S dX2_ok_1 ?_
  refine g_put S xK (Wp' := MW E am 0 pg n on se al) (ref := "BookIndexModel") (ty := .int) hin2 tyX2 tyX2_ok nmX2 0 (by decide) (show vwCl[2]? = some (RX2, TX2, 6) from rfl) kf24 (fun _ h9 => h9) rfl (by decide +kernel) rfl rfl (fun _ h => mw_x h) (Nat.le_of_ble_eq_true rfl) (am_in (by omega)) (fun _ _ h hv _ oq => mw_sX hj h hv oq) dX2_ok_2 ?_
  refine g_iload_n S dX2_ok_5 rfl 1 rfl ?_
  exact g_iret S xr xlk dX2_ok_6 (fun _ h => h)
set_option maxHeartbeats 4000000 in
set_option maxRecDepth 100000 in
theorem m_X2_thrown (l : Launch) (E : EN) {am : Int → Nat} (hj : INM am) (th pg n : Int) (on se : Int → Int) (al : Int → Nat)  : Met l yX2_thrown wsX2_thrown ({ frames := 0, cells := 0, slots := 0, locals := 0 }) (CI E [.ref (am 0)] (MW E am th pg n on se al)) (QW (some (.int (iI th))) (MW E am th pg n on se al) (fun _ => False)) 0 0 (fun _ => False) := by
  refine g_met (cc := cX2_thrown) (maxL := 1) (ret := (some .int)) (lv := [(0, .ref (am 0))]) (by decide) rfl (Nat.le_of_ble_eq_true rfl) rfl ?_
  intro xp xe xs xm xa xb xh xc S xK xr xlk xin
  have kf24 := S.2.2.2.2 (.fieldLink RX2 24 "BookIndexModel" "thrown" "I") (by decide +kernel)
  have hin2 : ∀ w ∈ wsX20, w ∈ wsX2_thrown := by decide +kernel
  refine g_aload_n S dX2_thrown_0 rfl 0 rfl ?_
  refine g_get S xK (ref := "BookIndexModel") hin2 0 (by decide) (show vwCl[2]? = some (RX2, TX2, 6) from rfl) kf24 (fun _ h9 => h9) (fun _ h => mw_x h) rfl dX2_thrown_1 ?_
  exact g_iret S xr xlk dX2_thrown_4 (fun _ h => h)
set_option maxHeartbeats 4000000 in
set_option maxRecDepth 100000 in
theorem m_X2_spans (l : Launch) (E : EN) {am : Int → Nat} (hj : INM am) (th pg n : Int) (on se : Int → Int) (al : Int → Nat) (a b gap : Int) (ha : 0 ≤ a ∧ a ≤ 23) (hb : 0 ≤ b ∧ b ≤ 23) (hgap : 0 ≤ gap ∧ gap ≤ 100) (hpg : 1 ≤ pg ∧ pg ≤ 300) (hon : ∀ k, on k = 0 ∨ on k = 1) : Met l yX2_spans wsX2_spans ({ frames := 1, cells := 0, slots := 0, locals := 22 }) (CI E [.ref (am 0), .int (iI a), .int (iI b), .int (iI gap)] (MW E am th pg n on se al)) (QW (some (.int (iI ((spS (fun x => on (302 * a + x) = 1 ∨ on (302 * b + x) = 1) gap pg.toNat).1)))) (MW E am th pg n on se al) (fun _ => False)) 0 0 (fun _ => False) := by
  refine g_met (cc := cX2_spans) (maxL := 7) (ret := (some .int)) (lv := [(0, .ref (am 0)), (1, .int (iI a)), (2, .int (iI b)), (3, .int (iI gap))]) (by decide) rfl (Nat.le_of_ble_eq_true rfl) rfl ?_
  intro xp xe xs xm xa xb xh xc S xK xr xlk xin
  have kf9 := S.2.2.2.2 (.fieldLink RX2 9 "BookIndexModel" "pages" "I") (by decide +kernel)
  have hin2 : ∀ w ∈ wsX20, w ∈ wsX2_spans := by decide +kernel
  have L9 : ∀ (nf : Nat) (p : Int) (m : Int) (la : Int), (1 ≤ p ∧ p ≤ pg + 1) → (spS (fun x => on (302 * a + x) = 1 ∨ on (302 * b + x) = 1) gap (p - 1).toNat = (m, la)) → (-1 ≤ la ∧ la < p) → (pg + 1 - p < (nf : Int)) → G xp l xe ({ frames := 1, cells := 0, slots := 0, locals := 22 }) xs xm xa xb xh xc 7 (fun _ => False) 0 0 (MQ xb (QW (some (.int (iI ((spS (fun x => on (302 * a + x) = 1 ∨ on (302 * b + x) = 1) gap pg.toNat).1)))) (MW E am th pg n on se al) (fun _ => False)) xa xs 0 0 (fun _ => False)) 9 [(0, .ref (am 0)), (1, .int (iI a)), (2, .int (iI b)), (3, .int (iI gap)), (4, .int (iI m)), (5, .int (iI la)), (6, .int (iI p))] [] (MW E am th pg n on se al) := by
    intro nf
    induction nf with
    | zero =>
      intro p m la hp hm hla hmf
      exfalso
      omega
    | succ nf ihL9 =>
      intro p m la hp hm hla hmf
      refine g_iload S dX2_spans_9 6 rfl ?_
      refine g_aload_n S dX2_spans_11 rfl 0 rfl ?_
      refine g_get S xK (ref := "BookIndexModel") hin2 1 (by decide) (show vwCl[2]? = some (RX2, TX2, 6) from rfl) kf9 (fun _ h9 => h9) (fun _ h => mw_x h) rfl dX2_spans_12 ?_
      refine g_icmp_gt S (tgt := 71) dX2_spans_15 (by decide) (by omega) (fun c15 => ?_) (fun c15 => ?_)
      · skip
        refine g_iload S dX2_spans_71 4 rfl ?_
        rw [show ((spS (fun x => on (302 * a + x) = 1 ∨ on (302 * b + x) = 1) gap pg.toNat).1) = m from by rw [show pg.toNat = (p - 1).toNat by omega, hm]]
        exact g_iret S xr xlk dX2_spans_73 (fun _ h => h)
      · skip
        have L65 : ∀ (m2 : Int) (l2 : Int), (spS (fun x => on (302 * a + x) = 1 ∨ on (302 * b + x) = 1) gap (p + 1 - 1).toNat = (m2, l2)) → (-1 ≤ l2 ∧ l2 < p + 1) → G xp l xe ({ frames := 1, cells := 0, slots := 0, locals := 22 }) xs xm xa xb xh xc 7 (fun _ => False) 0 0 (MQ xb (QW (some (.int (iI ((spS (fun x => on (302 * a + x) = 1 ∨ on (302 * b + x) = 1) gap pg.toNat).1)))) (MW E am th pg n on se al) (fun _ => False)) xa xs 0 0 (fun _ => False)) 65 [(0, .ref (am 0)), (1, .int (iI a)), (2, .int (iI b)), (3, .int (iI gap)), (4, .int (iI m2)), (5, .int (iI l2)), (6, .int (iI p))] [] (MW E am th pg n on se al) := by
          intro m2 l2 hm2 hl2
          refine g_iinc S (lv' := [(6, .int (iI (p + 1))), (0, .ref (am 0)), (1, .int (iI a)), (2, .int (iI b)), (3, .int (iI gap)), (4, .int (iI m2)), (5, .int (iI l2))]) dX2_spans_65 6 rfl (Nat.le_of_ble_eq_true rfl) rfl ?_
          refine g_goto S (tgt := 9) dX2_spans_68 (by decide) ?_
          refine g_lv [1, 2, 3, 4, 5, 6, 0] rfl ?_
          exact ihL9 (p + 1) m2 l2 (by omega) (hm2) (by omega) (by omega)
        have L41 : ((fun x => on (302 * a + x) = 1 ∨ on (302 * b + x) = 1) p) → G xp l xe ({ frames := 1, cells := 0, slots := 0, locals := 22 }) xs xm xa xb xh xc 7 (fun _ => False) 0 0 (MQ xb (QW (some (.int (iI ((spS (fun x => on (302 * a + x) = 1 ∨ on (302 * b + x) = 1) gap pg.toNat).1)))) (MW E am th pg n on se al) (fun _ => False)) xa xs 0 0 (fun _ => False)) 41 [(0, .ref (am 0)), (1, .int (iI a)), (2, .int (iI b)), (3, .int (iI gap)), (4, .int (iI m)), (5, .int (iI la)), (6, .int (iI p))] [] (MW E am th pg n on se al) := by
          intro  hP
          refine g_iload S dX2_spans_41 5 rfl ?_
          refine g_iconst S dX2_spans_43 ?_
          refine g_icmp_eq S (tgt := 58) dX2_spans_44 (by decide) (by omega) (fun c44 => ?_) (fun c44 => ?_)
          · skip
            refine g_iinc S (lv' := [(4, .int (iI (m + 1))), (0, .ref (am 0)), (1, .int (iI a)), (2, .int (iI b)), (3, .int (iI gap)), (5, .int (iI la)), (6, .int (iI p))]) dX2_spans_58 4 rfl (Nat.le_of_ble_eq_true rfl) rfl ?_
            refine g_iload S dX2_spans_61 6 rfl ?_
            refine g_istore S (lv' := [(5, .int (iI p)), (4, .int (iI (m + 1))), (0, .ref (am 0)), (1, .int (iI a)), (2, .int (iI b)), (3, .int (iI gap)), (6, .int (iI p))]) dX2_spans_63 (Nat.le_of_ble_eq_true rfl) rfl ?_
            refine g_lv [2, 3, 4, 5, 1, 0, 6] rfl ?_
            exact L65 (m + 1) p (by rw [spS_y (by omega) hP hm]; show (ite _ _ _, p) = _; rw [if_pos (Or.inl c44)]) (by omega)
          · skip
            refine g_iload S dX2_spans_47 6 rfl ?_
            refine g_iload S dX2_spans_49 5 rfl ?_
            refine g_isub S dX2_spans_51 ?_
            refine g_iconst S dX2_spans_52 ?_
            refine g_isub S dX2_spans_53 ?_
            refine g_iload_n S dX2_spans_54 rfl 3 rfl ?_
            refine g_icmp_le S (tgt := 61) dX2_spans_55 (by decide) (by omega) (fun c55 => ?_) (fun c55 => ?_)
            · skip
              refine g_iload S dX2_spans_61 6 rfl ?_
              refine g_istore S (lv' := [(5, .int (iI p)), (0, .ref (am 0)), (1, .int (iI a)), (2, .int (iI b)), (3, .int (iI gap)), (4, .int (iI m)), (6, .int (iI p))]) dX2_spans_63 (Nat.le_of_ble_eq_true rfl) rfl ?_
              refine g_lv [1, 2, 3, 4, 5, 0, 6] rfl ?_
              exact L65 m p (by rw [spS_y (by omega) hP hm]; show (ite _ _ _, p) = _; rw [if_neg (by omega)]) (by omega)
            · skip
              refine g_iinc S (lv' := [(4, .int (iI (m + 1))), (0, .ref (am 0)), (1, .int (iI a)), (2, .int (iI b)), (3, .int (iI gap)), (5, .int (iI la)), (6, .int (iI p))]) dX2_spans_58 4 rfl (Nat.le_of_ble_eq_true rfl) rfl ?_
              refine g_iload S dX2_spans_61 6 rfl ?_
              refine g_istore S (lv' := [(5, .int (iI p)), (4, .int (iI (m + 1))), (0, .ref (am 0)), (1, .int (iI a)), (2, .int (iI b)), (3, .int (iI gap)), (6, .int (iI p))]) dX2_spans_63 (Nat.le_of_ble_eq_true rfl) rfl ?_
              refine g_lv [2, 3, 4, 5, 1, 0, 6] rfl ?_
              exact L65 (m + 1) p (by rw [spS_y (by omega) hP hm]; show (ite _ _ _, p) = _; rw [if_pos (Or.inr (by omega))]) (by omega)
        refine g_aload_n S dX2_spans_18 rfl 0 rfl ?_
        refine g_iload_n S dX2_spans_19 rfl 1 rfl ?_
        refine g_iload S dX2_spans_20 6 rfl ?_
        refine g_callV S xK (As := [.int (iI a), .int (iI p)]) (st := []) (stk' := [.int (iI (on (302 * a + p)))]) (Wp' := MW E am th pg n on se al) (r := (RX2, TX2, 6)) (m_X2_has l E hj th pg n on se al a p (by omega) (by omega) hon) (cwV 2 S.2.2.2.2 gX2_spans_X2_has rfl rfl rfl (by decide +kernel) ⟨Nat.le_of_ble_eq_true rfl, Nat.le_of_ble_eq_true rfl⟩) rfl rfl rfl rfl (Nat.le_of_ble_eq_true rfl) ⟨Nat.le_of_ble_eq_true rfl, Nat.le_of_ble_eq_true rfl⟩ (fun _ q => q.elim) (fun _ h => mw_x h) (fun _ h => h) (fun _ _ _ h _ _ => h) dX2_spans_22 ?_
        have o25 := hon (302 * a + p)
        refine g_if_ne S (tgt := 41) dX2_spans_25 (by decide) (by omega) (fun c25 => ?_) (fun c25 => ?_)
        · skip
          exact L41  (Or.inl (by rcases hon (302 * a + p) with z | z <;> omega))
        · skip
          refine g_aload_n S dX2_spans_28 rfl 0 rfl ?_
          refine g_iload_n S dX2_spans_29 rfl 2 rfl ?_
          refine g_iload S dX2_spans_30 6 rfl ?_
          refine g_callV S xK (As := [.int (iI b), .int (iI p)]) (st := []) (stk' := [.int (iI (on (302 * b + p)))]) (Wp' := MW E am th pg n on se al) (r := (RX2, TX2, 6)) (m_X2_has l E hj th pg n on se al b p (by omega) (by omega) hon) (cwV 2 S.2.2.2.2 gX2_spans_X2_has rfl rfl rfl (by decide +kernel) ⟨Nat.le_of_ble_eq_true rfl, Nat.le_of_ble_eq_true rfl⟩) rfl rfl rfl rfl (Nat.le_of_ble_eq_true rfl) ⟨Nat.le_of_ble_eq_true rfl, Nat.le_of_ble_eq_true rfl⟩ (fun _ q => q.elim) (fun _ h => mw_x h) (fun _ h => h) (fun _ _ _ h _ _ => h) dX2_spans_32 ?_
          have o35 := hon (302 * b + p)
          refine g_if_ne S (tgt := 41) dX2_spans_35 (by decide) (by omega) (fun c35 => ?_) (fun c35 => ?_)
          · skip
            exact L41  (Or.inr (by rcases hon (302 * b + p) with z | z <;> omega))
          · skip
            refine g_goto S (tgt := 65) dX2_spans_38 (by decide) ?_
            exact L65 m la (spS_n (by omega) (fun z => by rcases z with z | z <;> omega) hm) (by omega)
  refine g_iconst S dX2_spans_0 ?_
  refine g_istore S (lv' := [(4, .int (iI 0)), (0, .ref (am 0)), (1, .int (iI a)), (2, .int (iI b)), (3, .int (iI gap))]) dX2_spans_1 (Nat.le_of_ble_eq_true rfl) rfl ?_
  refine g_iconst S dX2_spans_3 ?_
  refine g_istore S (lv' := [(5, .int (iI (-1))), (4, .int (iI 0)), (0, .ref (am 0)), (1, .int (iI a)), (2, .int (iI b)), (3, .int (iI gap))]) dX2_spans_4 (Nat.le_of_ble_eq_true rfl) rfl ?_
  refine g_iconst S dX2_spans_6 ?_
  refine g_istore S (lv' := [(6, .int (iI 1)), (5, .int (iI (-1))), (4, .int (iI 0)), (0, .ref (am 0)), (1, .int (iI a)), (2, .int (iI b)), (3, .int (iI gap))]) dX2_spans_7 (Nat.le_of_ble_eq_true rfl) rfl ?_
  refine g_lv [3, 4, 5, 6, 2, 1, 0] rfl ?_
  exact L9 ((pg + 1 - 1) + 1).toNat 1 0 (-1) (by omega) (rfl) (by omega) (by omega)
set_option maxHeartbeats 4000000 in
set_option maxRecDepth 100000 in
theorem m_X2_spansWith (l : Launch) (E : EN) {am : Int → Nat} (hj : INM am) (th pg n : Int) (on se : Int → Int) (al : Int → Nat) (h fr to is : Int) (hh : 0 ≤ h ∧ h ≤ 23) (hft : 1 ≤ fr ∧ fr ≤ to ∧ to ≤ 300) (his : is = 0 ∨ is = 1) (h00 : on (302 * h + 0) = 0) (hpg : 1 ≤ pg ∧ pg ≤ 300) (hon : ∀ k, on k = 0 ∨ on k = 1) : Met l yX2_spansWith wsX2_spansWith ({ frames := 1, cells := 0, slots := 0, locals := 22 }) (CI E [.ref (am 0), .int (iI h), .int (iI fr), .int (iI to), .int (iI is)] (MW E am th pg n on se al)) (QW (some (.int (iI (smI (fun k => pI ((fun x => (fr ≤ x ∧ x ≤ to ∧ is = 1) ∨ (¬ (fr ≤ x ∧ x ≤ to) ∧ on (302 * h + x) = 1)) (k + 1) ∧ ¬ (fun x => (fr ≤ x ∧ x ≤ to ∧ is = 1) ∨ (¬ (fr ≤ x ∧ x ≤ to) ∧ on (302 * h + x) = 1)) k)) pg.toNat)))) (MW E am th pg n on se al) (fun _ => False)) 0 0 (fun _ => False) := by
  refine g_met (cc := cX2_spansWith) (maxL := 9) (ret := (some .int)) (lv := [(0, .ref (am 0)), (1, .int (iI h)), (2, .int (iI fr)), (3, .int (iI to)), (4, .int (iI is))]) (by decide) rfl (Nat.le_of_ble_eq_true rfl) rfl ?_
  intro xp xe xs xm xa xb xh xc S xK xr xlk xin
  have kf9 := S.2.2.2.2 (.fieldLink RX2 9 "BookIndexModel" "pages" "I") (by decide +kernel)
  have hin2 : ∀ w ∈ wsX20, w ∈ wsX2_spansWith := by decide +kernel
  have L9 : ∀ (nf : Nat) (p : Int) (m : Int) (w : Int), (1 ≤ p ∧ p ≤ pg + 1) → (m = smI (fun k => pI ((fun x => (fr ≤ x ∧ x ≤ to ∧ is = 1) ∨ (¬ (fr ≤ x ∧ x ≤ to) ∧ on (302 * h + x) = 1)) (k + 1) ∧ ¬ (fun x => (fr ≤ x ∧ x ≤ to ∧ is = 1) ∨ (¬ (fr ≤ x ∧ x ≤ to) ∧ on (302 * h + x) = 1)) k)) (p - 1).toNat) → (w = pI ((fun x => (fr ≤ x ∧ x ≤ to ∧ is = 1) ∨ (¬ (fr ≤ x ∧ x ≤ to) ∧ on (302 * h + x) = 1)) (p - 1))) → (pg + 1 - p < (nf : Int)) → G xp l xe ({ frames := 1, cells := 0, slots := 0, locals := 22 }) xs xm xa xb xh xc 9 (fun _ => False) 0 0 (MQ xb (QW (some (.int (iI (smI (fun k => pI ((fun x => (fr ≤ x ∧ x ≤ to ∧ is = 1) ∨ (¬ (fr ≤ x ∧ x ≤ to) ∧ on (302 * h + x) = 1)) (k + 1) ∧ ¬ (fun x => (fr ≤ x ∧ x ≤ to ∧ is = 1) ∨ (¬ (fr ≤ x ∧ x ≤ to) ∧ on (302 * h + x) = 1)) k)) pg.toNat)))) (MW E am th pg n on se al) (fun _ => False)) xa xs 0 0 (fun _ => False)) 9 [(0, .ref (am 0)), (1, .int (iI h)), (2, .int (iI fr)), (3, .int (iI to)), (4, .int (iI is)), (5, .int (iI m)), (6, .int (iI w)), (7, .int (iI p))] [] (MW E am th pg n on se al) := by
    intro nf
    induction nf with
    | zero =>
      intro p m w hp hm hw hmf
      exfalso
      omega
    | succ nf ihL9 =>
      intro p m w hp hm hw hmf
      have w01 := pI_b ((fun x => (fr ≤ x ∧ x ≤ to ∧ is = 1) ∨ (¬ (fr ≤ x ∧ x ≤ to) ∧ on (302 * h + x) = 1)) (p - 1))
      refine g_iload S dX2_spansWith_9 7 rfl ?_
      refine g_aload_n S dX2_spansWith_11 rfl 0 rfl ?_
      refine g_get S xK (ref := "BookIndexModel") hin2 1 (by decide) (show vwCl[2]? = some (RX2, TX2, 6) from rfl) kf9 (fun _ h9 => h9) (fun _ h => mw_x h) rfl dX2_spansWith_12 ?_
      refine g_icmp_gt S (tgt := 72) dX2_spansWith_15 (by decide) (by omega) (fun c15 => ?_) (fun c15 => ?_)
      · skip
        refine g_iload S dX2_spansWith_72 5 rfl ?_
        rw [show (smI (fun k => pI ((fun x => (fr ≤ x ∧ x ≤ to ∧ is = 1) ∨ (¬ (fr ≤ x ∧ x ≤ to) ∧ on (302 * h + x) = 1)) (k + 1) ∧ ¬ (fun x => (fr ≤ x ∧ x ≤ to ∧ is = 1) ∨ (¬ (fr ≤ x ∧ x ≤ to) ∧ on (302 * h + x) = 1)) k)) pg.toNat) = m from by rw [show pg.toNat = (p - 1).toNat by omega, hm]]
        exact g_iret S xr xlk dX2_spansWith_74 (fun _ h => h)
      · skip
        have L42 : ∀ (v : Int), (v = pI ((fun x => (fr ≤ x ∧ x ≤ to ∧ is = 1) ∨ (¬ (fr ≤ x ∧ x ≤ to) ∧ on (302 * h + x) = 1)) p)) → G xp l xe ({ frames := 1, cells := 0, slots := 0, locals := 22 }) xs xm xa xb xh xc 9 (fun _ => False) 0 0 (MQ xb (QW (some (.int (iI (smI (fun k => pI ((fun x => (fr ≤ x ∧ x ≤ to ∧ is = 1) ∨ (¬ (fr ≤ x ∧ x ≤ to) ∧ on (302 * h + x) = 1)) (k + 1) ∧ ¬ (fun x => (fr ≤ x ∧ x ≤ to ∧ is = 1) ∨ (¬ (fr ≤ x ∧ x ≤ to) ∧ on (302 * h + x) = 1)) k)) pg.toNat)))) (MW E am th pg n on se al) (fun _ => False)) xa xs 0 0 (fun _ => False)) 42 [(0, .ref (am 0)), (1, .int (iI h)), (2, .int (iI fr)), (3, .int (iI to)), (4, .int (iI is)), (5, .int (iI m)), (6, .int (iI w)), (7, .int (iI p)), (8, .int (iI v))] [] (MW E am th pg n on se al) := by
          intro v hv
          have v01 := pI_b ((fun x => (fr ≤ x ∧ x ≤ to ∧ is = 1) ∨ (¬ (fr ≤ x ∧ x ≤ to) ∧ on (302 * h + x) = 1)) p)
          refine g_iload S dX2_spansWith_42 5 rfl ?_
          refine g_iload S dX2_spansWith_44 8 rfl ?_
          refine g_if_eq S (tgt := 58) dX2_spansWith_46 (by decide) (by omega) (fun c46 => ?_) (fun c46 => ?_)
          · skip
            refine g_iconst S dX2_spansWith_58 ?_
            refine g_iadd S dX2_spansWith_59 ?_
            refine g_istore S (lv' := [(5, .int (iI (m + 0))), (0, .ref (am 0)), (1, .int (iI h)), (2, .int (iI fr)), (3, .int (iI to)), (4, .int (iI is)), (6, .int (iI w)), (7, .int (iI p)), (8, .int (iI v))]) dX2_spansWith_60 (Nat.le_of_ble_eq_true rfl) rfl ?_
            refine g_iload S dX2_spansWith_62 8 rfl ?_
            refine g_istore S (lv' := [(6, .int (iI v)), (5, .int (iI (m + 0))), (0, .ref (am 0)), (1, .int (iI h)), (2, .int (iI fr)), (3, .int (iI to)), (4, .int (iI is)), (7, .int (iI p)), (8, .int (iI v))]) dX2_spansWith_64 (Nat.le_of_ble_eq_true rfl) rfl ?_
            refine g_iinc S (lv' := [(7, .int (iI (p + 1))), (6, .int (iI v)), (5, .int (iI (m + 0))), (0, .ref (am 0)), (1, .int (iI h)), (2, .int (iI fr)), (3, .int (iI to)), (4, .int (iI is)), (8, .int (iI v))]) dX2_spansWith_66 7 rfl (Nat.le_of_ble_eq_true rfl) rfl ?_
            refine g_goto S (tgt := 9) dX2_spansWith_69 (by decide) ?_
            refine g_lv [3, 4, 5, 6, 7, 2, 1, 0] rfl ?_
            exact ihL9 (p + 1) (m + 0) v (by omega) (by rw [smI_p _ hp.1, ← hm]; show m + 0 = m + pI ((fun x => (fr ≤ x ∧ x ≤ to ∧ is = 1) ∨ (¬ (fr ≤ x ∧ x ≤ to) ∧ on (302 * h + x) = 1)) (p - 1 + 1) ∧ ¬ (fun x => (fr ≤ x ∧ x ≤ to ∧ is = 1) ∨ (¬ (fr ≤ x ∧ x ≤ to) ∧ on (302 * h + x) = 1)) (p - 1)); rw [show p - 1 + 1 = p by omega, pI_f (fun z => pI_eq0 (hv ▸ c46) z.1)]) (by rw [show p + 1 - 1 = p by omega]; exact hv) (by omega)
          · skip
            refine g_iload S dX2_spansWith_49 6 rfl ?_
            refine g_if_ne S (tgt := 58) dX2_spansWith_51 (by decide) (by omega) (fun c51 => ?_) (fun c51 => ?_)
            · skip
              refine g_iconst S dX2_spansWith_58 ?_
              refine g_iadd S dX2_spansWith_59 ?_
              refine g_istore S (lv' := [(5, .int (iI (m + 0))), (0, .ref (am 0)), (1, .int (iI h)), (2, .int (iI fr)), (3, .int (iI to)), (4, .int (iI is)), (6, .int (iI w)), (7, .int (iI p)), (8, .int (iI v))]) dX2_spansWith_60 (Nat.le_of_ble_eq_true rfl) rfl ?_
              refine g_iload S dX2_spansWith_62 8 rfl ?_
              refine g_istore S (lv' := [(6, .int (iI v)), (5, .int (iI (m + 0))), (0, .ref (am 0)), (1, .int (iI h)), (2, .int (iI fr)), (3, .int (iI to)), (4, .int (iI is)), (7, .int (iI p)), (8, .int (iI v))]) dX2_spansWith_64 (Nat.le_of_ble_eq_true rfl) rfl ?_
              refine g_iinc S (lv' := [(7, .int (iI (p + 1))), (6, .int (iI v)), (5, .int (iI (m + 0))), (0, .ref (am 0)), (1, .int (iI h)), (2, .int (iI fr)), (3, .int (iI to)), (4, .int (iI is)), (8, .int (iI v))]) dX2_spansWith_66 7 rfl (Nat.le_of_ble_eq_true rfl) rfl ?_
              refine g_goto S (tgt := 9) dX2_spansWith_69 (by decide) ?_
              refine g_lv [3, 4, 5, 6, 7, 2, 1, 0] rfl ?_
              exact ihL9 (p + 1) (m + 0) v (by omega) (by rw [smI_p _ hp.1, ← hm]; show m + 0 = m + pI ((fun x => (fr ≤ x ∧ x ≤ to ∧ is = 1) ∨ (¬ (fr ≤ x ∧ x ≤ to) ∧ on (302 * h + x) = 1)) (p - 1 + 1) ∧ ¬ (fun x => (fr ≤ x ∧ x ≤ to ∧ is = 1) ∨ (¬ (fr ≤ x ∧ x ≤ to) ∧ on (302 * h + x) = 1)) (p - 1)); rw [pI_f (fun z => z.2 (pI_ne0 (hw ▸ c51)))]) (by rw [show p + 1 - 1 = p by omega]; exact hv) (by omega)
            · skip
              refine g_iconst S dX2_spansWith_54 ?_
              refine g_goto S (tgt := 59) dX2_spansWith_55 (by decide) ?_
              refine g_iadd S dX2_spansWith_59 ?_
              refine g_istore S (lv' := [(5, .int (iI (m + 1))), (0, .ref (am 0)), (1, .int (iI h)), (2, .int (iI fr)), (3, .int (iI to)), (4, .int (iI is)), (6, .int (iI w)), (7, .int (iI p)), (8, .int (iI v))]) dX2_spansWith_60 (Nat.le_of_ble_eq_true rfl) rfl ?_
              refine g_iload S dX2_spansWith_62 8 rfl ?_
              refine g_istore S (lv' := [(6, .int (iI v)), (5, .int (iI (m + 1))), (0, .ref (am 0)), (1, .int (iI h)), (2, .int (iI fr)), (3, .int (iI to)), (4, .int (iI is)), (7, .int (iI p)), (8, .int (iI v))]) dX2_spansWith_64 (Nat.le_of_ble_eq_true rfl) rfl ?_
              refine g_iinc S (lv' := [(7, .int (iI (p + 1))), (6, .int (iI v)), (5, .int (iI (m + 1))), (0, .ref (am 0)), (1, .int (iI h)), (2, .int (iI fr)), (3, .int (iI to)), (4, .int (iI is)), (8, .int (iI v))]) dX2_spansWith_66 7 rfl (Nat.le_of_ble_eq_true rfl) rfl ?_
              refine g_goto S (tgt := 9) dX2_spansWith_69 (by decide) ?_
              refine g_lv [3, 4, 5, 6, 7, 2, 1, 0] rfl ?_
              exact ihL9 (p + 1) (m + 1) v (by omega) (by rw [smI_p _ hp.1, ← hm]; show m + 1 = m + pI ((fun x => (fr ≤ x ∧ x ≤ to ∧ is = 1) ∨ (¬ (fr ≤ x ∧ x ≤ to) ∧ on (302 * h + x) = 1)) (p - 1 + 1) ∧ ¬ (fun x => (fr ≤ x ∧ x ≤ to ∧ is = 1) ∨ (¬ (fr ≤ x ∧ x ≤ to) ∧ on (302 * h + x) = 1)) (p - 1)); rw [show p - 1 + 1 = p by omega, pI_t ⟨pI_ne0 (hv ▸ c46), pI_eq0 (hw ▸ c51)⟩]) (by rw [show p + 1 - 1 = p by omega]; exact hv) (by omega)
        refine g_iload S dX2_spansWith_18 7 rfl ?_
        refine g_iload_n S dX2_spansWith_20 rfl 2 rfl ?_
        refine g_iload_n S dX2_spansWith_21 rfl 3 rfl ?_
        refine g_callS S xK (As := [.int (iI p), .int (iI fr), .int (iI to)]) (st := []) (stk' := [.int (iI (pI (fr ≤ p ∧ p ≤ to)))]) (Wp' := MW E am th pg n on se al) (m_X2_isIn l E (Wp := MW E am th pg n on se al) p fr to (by omega)) (cwS 3 S.2.2.2.2 gX2_spansWith_X2_isIn rfl rfl rfl (by decide +kernel) ⟨Nat.le_of_ble_eq_true rfl, Nat.le_of_ble_eq_true rfl⟩) rfl rfl rfl (Nat.le_of_ble_eq_true rfl) ⟨Nat.le_of_ble_eq_true rfl, Nat.le_of_ble_eq_true rfl⟩ (fun _ q => q.elim) (fun _ h => h) (fun _ _ _ h _ _ => h) dX2_spansWith_22 ?_
        have z25 := pI_b (fr ≤ p ∧ p ≤ to)
        refine g_if_eq S (tgt := 33) dX2_spansWith_25 (by decide) (by omega) (fun c25 => ?_) (fun c25 => ?_)
        · skip
          refine g_aload_n S dX2_spansWith_33 rfl 0 rfl ?_
          refine g_iload_n S dX2_spansWith_34 rfl 1 rfl ?_
          refine g_iload S dX2_spansWith_35 7 rfl ?_
          refine g_callV S xK (As := [.int (iI h), .int (iI p)]) (st := []) (stk' := [.int (iI (on (302 * h + p)))]) (Wp' := MW E am th pg n on se al) (r := (RX2, TX2, 6)) (m_X2_has l E hj th pg n on se al h p (by omega) (by omega) hon) (cwV 2 S.2.2.2.2 gX2_spansWith_X2_has rfl rfl rfl (by decide +kernel) ⟨Nat.le_of_ble_eq_true rfl, Nat.le_of_ble_eq_true rfl⟩) rfl rfl rfl rfl (Nat.le_of_ble_eq_true rfl) ⟨Nat.le_of_ble_eq_true rfl, Nat.le_of_ble_eq_true rfl⟩ (fun _ q => q.elim) (fun _ h => mw_x h) (fun _ h => h) (fun _ _ _ h _ _ => h) dX2_spansWith_37 ?_
          refine g_istore S (lv' := [(8, .int (iI (on (302 * h + p)))), (0, .ref (am 0)), (1, .int (iI h)), (2, .int (iI fr)), (3, .int (iI to)), (4, .int (iI is)), (5, .int (iI m)), (6, .int (iI w)), (7, .int (iI p))]) dX2_spansWith_40 (Nat.le_of_ble_eq_true rfl) rfl ?_
          refine g_lv [1, 2, 3, 4, 5, 6, 7, 8, 0] rfl ?_
          exact L42 (on (302 * h + p)) (by have z := pI_eq0 c25; rcases hon (302 * h + p) with i0 | i1; (· rw [i0]; exact (pI_f (fun y => by omega)).symm); (· rw [i1]; exact (pI_t (Or.inr ⟨by omega, i1⟩)).symm))
        · skip
          refine g_iload S dX2_spansWith_28 4 rfl ?_
          refine g_goto S (tgt := 40) dX2_spansWith_30 (by decide) ?_
          refine g_istore S (lv' := [(8, .int (iI is)), (0, .ref (am 0)), (1, .int (iI h)), (2, .int (iI fr)), (3, .int (iI to)), (4, .int (iI is)), (5, .int (iI m)), (6, .int (iI w)), (7, .int (iI p))]) dX2_spansWith_40 (Nat.le_of_ble_eq_true rfl) rfl ?_
          refine g_lv [1, 2, 3, 4, 5, 6, 7, 8, 0] rfl ?_
          exact L42 is (by have z := pI_ne0 c25; rcases his with i0 | i1; (· rw [i0]; exact (pI_f (fun y => by omega)).symm); (· rw [i1]; exact (pI_t (Or.inl ⟨by omega, by omega, by omega⟩)).symm))
  refine g_iconst S dX2_spansWith_0 ?_
  refine g_istore S (lv' := [(5, .int (iI 0)), (0, .ref (am 0)), (1, .int (iI h)), (2, .int (iI fr)), (3, .int (iI to)), (4, .int (iI is))]) dX2_spansWith_1 (Nat.le_of_ble_eq_true rfl) rfl ?_
  refine g_iconst S dX2_spansWith_3 ?_
  refine g_istore S (lv' := [(6, .int (iI 0)), (5, .int (iI 0)), (0, .ref (am 0)), (1, .int (iI h)), (2, .int (iI fr)), (3, .int (iI to)), (4, .int (iI is))]) dX2_spansWith_4 (Nat.le_of_ble_eq_true rfl) rfl ?_
  refine g_iconst S dX2_spansWith_6 ?_
  refine g_istore S (lv' := [(7, .int (iI 1)), (6, .int (iI 0)), (5, .int (iI 0)), (0, .ref (am 0)), (1, .int (iI h)), (2, .int (iI fr)), (3, .int (iI to)), (4, .int (iI is))]) dX2_spansWith_7 (Nat.le_of_ble_eq_true rfl) rfl ?_
  refine g_lv [3, 4, 5, 6, 7, 2, 1, 0] rfl ?_
  exact L9 ((pg + 1 - 1) + 1).toNat 1 0 0 (by omega) (rfl) ((pI_f (fun z => by rcases z with z | z; (· omega); (· have h9 := z.2; rw [show 302 * h + (1 - 1) = 302 * h + 0 by omega] at h9; omega))).symm) (by omega)
set_option maxHeartbeats 4000000 in
set_option maxRecDepth 100000 in
theorem m_X2_many (l : Launch) (E : EN) {am : Int → Nat} (hj : INM am) (th pg n : Int) (on se : Int → Int) (al : Int → Nat) (h : Int) (hh : 0 ≤ h ∧ h ≤ 23) (hpg : 1 ≤ pg ∧ pg ≤ 300) (hon : ∀ k, on k = 0 ∨ on k = 1) : Met l yX2_many wsX2_many ({ frames := 1, cells := 0, slots := 0, locals := 22 }) (CI E [.ref (am 0), .int (iI h)] (MW E am th pg n on se al)) (QW (some (.int (iI (smI (fun k => on (302 * h + (k + 1))) pg.toNat)))) (MW E am th pg n on se al) (fun _ => False)) 0 0 (fun _ => False) := by
  refine g_met (cc := cX2_many) (maxL := 4) (ret := (some .int)) (lv := [(0, .ref (am 0)), (1, .int (iI h))]) (by decide) rfl (Nat.le_of_ble_eq_true rfl) rfl ?_
  intro xp xe xs xm xa xb xh xc S xK xr xlk xin
  have kf9 := S.2.2.2.2 (.fieldLink RX2 9 "BookIndexModel" "pages" "I") (by decide +kernel)
  have hin2 : ∀ w ∈ wsX20, w ∈ wsX2_many := by decide +kernel
  have L4 : ∀ (nf : Nat) (p : Int) (t : Int), (1 ≤ p ∧ p ≤ pg + 1) → (t = smI (fun k => on (302 * h + (k + 1))) (p - 1).toNat) → (pg + 1 - p < (nf : Int)) → G xp l xe ({ frames := 1, cells := 0, slots := 0, locals := 22 }) xs xm xa xb xh xc 4 (fun _ => False) 0 0 (MQ xb (QW (some (.int (iI (smI (fun k => on (302 * h + (k + 1))) pg.toNat)))) (MW E am th pg n on se al) (fun _ => False)) xa xs 0 0 (fun _ => False)) 4 [(0, .ref (am 0)), (1, .int (iI h)), (2, .int (iI t)), (3, .int (iI p))] [] (MW E am th pg n on se al) := by
    intro nf
    induction nf with
    | zero =>
      intro p t hp ht hmf
      exfalso
      omega
    | succ nf ihL4 =>
      intro p t hp ht hmf
      refine g_iload_n S dX2_many_4 rfl 3 rfl ?_
      refine g_aload_n S dX2_many_5 rfl 0 rfl ?_
      refine g_get S xK (ref := "BookIndexModel") hin2 1 (by decide) (show vwCl[2]? = some (RX2, TX2, 6) from rfl) kf9 (fun _ h9 => h9) (fun _ h => mw_x h) rfl dX2_many_6 ?_
      refine g_icmp_gt S (tgt := 35) dX2_many_9 (by decide) (by omega) (fun c9 => ?_) (fun c9 => ?_)
      · skip
        refine g_iload_n S dX2_many_35 rfl 2 rfl ?_
        rw [show (smI (fun k => on (302 * h + (k + 1))) pg.toNat) = t from by rw [show pg.toNat = (p - 1).toNat by omega, ht]]
        exact g_iret S xr xlk dX2_many_36 (fun _ h => h)
      · skip
        refine g_iload_n S dX2_many_12 rfl 2 rfl ?_
        refine g_aload_n S dX2_many_13 rfl 0 rfl ?_
        refine g_iload_n S dX2_many_14 rfl 1 rfl ?_
        refine g_iload_n S dX2_many_15 rfl 3 rfl ?_
        refine g_callV S xK (As := [.int (iI h), .int (iI p)]) (st := [.int (iI t)]) (stk' := [.int (iI (on (302 * h + p))), .int (iI t)]) (Wp' := MW E am th pg n on se al) (r := (RX2, TX2, 6)) (m_X2_has l E hj th pg n on se al h p (by omega) (by omega) hon) (cwV 2 S.2.2.2.2 gX2_many_X2_has rfl rfl rfl (by decide +kernel) ⟨Nat.le_of_ble_eq_true rfl, Nat.le_of_ble_eq_true rfl⟩) rfl rfl rfl rfl (Nat.le_of_ble_eq_true rfl) ⟨Nat.le_of_ble_eq_true rfl, Nat.le_of_ble_eq_true rfl⟩ (fun _ q => q.elim) (fun _ h => mw_x h) (fun _ h => h) (fun _ _ _ h _ _ => h) dX2_many_16 ?_
        have o19 := hon (302 * h + p)
        refine g_if_eq S (tgt := 26) dX2_many_19 (by decide) (by omega) (fun c19 => ?_) (fun c19 => ?_)
        · skip
          refine g_iconst S dX2_many_26 ?_
          refine g_iadd S dX2_many_27 ?_
          refine g_istore_n S (lv' := [(2, .int (iI (t + 0))), (0, .ref (am 0)), (1, .int (iI h)), (3, .int (iI p))]) dX2_many_28 rfl (Nat.le_of_ble_eq_true rfl) rfl ?_
          refine g_iinc S (lv' := [(3, .int (iI (p + 1))), (2, .int (iI (t + 0))), (0, .ref (am 0)), (1, .int (iI h))]) dX2_many_29 3 rfl (Nat.le_of_ble_eq_true rfl) rfl ?_
          refine g_goto S (tgt := 4) dX2_many_32 (by decide) ?_
          refine g_lv [2, 3, 1, 0] rfl ?_
          exact ihL4 (p + 1) (t + 0) (by omega) (by rw [smI_p _ hp.1, ← ht]; show _ = t + on (302 * h + (p - 1 + 1)); rw [show p - 1 + 1 = p by omega]; omega) (by omega)
        · skip
          refine g_iconst S dX2_many_22 ?_
          refine g_goto S (tgt := 27) dX2_many_23 (by decide) ?_
          refine g_iadd S dX2_many_27 ?_
          refine g_istore_n S (lv' := [(2, .int (iI (t + 1))), (0, .ref (am 0)), (1, .int (iI h)), (3, .int (iI p))]) dX2_many_28 rfl (Nat.le_of_ble_eq_true rfl) rfl ?_
          refine g_iinc S (lv' := [(3, .int (iI (p + 1))), (2, .int (iI (t + 1))), (0, .ref (am 0)), (1, .int (iI h))]) dX2_many_29 3 rfl (Nat.le_of_ble_eq_true rfl) rfl ?_
          refine g_goto S (tgt := 4) dX2_many_32 (by decide) ?_
          refine g_lv [2, 3, 1, 0] rfl ?_
          exact ihL4 (p + 1) (t + 1) (by omega) (by rw [smI_p _ hp.1, ← ht]; show _ = t + on (302 * h + (p - 1 + 1)); rw [show p - 1 + 1 = p by omega]; omega) (by omega)
  refine g_iconst S dX2_many_0 ?_
  refine g_istore_n S (lv' := [(2, .int (iI 0)), (0, .ref (am 0)), (1, .int (iI h))]) dX2_many_1 rfl (Nat.le_of_ble_eq_true rfl) rfl ?_
  refine g_iconst S dX2_many_2 ?_
  refine g_istore_n S (lv' := [(3, .int (iI 1)), (2, .int (iI 0)), (0, .ref (am 0)), (1, .int (iI h))]) dX2_many_3 rfl (Nat.le_of_ble_eq_true rfl) rfl ?_
  refine g_lv [2, 3, 1, 0] rfl ?_
  exact L4 ((pg + 1 - 1) + 1).toNat 1 0 (by omega) (rfl) (by omega)
set_option maxHeartbeats 4000000 in
set_option maxRecDepth 100000 in
theorem m_X2_common (l : Launch) (E : EN) {am : Int → Nat} (hj : INM am) (th pg n : Int) (on se : Int → Int) (al : Int → Nat) (a b : Int) (ha : 0 ≤ a ∧ a ≤ 23) (hb : 0 ≤ b ∧ b ≤ 23) (hpg : 1 ≤ pg ∧ pg ≤ 300) (hon : ∀ k, on k = 0 ∨ on k = 1) : Met l yX2_common wsX2_common ({ frames := 1, cells := 0, slots := 0, locals := 22 }) (CI E [.ref (am 0), .int (iI a), .int (iI b)] (MW E am th pg n on se al)) (QW (some (.int (iI (smI (fun k => pI (on (302 * a + (k + 1)) = 1 ∧ on (302 * b + (k + 1)) = 1)) pg.toNat)))) (MW E am th pg n on se al) (fun _ => False)) 0 0 (fun _ => False) := by
  refine g_met (cc := cX2_common) (maxL := 5) (ret := (some .int)) (lv := [(0, .ref (am 0)), (1, .int (iI a)), (2, .int (iI b))]) (by decide) rfl (Nat.le_of_ble_eq_true rfl) rfl ?_
  intro xp xe xs xm xa xb xh xc S xK xr xlk xin
  have kf9 := S.2.2.2.2 (.fieldLink RX2 9 "BookIndexModel" "pages" "I") (by decide +kernel)
  have hin2 : ∀ w ∈ wsX20, w ∈ wsX2_common := by decide +kernel
  have L5 : ∀ (nf : Nat) (p : Int) (t : Int), (1 ≤ p ∧ p ≤ pg + 1) → (t = smI (fun k => pI (on (302 * a + (k + 1)) = 1 ∧ on (302 * b + (k + 1)) = 1)) (p - 1).toNat) → (pg + 1 - p < (nf : Int)) → G xp l xe ({ frames := 1, cells := 0, slots := 0, locals := 22 }) xs xm xa xb xh xc 5 (fun _ => False) 0 0 (MQ xb (QW (some (.int (iI (smI (fun k => pI (on (302 * a + (k + 1)) = 1 ∧ on (302 * b + (k + 1)) = 1)) pg.toNat)))) (MW E am th pg n on se al) (fun _ => False)) xa xs 0 0 (fun _ => False)) 5 [(0, .ref (am 0)), (1, .int (iI a)), (2, .int (iI b)), (3, .int (iI t)), (4, .int (iI p))] [] (MW E am th pg n on se al) := by
    intro nf
    induction nf with
    | zero =>
      intro p t hp ht hmf
      exfalso
      omega
    | succ nf ihL5 =>
      intro p t hp ht hmf
      refine g_iload S dX2_common_5 4 rfl ?_
      refine g_aload_n S dX2_common_7 rfl 0 rfl ?_
      refine g_get S xK (ref := "BookIndexModel") hin2 1 (by decide) (show vwCl[2]? = some (RX2, TX2, 6) from rfl) kf9 (fun _ h9 => h9) (fun _ h => mw_x h) rfl dX2_common_8 ?_
      refine g_icmp_gt S (tgt := 48) dX2_common_11 (by decide) (by omega) (fun c11 => ?_) (fun c11 => ?_)
      · skip
        refine g_iload_n S dX2_common_48 rfl 3 rfl ?_
        rw [show (smI (fun k => pI (on (302 * a + (k + 1)) = 1 ∧ on (302 * b + (k + 1)) = 1)) pg.toNat) = t from by rw [show pg.toNat = (p - 1).toNat by omega, ht]]
        exact g_iret S xr xlk dX2_common_49 (fun _ h => h)
      · skip
        refine g_iload_n S dX2_common_14 rfl 3 rfl ?_
        refine g_aload_n S dX2_common_15 rfl 0 rfl ?_
        refine g_iload_n S dX2_common_16 rfl 1 rfl ?_
        refine g_iload S dX2_common_17 4 rfl ?_
        refine g_callV S xK (As := [.int (iI a), .int (iI p)]) (st := [.int (iI t)]) (stk' := [.int (iI (on (302 * a + p))), .int (iI t)]) (Wp' := MW E am th pg n on se al) (r := (RX2, TX2, 6)) (m_X2_has l E hj th pg n on se al a p (by omega) (by omega) hon) (cwV 2 S.2.2.2.2 gX2_common_X2_has rfl rfl rfl (by decide +kernel) ⟨Nat.le_of_ble_eq_true rfl, Nat.le_of_ble_eq_true rfl⟩) rfl rfl rfl rfl (Nat.le_of_ble_eq_true rfl) ⟨Nat.le_of_ble_eq_true rfl, Nat.le_of_ble_eq_true rfl⟩ (fun _ q => q.elim) (fun _ h => mw_x h) (fun _ h => h) (fun _ _ _ h _ _ => h) dX2_common_19 ?_
        have o22 := hon (302 * a + p)
        refine g_if_eq S (tgt := 39) dX2_common_22 (by decide) (by omega) (fun c22 => ?_) (fun c22 => ?_)
        · skip
          refine g_iconst S dX2_common_39 ?_
          refine g_iadd S dX2_common_40 ?_
          refine g_istore_n S (lv' := [(3, .int (iI (t + 0))), (0, .ref (am 0)), (1, .int (iI a)), (2, .int (iI b)), (4, .int (iI p))]) dX2_common_41 rfl (Nat.le_of_ble_eq_true rfl) rfl ?_
          refine g_iinc S (lv' := [(4, .int (iI (p + 1))), (3, .int (iI (t + 0))), (0, .ref (am 0)), (1, .int (iI a)), (2, .int (iI b))]) dX2_common_42 4 rfl (Nat.le_of_ble_eq_true rfl) rfl ?_
          refine g_goto S (tgt := 5) dX2_common_45 (by decide) ?_
          refine g_lv [2, 3, 4, 1, 0] rfl ?_
          exact ihL5 (p + 1) (t + 0) (by omega) (by rw [smI_p _ hp.1, ← ht]; show _ = t + pI (on (302 * a + (p - 1 + 1)) = 1 ∧ on (302 * b + (p - 1 + 1)) = 1); rw [show p - 1 + 1 = p by omega, pI_f (fun z => by omega)]) (by omega)
        · skip
          refine g_aload_n S dX2_common_25 rfl 0 rfl ?_
          refine g_iload_n S dX2_common_26 rfl 2 rfl ?_
          refine g_iload S dX2_common_27 4 rfl ?_
          refine g_callV S xK (As := [.int (iI b), .int (iI p)]) (st := [.int (iI t)]) (stk' := [.int (iI (on (302 * b + p))), .int (iI t)]) (Wp' := MW E am th pg n on se al) (r := (RX2, TX2, 6)) (m_X2_has l E hj th pg n on se al b p (by omega) (by omega) hon) (cwV 2 S.2.2.2.2 gX2_common_X2_has rfl rfl rfl (by decide +kernel) ⟨Nat.le_of_ble_eq_true rfl, Nat.le_of_ble_eq_true rfl⟩) rfl rfl rfl rfl (Nat.le_of_ble_eq_true rfl) ⟨Nat.le_of_ble_eq_true rfl, Nat.le_of_ble_eq_true rfl⟩ (fun _ q => q.elim) (fun _ h => mw_x h) (fun _ h => h) (fun _ _ _ h _ _ => h) dX2_common_29 ?_
          have o32 := hon (302 * b + p)
          refine g_if_eq S (tgt := 39) dX2_common_32 (by decide) (by omega) (fun c32 => ?_) (fun c32 => ?_)
          · skip
            refine g_iconst S dX2_common_39 ?_
            refine g_iadd S dX2_common_40 ?_
            refine g_istore_n S (lv' := [(3, .int (iI (t + 0))), (0, .ref (am 0)), (1, .int (iI a)), (2, .int (iI b)), (4, .int (iI p))]) dX2_common_41 rfl (Nat.le_of_ble_eq_true rfl) rfl ?_
            refine g_iinc S (lv' := [(4, .int (iI (p + 1))), (3, .int (iI (t + 0))), (0, .ref (am 0)), (1, .int (iI a)), (2, .int (iI b))]) dX2_common_42 4 rfl (Nat.le_of_ble_eq_true rfl) rfl ?_
            refine g_goto S (tgt := 5) dX2_common_45 (by decide) ?_
            refine g_lv [2, 3, 4, 1, 0] rfl ?_
            exact ihL5 (p + 1) (t + 0) (by omega) (by rw [smI_p _ hp.1, ← ht]; show _ = t + pI (on (302 * a + (p - 1 + 1)) = 1 ∧ on (302 * b + (p - 1 + 1)) = 1); rw [show p - 1 + 1 = p by omega, pI_f (fun z => by omega)]) (by omega)
          · skip
            refine g_iconst S dX2_common_35 ?_
            refine g_goto S (tgt := 40) dX2_common_36 (by decide) ?_
            refine g_iadd S dX2_common_40 ?_
            refine g_istore_n S (lv' := [(3, .int (iI (t + 1))), (0, .ref (am 0)), (1, .int (iI a)), (2, .int (iI b)), (4, .int (iI p))]) dX2_common_41 rfl (Nat.le_of_ble_eq_true rfl) rfl ?_
            refine g_iinc S (lv' := [(4, .int (iI (p + 1))), (3, .int (iI (t + 1))), (0, .ref (am 0)), (1, .int (iI a)), (2, .int (iI b))]) dX2_common_42 4 rfl (Nat.le_of_ble_eq_true rfl) rfl ?_
            refine g_goto S (tgt := 5) dX2_common_45 (by decide) ?_
            refine g_lv [2, 3, 4, 1, 0] rfl ?_
            exact ihL5 (p + 1) (t + 1) (by omega) (by rw [smI_p _ hp.1, ← ht]; show _ = t + pI (on (302 * a + (p - 1 + 1)) = 1 ∧ on (302 * b + (p - 1 + 1)) = 1); rw [show p - 1 + 1 = p by omega, pI_t ⟨by omega, by omega⟩]) (by omega)
  refine g_iconst S dX2_common_0 ?_
  refine g_istore_n S (lv' := [(3, .int (iI 0)), (0, .ref (am 0)), (1, .int (iI a)), (2, .int (iI b))]) dX2_common_1 rfl (Nat.le_of_ble_eq_true rfl) rfl ?_
  refine g_iconst S dX2_common_2 ?_
  refine g_istore S (lv' := [(4, .int (iI 1)), (3, .int (iI 0)), (0, .ref (am 0)), (1, .int (iI a)), (2, .int (iI b))]) dX2_common_3 (Nat.le_of_ble_eq_true rfl) rfl ?_
  refine g_lv [2, 3, 4, 1, 0] rfl ?_
  exact L5 ((pg + 1 - 1) + 1).toNat 1 0 (by omega) (rfl) (by omega)
set_option maxHeartbeats 4000000 in
set_option maxRecDepth 100000 in
theorem m_X2_near (l : Launch) (E : EN) {am : Int → Nat} (hj : INM am) (th pg n : Int) (on se : Int → Int) (al : Int → Nat) (h : Int) (hh : 0 ≤ h ∧ h ≤ 23) (hn : 0 ≤ n ∧ n ≤ 24) (hpg : 1 ≤ pg ∧ pg ≤ 300) (hon : ∀ k, on k = 0 ∨ on k = 1) : Met l yX2_near wsX2_near ({ frames := 2, cells := 0, slots := 0, locals := 46 }) (CI E [.ref (am 0), .int (iI h)] (MW E am th pg n on se al)) (QW (some (.int (iI ((nrS (fun o => if o = h then 0 else smI (fun k => pI (on (302 * h + (k + 1)) = 1 ∧ on (302 * o + (k + 1)) = 1)) pg.toNat) n.toNat).1)))) (MW E am th pg n on se al) (fun _ => False)) 0 0 (fun _ => False) := by
  refine g_met (cc := cX2_near) (maxL := 6) (ret := (some .int)) (lv := [(0, .ref (am 0)), (1, .int (iI h))]) (by decide) rfl (Nat.le_of_ble_eq_true rfl) rfl ?_
  intro xp xe xs xm xa xb xh xc S xK xr xlk xin
  have kf27 := S.2.2.2.2 (.fieldLink RX2 27 "BookIndexModel" "headings" "I") (by decide +kernel)
  have hin2 : ∀ w ∈ wsX20, w ∈ wsX2_near := by decide +kernel
  have L7 : ∀ (nf : Nat) (o : Int) (bst : Int) (mst : Int), (0 ≤ o ∧ o ≤ n) → (nrS (fun o => if o = h then 0 else smI (fun k => pI (on (302 * h + (k + 1)) = 1 ∧ on (302 * o + (k + 1)) = 1)) pg.toNat) o.toNat = (bst, mst)) → (0 ≤ mst ∧ mst ≤ 300) → (n - o < (nf : Int)) → G xp l xe ({ frames := 2, cells := 0, slots := 0, locals := 46 }) xs xm xa xb xh xc 6 (fun _ => False) 0 0 (MQ xb (QW (some (.int (iI ((nrS (fun o => if o = h then 0 else smI (fun k => pI (on (302 * h + (k + 1)) = 1 ∧ on (302 * o + (k + 1)) = 1)) pg.toNat) n.toNat).1)))) (MW E am th pg n on se al) (fun _ => False)) xa xs 0 0 (fun _ => False)) 7 [(0, .ref (am 0)), (1, .int (iI h)), (2, .int (iI bst)), (3, .int (iI mst)), (4, .int (iI o))] [] (MW E am th pg n on se al) := by
    intro nf
    induction nf with
    | zero =>
      intro o bst mst ho hm hmb hmf
      exfalso
      omega
    | succ nf ihL7 =>
      intro o bst mst ho hm hmb hmf
      refine g_iload S dX2_near_7 4 rfl ?_
      refine g_aload_n S dX2_near_9 rfl 0 rfl ?_
      refine g_get S xK (ref := "BookIndexModel") hin2 2 (by decide) (show vwCl[2]? = some (RX2, TX2, 6) from rfl) kf27 (fun _ h9 => h9) (fun _ h => mw_x h) rfl dX2_near_10 ?_
      refine g_icmp_ge S (tgt := 56) dX2_near_13 (by decide) (by omega) (fun c13 => ?_) (fun c13 => ?_)
      · skip
        refine g_iload_n S dX2_near_56 rfl 2 rfl ?_
        rw [show ((nrS (fun o => if o = h then 0 else smI (fun k => pI (on (302 * h + (k + 1)) = 1 ∧ on (302 * o + (k + 1)) = 1)) pg.toNat) n.toNat).1) = bst from by rw [show n.toNat = o.toNat by omega, hm]]
        exact g_iret S xr xlk dX2_near_57 (fun _ h => h)
      · skip
        have L33 : ∀ (v : Int), (v = (if o = h then 0 else smI (fun k => pI (on (302 * h + (k + 1)) = 1 ∧ on (302 * o + (k + 1)) = 1)) pg.toNat)) → (0 ≤ v ∧ v ≤ 300) → G xp l xe ({ frames := 2, cells := 0, slots := 0, locals := 46 }) xs xm xa xb xh xc 6 (fun _ => False) 0 0 (MQ xb (QW (some (.int (iI ((nrS (fun o => if o = h then 0 else smI (fun k => pI (on (302 * h + (k + 1)) = 1 ∧ on (302 * o + (k + 1)) = 1)) pg.toNat) n.toNat).1)))) (MW E am th pg n on se al) (fun _ => False)) xa xs 0 0 (fun _ => False)) 33 [(0, .ref (am 0)), (1, .int (iI h)), (2, .int (iI bst)), (3, .int (iI mst)), (4, .int (iI o))] [.int (iI v)] (MW E am th pg n on se al) := by
          intro v hv hvb
          refine g_istore S (lv' := [(5, .int (iI v)), (0, .ref (am 0)), (1, .int (iI h)), (2, .int (iI bst)), (3, .int (iI mst)), (4, .int (iI o))]) dX2_near_33 (Nat.le_of_ble_eq_true rfl) rfl ?_
          refine g_iload S dX2_near_35 0 rfl ?_
          refine g_iload_n S dX2_near_37 rfl 4 rfl ?_
          refine g_icmp_gt S (tgt := 44) dX2_near_38 (by decide) (by omega) (fun c38 => ?_) (fun c38 => ?_)
          · skip
            refine g_iload S dX2_near_44 5 rfl ?_
            refine g_istore_n S (lv' := [(2, .int (iI o)), (5, .int (iI v)), (0, .ref (am 0)), (1, .int (iI h)), (3, .int (iI mst)), (4, .int (iI o))]) dX2_near_46 rfl (Nat.le_of_ble_eq_true rfl) rfl ?_
            refine g_iload S dX2_near_47 1 rfl ?_
            refine g_istore_n S (lv' := [(3, .int (iI v)), (2, .int (iI o)), (5, .int (iI v)), (0, .ref (am 0)), (1, .int (iI h)), (4, .int (iI o))]) dX2_near_49 rfl (Nat.le_of_ble_eq_true rfl) rfl ?_
            refine g_iinc S (lv' := [(4, .int (iI (o + 1))), (3, .int (iI v)), (2, .int (iI o)), (5, .int (iI v)), (0, .ref (am 0)), (1, .int (iI h))]) dX2_near_50 5 rfl (Nat.le_of_ble_eq_true rfl) rfl ?_
            refine g_goto S (tgt := 7) dX2_near_53 (by decide) ?_
            refine g_lv [4, 5, 2, 1, 0] rfl ?_
            exact ihL7 (o + 1) o v (by omega) (by have z := nrS_y (c := fun o => if o = h then 0 else smI (fun k => pI (on (302 * h + (k + 1)) = 1 ∧ on (302 * o + (k + 1)) = 1)) pg.toNat) ho.1 hm (by rw [← hv]; exact c38); rw [← hv] at z; exact z) (by omega) (by omega)
          · skip
            refine g_goto S (tgt := 50) dX2_near_41 (by decide) ?_
            refine g_iinc S (lv' := [(4, .int (iI (o + 1))), (5, .int (iI v)), (0, .ref (am 0)), (1, .int (iI h)), (2, .int (iI bst)), (3, .int (iI mst))]) dX2_near_50 5 rfl (Nat.le_of_ble_eq_true rfl) rfl ?_
            refine g_goto S (tgt := 7) dX2_near_53 (by decide) ?_
            refine g_lv [2, 3, 4, 5, 0] rfl ?_
            exact ihL7 (o + 1) bst mst (by omega) (nrS_n (c := fun o => if o = h then 0 else smI (fun k => pI (on (302 * h + (k + 1)) = 1 ∧ on (302 * o + (k + 1)) = 1)) pg.toNat) ho.1 hm (by rw [← hv]; exact c38)) (by omega) (by omega)
        refine g_iload S dX2_near_16 4 rfl ?_
        refine g_iload_n S dX2_near_18 rfl 1 rfl ?_
        refine g_icmp_ne S (tgt := 26) dX2_near_19 (by decide) (by omega) (fun c19 => ?_) (fun c19 => ?_)
        · skip
          refine g_aload_n S dX2_near_26 rfl 0 rfl ?_
          refine g_iload_n S dX2_near_27 rfl 1 rfl ?_
          refine g_iload S dX2_near_28 4 rfl ?_
          refine g_callV S xK (As := [.int (iI h), .int (iI o)]) (st := []) (stk' := [.int (iI (smI (fun k => pI (on (302 * h + (k + 1)) = 1 ∧ on (302 * o + (k + 1)) = 1)) pg.toNat))]) (Wp' := MW E am th pg n on se al) (r := (RX2, TX2, 6)) (m_X2_common l E hj th pg n on se al h o (by omega) (by omega) hpg hon) (cwV 2 S.2.2.2.2 gX2_near_X2_common rfl rfl rfl (by decide +kernel) ⟨Nat.le_of_ble_eq_true rfl, Nat.le_of_ble_eq_true rfl⟩) rfl rfl rfl rfl (Nat.le_of_ble_eq_true rfl) ⟨Nat.le_of_ble_eq_true rfl, Nat.le_of_ble_eq_true rfl⟩ (fun _ q => q.elim) (fun _ h => mw_x h) (fun _ h => h) (fun _ _ _ h _ _ => h) dX2_near_30 ?_
          exact L33 (smI (fun k => pI (on (302 * h + (k + 1)) = 1 ∧ on (302 * o + (k + 1)) = 1)) pg.toNat) ((if_neg c19).symm) (by have z := smI_01 (z := pg) (f := fun k => pI (on (302 * h + (k + 1)) = 1 ∧ on (302 * o + (k + 1)) = 1)) (by omega) (fun k _ _ => pI_b _); omega)
        · skip
          refine g_iconst S dX2_near_22 ?_
          refine g_goto S (tgt := 33) dX2_near_23 (by decide) ?_
          exact L33 0 ((if_pos c19).symm) (by omega)
  refine g_iconst S dX2_near_0 ?_
  refine g_istore_n S (lv' := [(2, .int (iI (-1))), (0, .ref (am 0)), (1, .int (iI h))]) dX2_near_1 rfl (Nat.le_of_ble_eq_true rfl) rfl ?_
  refine g_iconst S dX2_near_2 ?_
  refine g_istore_n S (lv' := [(3, .int (iI 0)), (2, .int (iI (-1))), (0, .ref (am 0)), (1, .int (iI h))]) dX2_near_3 rfl (Nat.le_of_ble_eq_true rfl) rfl ?_
  refine g_iconst S dX2_near_4 ?_
  refine g_istore S (lv' := [(4, .int (iI 0)), (3, .int (iI 0)), (2, .int (iI (-1))), (0, .ref (am 0)), (1, .int (iI h))]) dX2_near_5 (Nat.le_of_ble_eq_true rfl) rfl ?_
  refine g_lv [3, 4, 2, 1, 0] rfl ?_
  exact L7 ((n - 0) + 1).toNat 0 (-1) 0 (by omega) (rfl) (by omega) (by omega)
set_option maxHeartbeats 4000000 in
set_option maxRecDepth 100000 in
theorem m_X2_onPage (l : Launch) (E : EN) {am : Int → Nat} (hj : INM am) (th pg n : Int) (on se : Int → Int) (al : Int → Nat) (q : Int) (hq : 0 ≤ q ∧ q ≤ 301) (hn : 0 ≤ n ∧ n ≤ 24) (hon : ∀ k, on k = 0 ∨ on k = 1) : Met l yX2_onPage wsX2_onPage ({ frames := 1, cells := 0, slots := 0, locals := 22 }) (CI E [.ref (am 0), .int (iI q)] (MW E am th pg n on se al)) (QW (some (.int (iI (smI (fun o => on (302 * o + q)) n.toNat)))) (MW E am th pg n on se al) (fun _ => False)) 0 0 (fun _ => False) := by
  refine g_met (cc := cX2_onPage) (maxL := 4) (ret := (some .int)) (lv := [(0, .ref (am 0)), (1, .int (iI q))]) (by decide) rfl (Nat.le_of_ble_eq_true rfl) rfl ?_
  intro xp xe xs xm xa xb xh xc S xK xr xlk xin
  have kf27 := S.2.2.2.2 (.fieldLink RX2 27 "BookIndexModel" "headings" "I") (by decide +kernel)
  have hin2 : ∀ w ∈ wsX20, w ∈ wsX2_onPage := by decide +kernel
  have L4 : ∀ (nf : Nat) (o : Int) (t : Int), (0 ≤ o ∧ o ≤ n) → (t = smI (fun o => on (302 * o + q)) o.toNat) → (n - o < (nf : Int)) → G xp l xe ({ frames := 1, cells := 0, slots := 0, locals := 22 }) xs xm xa xb xh xc 4 (fun _ => False) 0 0 (MQ xb (QW (some (.int (iI (smI (fun o => on (302 * o + q)) n.toNat)))) (MW E am th pg n on se al) (fun _ => False)) xa xs 0 0 (fun _ => False)) 4 [(0, .ref (am 0)), (1, .int (iI q)), (2, .int (iI t)), (3, .int (iI o))] [] (MW E am th pg n on se al) := by
    intro nf
    induction nf with
    | zero =>
      intro o t ho ht hmf
      exfalso
      omega
    | succ nf ihL4 =>
      intro o t ho ht hmf
      refine g_iload_n S dX2_onPage_4 rfl 3 rfl ?_
      refine g_aload_n S dX2_onPage_5 rfl 0 rfl ?_
      refine g_get S xK (ref := "BookIndexModel") hin2 2 (by decide) (show vwCl[2]? = some (RX2, TX2, 6) from rfl) kf27 (fun _ h9 => h9) (fun _ h => mw_x h) rfl dX2_onPage_6 ?_
      refine g_icmp_ge S (tgt := 35) dX2_onPage_9 (by decide) (by omega) (fun c9 => ?_) (fun c9 => ?_)
      · skip
        refine g_iload_n S dX2_onPage_35 rfl 2 rfl ?_
        rw [show (smI (fun o => on (302 * o + q)) n.toNat) = t from by rw [show n.toNat = o.toNat by omega, ht]]
        exact g_iret S xr xlk dX2_onPage_36 (fun _ h => h)
      · skip
        refine g_iload_n S dX2_onPage_12 rfl 2 rfl ?_
        refine g_aload_n S dX2_onPage_13 rfl 0 rfl ?_
        refine g_iload_n S dX2_onPage_14 rfl 3 rfl ?_
        refine g_iload_n S dX2_onPage_15 rfl 1 rfl ?_
        refine g_callV S xK (As := [.int (iI o), .int (iI q)]) (st := [.int (iI t)]) (stk' := [.int (iI (on (302 * o + q))), .int (iI t)]) (Wp' := MW E am th pg n on se al) (r := (RX2, TX2, 6)) (m_X2_has l E hj th pg n on se al o q (by omega) (by omega) hon) (cwV 2 S.2.2.2.2 gX2_onPage_X2_has rfl rfl rfl (by decide +kernel) ⟨Nat.le_of_ble_eq_true rfl, Nat.le_of_ble_eq_true rfl⟩) rfl rfl rfl rfl (Nat.le_of_ble_eq_true rfl) ⟨Nat.le_of_ble_eq_true rfl, Nat.le_of_ble_eq_true rfl⟩ (fun _ q => q.elim) (fun _ h => mw_x h) (fun _ h => h) (fun _ _ _ h _ _ => h) dX2_onPage_16 ?_
        have o19 := hon (302 * o + q)
        refine g_if_eq S (tgt := 26) dX2_onPage_19 (by decide) (by omega) (fun c19 => ?_) (fun c19 => ?_)
        · skip
          refine g_iconst S dX2_onPage_26 ?_
          refine g_iadd S dX2_onPage_27 ?_
          refine g_istore_n S (lv' := [(2, .int (iI (t + 0))), (0, .ref (am 0)), (1, .int (iI q)), (3, .int (iI o))]) dX2_onPage_28 rfl (Nat.le_of_ble_eq_true rfl) rfl ?_
          refine g_iinc S (lv' := [(3, .int (iI (o + 1))), (2, .int (iI (t + 0))), (0, .ref (am 0)), (1, .int (iI q))]) dX2_onPage_29 3 rfl (Nat.le_of_ble_eq_true rfl) rfl ?_
          refine g_goto S (tgt := 4) dX2_onPage_32 (by decide) ?_
          refine g_lv [2, 3, 1, 0] rfl ?_
          exact ihL4 (o + 1) (t + 0) (by omega) (by rw [smI_s _ ho.1, ← ht]; omega) (by omega)
        · skip
          refine g_iconst S dX2_onPage_22 ?_
          refine g_goto S (tgt := 27) dX2_onPage_23 (by decide) ?_
          refine g_iadd S dX2_onPage_27 ?_
          refine g_istore_n S (lv' := [(2, .int (iI (t + 1))), (0, .ref (am 0)), (1, .int (iI q)), (3, .int (iI o))]) dX2_onPage_28 rfl (Nat.le_of_ble_eq_true rfl) rfl ?_
          refine g_iinc S (lv' := [(3, .int (iI (o + 1))), (2, .int (iI (t + 1))), (0, .ref (am 0)), (1, .int (iI q))]) dX2_onPage_29 3 rfl (Nat.le_of_ble_eq_true rfl) rfl ?_
          refine g_goto S (tgt := 4) dX2_onPage_32 (by decide) ?_
          refine g_lv [2, 3, 1, 0] rfl ?_
          exact ihL4 (o + 1) (t + 1) (by omega) (by rw [smI_s _ ho.1, ← ht]; omega) (by omega)
  refine g_iconst S dX2_onPage_0 ?_
  refine g_istore_n S (lv' := [(2, .int (iI 0)), (0, .ref (am 0)), (1, .int (iI q))]) dX2_onPage_1 rfl (Nat.le_of_ble_eq_true rfl) rfl ?_
  refine g_iconst S dX2_onPage_2 ?_
  refine g_istore_n S (lv' := [(3, .int (iI 0)), (2, .int (iI 0)), (0, .ref (am 0)), (1, .int (iI q))]) dX2_onPage_3 rfl (Nat.le_of_ble_eq_true rfl) rfl ?_
  refine g_lv [2, 3, 1, 0] rfl ?_
  exact L4 ((n - 0) + 1).toNat 0 0 (by omega) (rfl) (by omega)
set_option maxHeartbeats 4000000 in
set_option maxRecDepth 100000 in
theorem m_X2_bare (l : Launch) (E : EN) {am : Int → Nat} (hj : INM am) (th pg n : Int) (on se : Int → Int) (al : Int → Nat) (hn : 0 ≤ n ∧ n ≤ 24) (hpg : 1 ≤ pg ∧ pg ≤ 300) (hon : ∀ k, on k = 0 ∨ on k = 1) : Met l yX2_bare wsX2_bare ({ frames := 2, cells := 0, slots := 0, locals := 45 }) (CI E [.ref (am 0)] (MW E am th pg n on se al)) (QW (some (.int (iI (smI (fun k => pI (smI (fun o => on (302 * o + (k + 1))) n.toNat = 0)) pg.toNat)))) (MW E am th pg n on se al) (fun _ => False)) 0 0 (fun _ => False) := by
  refine g_met (cc := cX2_bare) (maxL := 3) (ret := (some .int)) (lv := [(0, .ref (am 0))]) (by decide) rfl (Nat.le_of_ble_eq_true rfl) rfl ?_
  intro xp xe xs xm xa xb xh xc S xK xr xlk xin
  have kf9 := S.2.2.2.2 (.fieldLink RX2 9 "BookIndexModel" "pages" "I") (by decide +kernel)
  have hin2 : ∀ w ∈ wsX20, w ∈ wsX2_bare := by decide +kernel
  have L4 : ∀ (nf : Nat) (p : Int) (t : Int), (1 ≤ p ∧ p ≤ pg + 1) → (t = smI (fun k => pI (smI (fun o => on (302 * o + (k + 1))) n.toNat = 0)) (p - 1).toNat) → (pg + 1 - p < (nf : Int)) → G xp l xe ({ frames := 2, cells := 0, slots := 0, locals := 45 }) xs xm xa xb xh xc 3 (fun _ => False) 0 0 (MQ xb (QW (some (.int (iI (smI (fun k => pI (smI (fun o => on (302 * o + (k + 1))) n.toNat = 0)) pg.toNat)))) (MW E am th pg n on se al) (fun _ => False)) xa xs 0 0 (fun _ => False)) 4 [(0, .ref (am 0)), (1, .int (iI t)), (2, .int (iI p))] [] (MW E am th pg n on se al) := by
    intro nf
    induction nf with
    | zero =>
      intro p t hp ht hmf
      exfalso
      omega
    | succ nf ihL4 =>
      intro p t hp ht hmf
      refine g_iload_n S dX2_bare_4 rfl 2 rfl ?_
      refine g_aload_n S dX2_bare_5 rfl 0 rfl ?_
      refine g_get S xK (ref := "BookIndexModel") hin2 1 (by decide) (show vwCl[2]? = some (RX2, TX2, 6) from rfl) kf9 (fun _ h9 => h9) (fun _ h => mw_x h) rfl dX2_bare_6 ?_
      refine g_icmp_gt S (tgt := 34) dX2_bare_9 (by decide) (by omega) (fun c9 => ?_) (fun c9 => ?_)
      · skip
        refine g_iload_n S dX2_bare_34 rfl 1 rfl ?_
        rw [show (smI (fun k => pI (smI (fun o => on (302 * o + (k + 1))) n.toNat = 0)) pg.toNat) = t from by rw [show pg.toNat = (p - 1).toNat by omega, ht]]
        exact g_iret S xr xlk dX2_bare_35 (fun _ h => h)
      · skip
        refine g_iload_n S dX2_bare_12 rfl 1 rfl ?_
        refine g_aload_n S dX2_bare_13 rfl 0 rfl ?_
        refine g_iload_n S dX2_bare_14 rfl 2 rfl ?_
        refine g_callV S xK (As := [.int (iI p)]) (st := [.int (iI t)]) (stk' := [.int (iI (smI (fun o => on (302 * o + p)) n.toNat)), .int (iI t)]) (Wp' := MW E am th pg n on se al) (r := (RX2, TX2, 6)) (m_X2_onPage l E hj th pg n on se al p (by omega) hn hon) (cwV 1 S.2.2.2.2 gX2_bare_X2_onPage rfl rfl rfl (by decide +kernel) ⟨Nat.le_of_ble_eq_true rfl, Nat.le_of_ble_eq_true rfl⟩) rfl rfl rfl rfl (Nat.le_of_ble_eq_true rfl) ⟨Nat.le_of_ble_eq_true rfl, Nat.le_of_ble_eq_true rfl⟩ (fun _ q => q.elim) (fun _ h => mw_x h) (fun _ h => h) (fun _ _ _ h _ _ => h) dX2_bare_15 ?_
        have o918 := smI_01 (z := n) (f := fun o => on (302 * o + p)) (by omega) (fun k _ _ => by have z := hon (302 * k + p); omega)
        refine g_if_ne S (tgt := 25) dX2_bare_18 (by decide) (by omega) (fun c18 => ?_) (fun c18 => ?_)
        · skip
          refine g_iconst S dX2_bare_25 ?_
          refine g_iadd S dX2_bare_26 ?_
          refine g_istore_n S (lv' := [(1, .int (iI (t + 0))), (0, .ref (am 0)), (2, .int (iI p))]) dX2_bare_27 rfl (Nat.le_of_ble_eq_true rfl) rfl ?_
          refine g_iinc S (lv' := [(2, .int (iI (p + 1))), (1, .int (iI (t + 0))), (0, .ref (am 0))]) dX2_bare_28 2 rfl (Nat.le_of_ble_eq_true rfl) rfl ?_
          refine g_goto S (tgt := 4) dX2_bare_31 (by decide) ?_
          refine g_lv [2, 1, 0] rfl ?_
          exact ihL4 (p + 1) (t + 0) (by omega) (by rw [smI_p _ hp.1, ← ht]; show _ = t + pI (smI (fun o => on (302 * o + (p - 1 + 1))) n.toNat = 0); rw [show p - 1 + 1 = p by omega, pI_f c18]) (by omega)
        · skip
          refine g_iconst S dX2_bare_21 ?_
          refine g_goto S (tgt := 26) dX2_bare_22 (by decide) ?_
          refine g_iadd S dX2_bare_26 ?_
          refine g_istore_n S (lv' := [(1, .int (iI (t + 1))), (0, .ref (am 0)), (2, .int (iI p))]) dX2_bare_27 rfl (Nat.le_of_ble_eq_true rfl) rfl ?_
          refine g_iinc S (lv' := [(2, .int (iI (p + 1))), (1, .int (iI (t + 1))), (0, .ref (am 0))]) dX2_bare_28 2 rfl (Nat.le_of_ble_eq_true rfl) rfl ?_
          refine g_goto S (tgt := 4) dX2_bare_31 (by decide) ?_
          refine g_lv [2, 1, 0] rfl ?_
          exact ihL4 (p + 1) (t + 1) (by omega) (by rw [smI_p _ hp.1, ← ht]; show _ = t + pI (smI (fun o => on (302 * o + (p - 1 + 1))) n.toNat = 0); rw [show p - 1 + 1 = p by omega, pI_t c18]) (by omega)
  refine g_iconst S dX2_bare_0 ?_
  refine g_istore_n S (lv' := [(1, .int (iI 0)), (0, .ref (am 0))]) dX2_bare_1 rfl (Nat.le_of_ble_eq_true rfl) rfl ?_
  refine g_iconst S dX2_bare_2 ?_
  refine g_istore_n S (lv' := [(2, .int (iI 1)), (1, .int (iI 0)), (0, .ref (am 0))]) dX2_bare_3 rfl (Nat.le_of_ble_eq_true rfl) rfl ?_
  refine g_lv [2, 1, 0] rfl ?_
  exact L4 ((pg + 1 - 1) + 1).toNat 1 0 (by omega) (rfl) (by omega)
set_option maxHeartbeats 4000000 in
set_option maxRecDepth 100000 in
theorem m_X2_fullest (l : Launch) (E : EN) {am : Int → Nat} (hj : INM am) (th pg n : Int) (on se : Int → Int) (al : Int → Nat) (hn : 0 ≤ n ∧ n ≤ 24) (hpg : 1 ≤ pg ∧ pg ≤ 300) (hon : ∀ k, on k = 0 ∨ on k = 1) : Met l yX2_fullest wsX2_fullest ({ frames := 2, cells := 0, slots := 0, locals := 45 }) (CI E [.ref (am 0)] (MW E am th pg n on se al)) (QW (some (.int (iI (flS (fun q => smI (fun o => on (302 * o + q)) n.toNat) (pg - 1).toNat)))) (MW E am th pg n on se al) (fun _ => False)) 0 0 (fun _ => False) := by
  refine g_met (cc := cX2_fullest) (maxL := 3) (ret := (some .int)) (lv := [(0, .ref (am 0))]) (by decide) rfl (Nat.le_of_ble_eq_true rfl) rfl ?_
  intro xp xe xs xm xa xb xh xc S xK xr xlk xin
  have kf9 := S.2.2.2.2 (.fieldLink RX2 9 "BookIndexModel" "pages" "I") (by decide +kernel)
  have hin2 : ∀ w ∈ wsX20, w ∈ wsX2_fullest := by decide +kernel
  have L4 : ∀ (nf : Nat) (p : Int) (b : Int), (2 ≤ p ∧ p ≤ pg + 1) → (flS (fun q => smI (fun o => on (302 * o + q)) n.toNat) (p - 2).toNat = b) → (1 ≤ b ∧ b ≤ pg) → (pg + 1 - p < (nf : Int)) → G xp l xe ({ frames := 2, cells := 0, slots := 0, locals := 45 }) xs xm xa xb xh xc 3 (fun _ => False) 0 0 (MQ xb (QW (some (.int (iI (flS (fun q => smI (fun o => on (302 * o + q)) n.toNat) (pg - 1).toNat)))) (MW E am th pg n on se al) (fun _ => False)) xa xs 0 0 (fun _ => False)) 4 [(0, .ref (am 0)), (1, .int (iI b)), (2, .int (iI p))] [] (MW E am th pg n on se al) := by
    intro nf
    induction nf with
    | zero =>
      intro p b hp ht hb hmf
      exfalso
      omega
    | succ nf ihL4 =>
      intro p b hp ht hb hmf
      refine g_iload_n S dX2_fullest_4 rfl 2 rfl ?_
      refine g_aload_n S dX2_fullest_5 rfl 0 rfl ?_
      refine g_get S xK (ref := "BookIndexModel") hin2 1 (by decide) (show vwCl[2]? = some (RX2, TX2, 6) from rfl) kf9 (fun _ h9 => h9) (fun _ h => mw_x h) rfl dX2_fullest_6 ?_
      refine g_icmp_gt S (tgt := 33) dX2_fullest_9 (by decide) (by omega) (fun c9 => ?_) (fun c9 => ?_)
      · skip
        refine g_iload_n S dX2_fullest_33 rfl 1 rfl ?_
        rw [show (flS (fun q => smI (fun o => on (302 * o + q)) n.toNat) (pg - 1).toNat) = b from by rw [show (pg - 1).toNat = (p - 2).toNat by omega, ht]]
        exact g_iret S xr xlk dX2_fullest_34 (fun _ h => h)
      · skip
        refine g_aload_n S dX2_fullest_12 rfl 0 rfl ?_
        refine g_iload_n S dX2_fullest_13 rfl 2 rfl ?_
        refine g_callV S xK (As := [.int (iI p)]) (st := []) (stk' := [.int (iI (smI (fun o => on (302 * o + p)) n.toNat))]) (Wp' := MW E am th pg n on se al) (r := (RX2, TX2, 6)) (m_X2_onPage l E hj th pg n on se al p (by omega) hn hon) (cwV 1 S.2.2.2.2 gX2_fullest_X2_onPage rfl rfl rfl (by decide +kernel) ⟨Nat.le_of_ble_eq_true rfl, Nat.le_of_ble_eq_true rfl⟩) rfl rfl rfl rfl (Nat.le_of_ble_eq_true rfl) ⟨Nat.le_of_ble_eq_true rfl, Nat.le_of_ble_eq_true rfl⟩ (fun _ q => q.elim) (fun _ h => mw_x h) (fun _ h => h) (fun _ _ _ h _ _ => h) dX2_fullest_14 ?_
        refine g_aload_n S dX2_fullest_17 rfl 0 rfl ?_
        refine g_iload_n S dX2_fullest_18 rfl 1 rfl ?_
        refine g_callV S xK (As := [.int (iI b)]) (st := [.int (iI (smI (fun o => on (302 * o + p)) n.toNat))]) (stk' := [.int (iI (smI (fun o => on (302 * o + b)) n.toNat)), .int (iI (smI (fun o => on (302 * o + p)) n.toNat))]) (Wp' := MW E am th pg n on se al) (r := (RX2, TX2, 6)) (m_X2_onPage l E hj th pg n on se al b (by omega) hn hon) (cwV 1 S.2.2.2.2 gX2_fullest_X2_onPage rfl rfl rfl (by decide +kernel) ⟨Nat.le_of_ble_eq_true rfl, Nat.le_of_ble_eq_true rfl⟩) rfl rfl rfl rfl (Nat.le_of_ble_eq_true rfl) ⟨Nat.le_of_ble_eq_true rfl, Nat.le_of_ble_eq_true rfl⟩ (fun _ q => q.elim) (fun _ h => mw_x h) (fun _ h => h) (fun _ _ _ h _ _ => h) dX2_fullest_19 ?_
        have o922 := smI_01 (z := n) (f := fun o => on (302 * o + p)) (by omega) (fun k _ _ => by have z := hon (302 * k + p); omega)
        have o923 := smI_01 (z := n) (f := fun o => on (302 * o + b)) (by omega) (fun k _ _ => by have z := hon (302 * k + b); omega)
        refine g_icmp_le S (tgt := 27) dX2_fullest_22 (by decide) (by omega) (fun c22 => ?_) (fun c22 => ?_)
        · skip
          refine g_iinc S (lv' := [(2, .int (iI (p + 1))), (0, .ref (am 0)), (1, .int (iI b))]) dX2_fullest_27 2 rfl (Nat.le_of_ble_eq_true rfl) rfl ?_
          refine g_goto S (tgt := 4) dX2_fullest_30 (by decide) ?_
          refine g_lv [1, 2, 0] rfl ?_
          exact ihL4 (p + 1) b (by omega) (flS_n hp.1 ht c22) (by omega) (by omega)
        · skip
          refine g_iload_n S dX2_fullest_25 rfl 2 rfl ?_
          refine g_istore_n S (lv' := [(1, .int (iI p)), (0, .ref (am 0)), (2, .int (iI p))]) dX2_fullest_26 rfl (Nat.le_of_ble_eq_true rfl) rfl ?_
          refine g_iinc S (lv' := [(2, .int (iI (p + 1))), (1, .int (iI p)), (0, .ref (am 0))]) dX2_fullest_27 2 rfl (Nat.le_of_ble_eq_true rfl) rfl ?_
          refine g_goto S (tgt := 4) dX2_fullest_30 (by decide) ?_
          refine g_lv [2, 1, 0] rfl ?_
          exact ihL4 (p + 1) p (by omega) (flS_y hp.1 ht c22) (by omega) (by omega)
  refine g_iconst S dX2_fullest_0 ?_
  refine g_istore_n S (lv' := [(1, .int (iI 1)), (0, .ref (am 0))]) dX2_fullest_1 rfl (Nat.le_of_ble_eq_true rfl) rfl ?_
  refine g_iconst S dX2_fullest_2 ?_
  refine g_istore_n S (lv' := [(2, .int (iI 2)), (1, .int (iI 1)), (0, .ref (am 0))]) dX2_fullest_3 rfl (Nat.le_of_ble_eq_true rfl) rfl ?_
  refine g_lv [2, 1, 0] rfl ?_
  exact L4 ((pg + 1 - 2) + 1).toNat 2 1 (by omega) (rfl) (by omega) (by omega)
set_option maxHeartbeats 4000000 in
set_option maxRecDepth 100000 in
theorem m_X2_end (l : Launch) (E : EN) {am : Int → Nat} (hj : INM am) (th pg n : Int) (on se : Int → Int) (al : Int → Nat) (h : Int) (hh : 0 ≤ h ∧ h < n) (hn : 0 ≤ n ∧ n ≤ 24) (hgr : GR se al n) : Met l yX2_end wsX2_end ({ frames := 0, cells := 0, slots := 0, locals := 0 }) (CI E [.ref (am 0), .int (iI h)] (MW E am th pg n on se al)) (QW (some (.int (iI (eS se (n + 1).toNat h)))) (MW E am th pg n on se al) (fun _ => False)) 0 0 (fun _ => False) := by
  refine g_met (cc := cX2_end) (maxL := 4) (ret := (some .int)) (lv := [(0, .ref (am 0)), (1, .int (iI h))]) (by decide) rfl (Nat.le_of_ble_eq_true rfl) rfl ?_
  intro xp xe xs xm xa xb xh xc S xK xr xlk xin
  have kf27 := S.2.2.2.2 (.fieldLink RX2 27 "BookIndexModel" "headings" "I") (by decide +kernel)
  have kf17 := S.2.2.2.2 (.fieldLink RX2 17 "BookIndexModel" "see" "[I") (by decide +kernel)
  have hin2 : ∀ w ∈ wsX20, w ∈ wsX2_end := by decide +kernel
  have L4 : ∀ (nf : Nat) (x : Int) (k : Int), (0 ≤ k ∧ k ≤ n + 1 ∧ 0 ≤ x ∧ x < n) → (eS se (n + 1 - k).toNat x = eS se (n + 1).toNat h) → (n + 1 - k < (nf : Int)) → G xp l xe ({ frames := 0, cells := 0, slots := 0, locals := 0 }) xs xm xa xb xh xc 4 (fun _ => False) 0 0 (MQ xb (QW (some (.int (iI (eS se (n + 1).toNat h)))) (MW E am th pg n on se al) (fun _ => False)) xa xs 0 0 (fun _ => False)) 4 [(0, .ref (am 0)), (1, .int (iI h)), (2, .int (iI x)), (3, .int (iI k))] [] (MW E am th pg n on se al) := by
    intro nf
    induction nf with
    | zero =>
      intro x k hk ht hmf
      exfalso
      omega
    | succ nf ihL4 =>
      intro x k hk ht hmf
      refine g_iload_n S dX2_end_4 rfl 3 rfl ?_
      refine g_aload_n S dX2_end_5 rfl 0 rfl ?_
      refine g_get S xK (ref := "BookIndexModel") hin2 2 (by decide) (show vwCl[2]? = some (RX2, TX2, 6) from rfl) kf27 (fun _ h9 => h9) (fun _ h => mw_x h) rfl dX2_end_6 ?_
      refine g_icmp_gt S (tgt := 37) dX2_end_9 (by decide) (by omega) (fun c9 => ?_) (fun c9 => ?_)
      · skip
        refine g_iconst S dX2_end_37 ?_
        rw [show (eS se (n + 1).toNat h) = (-1) from by rw [← ht, show (n + 1 - k).toNat = 0 by omega]; rfl]
        exact g_iret S xr xlk dX2_end_38 (fun _ h => h)
      · skip
        have s12 := hgr.1 x (by omega) (by omega)
        refine g_aload_n S dX2_end_12 rfl 0 rfl ?_
        refine g_get S xK (ref := "BookIndexModel") hin2 4 (by decide) (show vwCl[2]? = some (RX2, TX2, 6) from rfl) kf17 (fun _ h9 => h9) (fun _ h => mw_x h) rfl dX2_end_13 ?_
        refine g_iload_n S dX2_end_16 rfl 2 rfl ?_
        refine g_iald S xK (n := 24) (fun _ h => mw_se h) (by omega) (by decide) dX2_end_17 ?_
        refine g_iconst S dX2_end_18 ?_
        refine g_icmp_ne S (tgt := 24) dX2_end_19 (by decide) (by omega) (fun c19 => ?_) (fun c19 => ?_)
        · skip
          refine g_aload_n S dX2_end_24 rfl 0 rfl ?_
          refine g_get S xK (ref := "BookIndexModel") hin2 4 (by decide) (show vwCl[2]? = some (RX2, TX2, 6) from rfl) kf17 (fun _ h9 => h9) (fun _ h => mw_x h) rfl dX2_end_25 ?_
          refine g_iload_n S dX2_end_28 rfl 2 rfl ?_
          refine g_iald S xK (n := 24) (fun _ h => mw_se h) (by omega) (by decide) dX2_end_29 ?_
          refine g_istore_n S (lv' := [(2, .int (iI (se x))), (0, .ref (am 0)), (1, .int (iI h)), (3, .int (iI k))]) dX2_end_30 rfl (Nat.le_of_ble_eq_true rfl) rfl ?_
          refine g_iinc S (lv' := [(3, .int (iI (k + 1))), (2, .int (iI (se x))), (0, .ref (am 0)), (1, .int (iI h))]) dX2_end_31 3 rfl (Nat.le_of_ble_eq_true rfl) rfl ?_
          refine g_goto S (tgt := 4) dX2_end_34 (by decide) ?_
          refine g_lv [2, 3, 1, 0] rfl ?_
          exact ihL4 (se x) (k + 1) (by omega) (by rw [← ht, eS_n (t := n + 1 - k) (by omega) c19, show n + 1 - (k + 1) = n + 1 - k - 1 by omega]) (by omega)
        · skip
          refine g_iload_n S dX2_end_22 rfl 2 rfl ?_
          rw [show (eS se (n + 1).toNat h) = x from by rw [← ht, eS_y (by omega) c19]]
          exact g_iret S xr xlk dX2_end_23 (fun _ h => h)
  refine g_iload_n S dX2_end_0 rfl 1 rfl ?_
  refine g_istore_n S (lv' := [(2, .int (iI h)), (0, .ref (am 0)), (1, .int (iI h))]) dX2_end_1 rfl (Nat.le_of_ble_eq_true rfl) rfl ?_
  refine g_iconst S dX2_end_2 ?_
  refine g_istore_n S (lv' := [(3, .int (iI 0)), (2, .int (iI h)), (0, .ref (am 0)), (1, .int (iI h))]) dX2_end_3 rfl (Nat.le_of_ble_eq_true rfl) rfl ?_
  refine g_lv [2, 3, 1, 0] rfl ?_
  exact L4 ((n + 1 - 0) + 1).toNat h 0 (by omega) (by rw [show n + 1 - 0 = n + 1 by omega]) (by omega)
set_option maxHeartbeats 4000000 in
set_option maxRecDepth 100000 in
theorem m_X2_vain (l : Launch) (E : EN) {am : Int → Nat} (hj : INM am) (th pg n : Int) (on se : Int → Int) (al : Int → Nat) (hn : 0 ≤ n ∧ n ≤ 24) (hpg : 1 ≤ pg ∧ pg ≤ 300) (hon : ∀ k, on k = 0 ∨ on k = 1) (hgr : GR se al n) : Met l yX2_vain wsX2_vain ({ frames := 2, cells := 0, slots := 0, locals := 45 }) (CI E [.ref (am 0)] (MW E am th pg n on se al)) (QW (some (.int (iI (smI (fun h => pI ((fun h => se h ≠ -1 ∧ (eS se (n + 1).toNat h = -1 ∨ smI (fun k => on (302 * eS se (n + 1).toNat h + (k + 1))) pg.toNat = 0)) h)) n.toNat)))) (MW E am th pg n on se al) (fun _ => False)) 0 0 (fun _ => False) := by
  refine g_met (cc := cX2_vain) (maxL := 3) (ret := (some .int)) (lv := [(0, .ref (am 0))]) (by decide) rfl (Nat.le_of_ble_eq_true rfl) rfl ?_
  intro xp xe xs xm xa xb xh xc S xK xr xlk xin
  have kf27 := S.2.2.2.2 (.fieldLink RX2 27 "BookIndexModel" "headings" "I") (by decide +kernel)
  have kf17 := S.2.2.2.2 (.fieldLink RX2 17 "BookIndexModel" "see" "[I") (by decide +kernel)
  have hin2 : ∀ w ∈ wsX20, w ∈ wsX2_vain := by decide +kernel
  have L4 : ∀ (nf : Nat) (o : Int) (t : Int), (0 ≤ o ∧ o ≤ n) → (t = smI (fun h => pI ((fun h => se h ≠ -1 ∧ (eS se (n + 1).toNat h = -1 ∨ smI (fun k => on (302 * eS se (n + 1).toNat h + (k + 1))) pg.toNat = 0)) h)) o.toNat) → (n - o < (nf : Int)) → G xp l xe ({ frames := 2, cells := 0, slots := 0, locals := 45 }) xs xm xa xb xh xc 3 (fun _ => False) 0 0 (MQ xb (QW (some (.int (iI (smI (fun h => pI ((fun h => se h ≠ -1 ∧ (eS se (n + 1).toNat h = -1 ∨ smI (fun k => on (302 * eS se (n + 1).toNat h + (k + 1))) pg.toNat = 0)) h)) n.toNat)))) (MW E am th pg n on se al) (fun _ => False)) xa xs 0 0 (fun _ => False)) 4 [(0, .ref (am 0)), (1, .int (iI t)), (2, .int (iI o))] [] (MW E am th pg n on se al) := by
    intro nf
    induction nf with
    | zero =>
      intro o t ho ht hmf
      exfalso
      omega
    | succ nf ihL4 =>
      intro o t ho ht hmf
      refine g_iload_n S dX2_vain_4 rfl 2 rfl ?_
      refine g_aload_n S dX2_vain_5 rfl 0 rfl ?_
      refine g_get S xK (ref := "BookIndexModel") hin2 2 (by decide) (show vwCl[2]? = some (RX2, TX2, 6) from rfl) kf27 (fun _ h9 => h9) (fun _ h => mw_x h) rfl dX2_vain_6 ?_
      refine g_icmp_ge S (tgt := 57) dX2_vain_9 (by decide) (by omega) (fun c9 => ?_) (fun c9 => ?_)
      · skip
        refine g_iload_n S dX2_vain_57 rfl 1 rfl ?_
        rw [show (smI (fun h => pI ((fun h => se h ≠ -1 ∧ (eS se (n + 1).toNat h = -1 ∨ smI (fun k => on (302 * eS se (n + 1).toNat h + (k + 1))) pg.toNat = 0)) h)) n.toNat) = t from by rw [show n.toNat = o.toNat by omega, ht]]
        exact g_iret S xr xlk dX2_vain_58 (fun _ h => h)
      · skip
        refine g_iload_n S dX2_vain_12 rfl 1 rfl ?_
        refine g_aload_n S dX2_vain_13 rfl 0 rfl ?_
        refine g_get S xK (ref := "BookIndexModel") hin2 4 (by decide) (show vwCl[2]? = some (RX2, TX2, 6) from rfl) kf17 (fun _ h9 => h9) (fun _ h => mw_x h) rfl dX2_vain_14 ?_
        refine g_iload_n S dX2_vain_17 rfl 2 rfl ?_
        refine g_iald S xK (n := 24) (fun _ h => mw_se h) (by omega) (by decide) dX2_vain_18 ?_
        refine g_iconst S dX2_vain_19 ?_
        have s20 := hgr.1 o (by omega) (by omega)
        refine g_icmp_eq S (tgt := 48) dX2_vain_20 (by decide) (by omega) (fun c20 => ?_) (fun c20 => ?_)
        · skip
          refine g_iconst S dX2_vain_48 ?_
          refine g_iadd S dX2_vain_49 ?_
          refine g_istore_n S (lv' := [(1, .int (iI (t + 0))), (0, .ref (am 0)), (2, .int (iI o))]) dX2_vain_50 rfl (Nat.le_of_ble_eq_true rfl) rfl ?_
          refine g_iinc S (lv' := [(2, .int (iI (o + 1))), (1, .int (iI (t + 0))), (0, .ref (am 0))]) dX2_vain_51 2 rfl (Nat.le_of_ble_eq_true rfl) rfl ?_
          refine g_goto S (tgt := 4) dX2_vain_54 (by decide) ?_
          refine g_lv [2, 1, 0] rfl ?_
          exact ihL4 (o + 1) (t + 0) (by omega) (by rw [smI_s _ ho.1, ← ht]; show t + 0 = t + pI ((fun h => se h ≠ -1 ∧ (eS se (n + 1).toNat h = -1 ∨ smI (fun k => on (302 * eS se (n + 1).toNat h + (k + 1))) pg.toNat = 0)) o); rw [pI_f (fun z => z.1 c20)]) (by omega)
        · skip
          refine g_aload_n S dX2_vain_23 rfl 0 rfl ?_
          refine g_iload_n S dX2_vain_24 rfl 2 rfl ?_
          refine g_callV S xK (As := [.int (iI o)]) (st := [.int (iI t)]) (stk' := [.int (iI (eS se (n + 1).toNat o)), .int (iI t)]) (Wp' := MW E am th pg n on se al) (r := (RX2, TX2, 6)) (m_X2_end l E hj th pg n on se al o (by omega) hn hgr) (cwV 1 S.2.2.2.2 gX2_vain_X2_end rfl rfl rfl (by decide +kernel) ⟨Nat.le_of_ble_eq_true rfl, Nat.le_of_ble_eq_true rfl⟩) rfl rfl rfl rfl (Nat.le_of_ble_eq_true rfl) ⟨Nat.le_of_ble_eq_true rfl, Nat.le_of_ble_eq_true rfl⟩ (fun _ q => q.elim) (fun _ h => mw_x h) (fun _ h => h) (fun _ _ _ h _ _ => h) dX2_vain_25 ?_
          refine g_iconst S dX2_vain_28 ?_
          have s29 := eS_rng hgr.1 (n + 1).toNat o (by omega) (by omega)
          refine g_icmp_eq S (tgt := 44) dX2_vain_29 (by decide) (by omega) (fun c29 => ?_) (fun c29 => ?_)
          · skip
            refine g_iconst S dX2_vain_44 ?_
            refine g_goto S (tgt := 49) dX2_vain_45 (by decide) ?_
            refine g_iadd S dX2_vain_49 ?_
            refine g_istore_n S (lv' := [(1, .int (iI (t + 1))), (0, .ref (am 0)), (2, .int (iI o))]) dX2_vain_50 rfl (Nat.le_of_ble_eq_true rfl) rfl ?_
            refine g_iinc S (lv' := [(2, .int (iI (o + 1))), (1, .int (iI (t + 1))), (0, .ref (am 0))]) dX2_vain_51 2 rfl (Nat.le_of_ble_eq_true rfl) rfl ?_
            refine g_goto S (tgt := 4) dX2_vain_54 (by decide) ?_
            refine g_lv [2, 1, 0] rfl ?_
            exact ihL4 (o + 1) (t + 1) (by omega) (by rw [smI_s _ ho.1, ← ht]; show t + 1 = t + pI ((fun h => se h ≠ -1 ∧ (eS se (n + 1).toNat h = -1 ∨ smI (fun k => on (302 * eS se (n + 1).toNat h + (k + 1))) pg.toNat = 0)) o); rw [pI_t ⟨c20, Or.inl c29⟩]) (by omega)
          · skip
            refine g_aload_n S dX2_vain_32 rfl 0 rfl ?_
            refine g_aload_n S dX2_vain_33 rfl 0 rfl ?_
            refine g_iload_n S dX2_vain_34 rfl 2 rfl ?_
            refine g_callV S xK (As := [.int (iI o)]) (st := [.ref (am 0), .int (iI t)]) (stk' := [.int (iI (eS se (n + 1).toNat o)), .ref (am 0), .int (iI t)]) (Wp' := MW E am th pg n on se al) (r := (RX2, TX2, 6)) (m_X2_end l E hj th pg n on se al o (by omega) hn hgr) (cwV 1 S.2.2.2.2 gX2_vain_X2_end rfl rfl rfl (by decide +kernel) ⟨Nat.le_of_ble_eq_true rfl, Nat.le_of_ble_eq_true rfl⟩) rfl rfl rfl rfl (Nat.le_of_ble_eq_true rfl) ⟨Nat.le_of_ble_eq_true rfl, Nat.le_of_ble_eq_true rfl⟩ (fun _ q => q.elim) (fun _ h => mw_x h) (fun _ h => h) (fun _ _ _ h _ _ => h) dX2_vain_35 ?_
            refine g_callV S xK (As := [.int (iI (eS se (n + 1).toNat o))]) (st := [.int (iI t)]) (stk' := [.int (iI (smI (fun k => on (302 * (eS se (n + 1).toNat o) + (k + 1))) pg.toNat)), .int (iI t)]) (Wp' := MW E am th pg n on se al) (r := (RX2, TX2, 6)) (m_X2_many l E hj th pg n on se al (eS se (n + 1).toNat o) (by omega) hpg hon) (cwV 1 S.2.2.2.2 gX2_vain_X2_many rfl rfl rfl (by decide +kernel) ⟨Nat.le_of_ble_eq_true rfl, Nat.le_of_ble_eq_true rfl⟩) rfl rfl rfl rfl (Nat.le_of_ble_eq_true rfl) ⟨Nat.le_of_ble_eq_true rfl, Nat.le_of_ble_eq_true rfl⟩ (fun _ q => q.elim) (fun _ h => mw_x h) (fun _ h => h) (fun _ _ _ h _ _ => h) dX2_vain_38 ?_
            have s41 := smI_01 (z := pg) (f := fun k => on (302 * eS se (n + 1).toNat o + (k + 1))) (by omega) (fun k _ _ => by have z := hon (302 * eS se (n + 1).toNat o + (k + 1)); omega)
            refine g_if_ne S (tgt := 48) dX2_vain_41 (by decide) (by omega) (fun c41 => ?_) (fun c41 => ?_)
            · skip
              refine g_iconst S dX2_vain_48 ?_
              refine g_iadd S dX2_vain_49 ?_
              refine g_istore_n S (lv' := [(1, .int (iI (t + 0))), (0, .ref (am 0)), (2, .int (iI o))]) dX2_vain_50 rfl (Nat.le_of_ble_eq_true rfl) rfl ?_
              refine g_iinc S (lv' := [(2, .int (iI (o + 1))), (1, .int (iI (t + 0))), (0, .ref (am 0))]) dX2_vain_51 2 rfl (Nat.le_of_ble_eq_true rfl) rfl ?_
              refine g_goto S (tgt := 4) dX2_vain_54 (by decide) ?_
              refine g_lv [2, 1, 0] rfl ?_
              exact ihL4 (o + 1) (t + 0) (by omega) (by rw [smI_s _ ho.1, ← ht]; show t + 0 = t + pI ((fun h => se h ≠ -1 ∧ (eS se (n + 1).toNat h = -1 ∨ smI (fun k => on (302 * eS se (n + 1).toNat h + (k + 1))) pg.toNat = 0)) o); rw [pI_f (fun z => z.2.elim c29 c41)]) (by omega)
            · skip
              refine g_iconst S dX2_vain_44 ?_
              refine g_goto S (tgt := 49) dX2_vain_45 (by decide) ?_
              refine g_iadd S dX2_vain_49 ?_
              refine g_istore_n S (lv' := [(1, .int (iI (t + 1))), (0, .ref (am 0)), (2, .int (iI o))]) dX2_vain_50 rfl (Nat.le_of_ble_eq_true rfl) rfl ?_
              refine g_iinc S (lv' := [(2, .int (iI (o + 1))), (1, .int (iI (t + 1))), (0, .ref (am 0))]) dX2_vain_51 2 rfl (Nat.le_of_ble_eq_true rfl) rfl ?_
              refine g_goto S (tgt := 4) dX2_vain_54 (by decide) ?_
              refine g_lv [2, 1, 0] rfl ?_
              exact ihL4 (o + 1) (t + 1) (by omega) (by rw [smI_s _ ho.1, ← ht]; show t + 1 = t + pI ((fun h => se h ≠ -1 ∧ (eS se (n + 1).toNat h = -1 ∨ smI (fun k => on (302 * eS se (n + 1).toNat h + (k + 1))) pg.toNat = 0)) o); rw [pI_t ⟨c20, Or.inr c41⟩]) (by omega)
  refine g_iconst S dX2_vain_0 ?_
  refine g_istore_n S (lv' := [(1, .int (iI 0)), (0, .ref (am 0))]) dX2_vain_1 rfl (Nat.le_of_ble_eq_true rfl) rfl ?_
  refine g_iconst S dX2_vain_2 ?_
  refine g_istore_n S (lv' := [(2, .int (iI 0)), (1, .int (iI 0)), (0, .ref (am 0))]) dX2_vain_3 rfl (Nat.le_of_ble_eq_true rfl) rfl ?_
  refine g_lv [2, 1, 0] rfl ?_
  exact L4 ((n - 0) + 1).toNat 0 0 (by omega) (rfl) (by omega)
