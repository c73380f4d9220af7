/-! act: something done to both -/
set_option maxHeartbeats 4000000 in
set_option maxRecDepth 100000 in
theorem m_L_act (l : Launch) (E : EN) (hst : l.stackTraces = false) (z zb zc sm : Nat) {ad : Int → Nat} (hj : INJ ad) (hax : HZ ad zb zc) (SS : SA) {sp : Int → SpT} {se : Int → Int} {al : Int → Nat} {n pg : Int} (J : JV sp se al n pg) (xv : Int) (hT : TG zc sm SS sp n) (hz : zb ≤ zc ∧ zc ≤ z ∧ sm < z) (hal : AL2 SS al n) : Met l yL_act wsL_act ({ frames := 8, cells := 1640, slots := 26400, locals := 127 }) (CU E zb [.ref (ad 0), .ref (sm), .int (iI xv)] (fun H => H.size = z ∧ va_at E.1 vwCl (sm, .inr (2, [.int (iI pg), .ref (s3 SS), .ref (s1 SS), .ref (s2 SS)])) H ∧ (SX E zc sm SS sp se n) H ∧ (CA E ad sp se al n pg) H)) (QW (some (.int (iI 1))) (JS E ad zc sm n) (fun q0 => zb ≤ q0)) 1640 26400 (fun q0 => zb ≤ q0) := by
  refine g_metU (cc := cL_act) (maxL := 14) (ret := (some .boolean)) (hh := [(130, 297, 789, 94), (298, 386, 789, 94), (387, 408, 789, 94), (409, 478, 789, 94), (479, 487, 789, 94), (488, 621, 789, 94), (622, 732, 789, 94), (733, 788, 789, 94)]) (lv := [(0, .ref (ad 0)), (1, .ref (sm)), (2, .int (iI xv))]) (by decide) rfl (Nat.le_of_ble_eq_true rfl) rfl ?_
  intro xp xe xs xm xa xb xh xc S xK xX xO xt xr xlk
  have kf9 := S.2.2.2.2 (.fieldLink RL 9 "BookIndexLaw$Sim" "see" "[I") (by decide +kernel)
  have kf29 := S.2.2.2.2 (.fieldLink RL 29 "BookIndexLaw$Sim" "pages" "I") (by decide +kernel)
  have kf38 := S.2.2.2.2 (.fieldLink RL 38 "BookIndexLaw$Sim" "spans" "[[[I") (by decide +kernel)
  have kaI := S.2.2.2.2 (.arrayClass .int) (by decide +kernel)
  have kx94 := S.2.2.2.2 (.classLink RL 94 "java/lang/IllegalStateException") (by decide +kernel)
  have kf68 := S.2.2.2.2 (.fieldLink RL 68 "BookIndexLaw$Sim" "also" "[[I") (by decide +kernel)
  have km33 := S.2.2.2.2 (.methodLink RL 33 Lib.Math.min.name) (by decide +kernel)
  have ksmin := S.2.2.2.2 (.static Lib.Math.min.name) (by decide +kernel)
  have kiMath := S.2.2.2.2 (.initialized "java/lang/Math") (by decide +kernel)
  have kcmin := S.2.2.2.2 (.code Lib.Math.min.name Lib.Math.min.code 2 (some .int)) (by decide +kernel)
  have hin2_q7 : ∀ w ∈ wsX20, w ∈ wsL_act := by decide +kernel
  have hn_q7 := J.hn
  have hpg_q7 := J.hpg
  have hsm_q7 := hT.sge
  refine g_ex (P := LTS z SS sp n) (fun _ h => SX.lts (FZ.mk h.1 h.2.2.1)) (fun hlt => ?_)
  refine g_aload_n S dL_act_0 rfl 1 rfl ?_
  refine g_get S xK (ref := "BookIndexLaw$Sim") hin2_q7 2 (by decide) (show vwCl[2]? = some (RX2, TX2, 4) from rfl) kf9 (fun _ h9 => h9) (fun _ h => h.2.1) rfl dL_act_1 ?_
  refine g_lenI S xK (n := n) (F := se) (fun _ h => h.2.2.1.a1) (by omega) dL_act_4 ?_
  refine g_istore_n S (lv' := [(3, .int (iI n)), (0, .ref (ad 0)), (1, .ref (sm)), (2, .int (iI xv))]) dL_act_5 rfl (Nat.le_of_ble_eq_true rfl) rfl ?_
  refine g_iload_n S dL_act_6 rfl 0 rfl ?_
  refine g_if_eq S (tgt := 19) dL_act_7 (by decide) (by omega) (fun c7_q7 => ?_) (fun c7_q7 => ?_)
  · skip
    refine g_iload_n S dL_act_19 rfl 0 rfl ?_
    refine g_bipush S dL_act_20 (by decide) ?_
    refine g_icmp_ne S (tgt := 27) dL_act_22 (by decide) (by omega) (fun c22_q7 => ?_) (fun c22_q7 => ?_)
    · skip
      refine g_aload_n S dL_act_27 rfl 2 rfl ?_
      refine g_callVS S xK xO (As := []) (st := []) (stk' := []) (Wp' := fun H => ∃ S1 : SA, (sM S1 = upI (sM SS) n 0 ∧ sV S1 = upI (sV SS) n (fun _ => 0)) ∧ H.size = z + 5 ∧ va_at E.1 vwCl (sm, .inr (2, [.int (iI pg), .ref (s3 S1), .ref (s1 S1), .ref (s2 S1)])) H ∧ (SX E zc sm S1 sp (upI se n (-1)) (n + 1)) H ∧ (CA E ad sp se al n pg) H) (r := (RX2, TX2, 4)) (m_X2_addHeading l E z zc sm SS sp se n pg (by omega) hT ⟨hz.2.1, hz.2.2⟩ (J.hre n (Int.le_refl _) (by omega)).1) (cwV 0 S.2.2.2.2 gL_act_X2_addHeading rfl rfl rfl (by decide +kernel) ⟨Nat.le_of_ble_eq_true rfl, Nat.le_of_ble_eq_true rfl⟩) rfl rfl rfl rfl (Nat.le_of_ble_eq_true rfl) ⟨show 0 + 5 ≤ 1640 by omega, show 0 + 100 ≤ 26400 by omega⟩ (fun q9_q7 (h9 : zc ≤ q9_q7) => (by show zb ≤ q9_q7; omega)) (fun _ h => h.2.1) (fun _ h => ⟨h.1, h.2.1, h.2.2.1⟩) (fun _ _ h h2 hle hq => by obtain ⟨S1, h9, h1, h3, h4⟩ := h2; exact ⟨S1, h9, h1, h3, h4, h.2.2.2.kept (fun q q1 => hq q (h.2.2.2.lt q1) (fun w9_q7 => by have w8_q7 := (hax q q1).2; have w7_q7 : zc ≤ q := w9_q7; omega))⟩) dL_act_28 ?_
      refine g_exU (fun S1 => ?_)
      refine g_preP (fun hS1 => ?_)
      refine g_aload_n S dL_act_31 rfl 1 rfl ?_
      refine g_callV S xK (As := []) (st := []) (stk' := [.int (iI n)]) (Wp' := fun H => z + 5 ≤ H.size ∧ va_at E.1 vwCl (sm, .inr (2, [.int (iI pg), .ref (s3 S1), .ref (s1 S1), .ref (s2 S1)])) H ∧ (SX E zc sm S1 sp (upI se n (-1)) (n + 1)) H ∧ (CA E ad sp (upI se n (-1)) al (n + 1) pg) H) (r := (RX1, TX1, 9)) (q_addHeading l E hj J  (by omega)) (cwV 0 S.2.2.2.2 gL_act_X1_addHeading rfl rfl rfl (by decide +kernel) ⟨Nat.le_of_ble_eq_true rfl, Nat.le_of_ble_eq_true rfl⟩) rfl rfl rfl rfl (Nat.le_of_ble_eq_true rfl) ⟨show 0 + 5 + 0 ≤ 1640 by omega, show 0 + 100 + 0 ≤ 26400 by omega⟩ (fun q9_q7 h9 => (hax q9_q7 h9).1) (fun _ h => h.2.2.2.cx) (fun _ h => h.2.2.2) (fun _ _ h h2 hle hq => ⟨Nat.le_trans (Nat.le_of_eq h.1.symm) hle, h.2.1.kept (hq _ h.2.1.lt (fun w9_q7 => by have w8_q7 := (hax _ w9_q7).2; omega)), h.2.2.1.far (fun q q1 q2 => hq q q1 (fun w9_q7 => by have w8_q7 := (hax q w9_q7).2; omega)), h2⟩) dL_act_32 ?_
      refine g_iload_n S dL_act_35 rfl 0 rfl ?_
      refine g_icmp_ne S (tgt := 43) dL_act_36 (by decide) (by omega) (fun c36_q7 => ?_) (fun c36_q7 => ?_)
      · skip
        exact absurd c36_q7 (by omega)
      · skip
        refine g_iconst S dL_act_39 ?_
        refine g_goto S (tgt := 44) dL_act_40 (by decide) ?_
        refine g_wid (k := 1640) (n := 26400) (by omega) (by omega) ?_
        exact g_zret S xr xlk (Or.inr rfl) dL_act_44 (fun _ h => ⟨S1, sp, upI se n (-1), al, n + 1, pg, ⟨jv_add J (by omega), al2_add hal (J.hre n (Int.le_refl _) (by omega)).2 hS1, by omega⟩, h.2.1, h.2.2.1, h.2.2.2⟩)
    · skip
      refine g_iconst S dL_act_25 ?_
      refine g_wid (k := 1640) (n := 26400) (by omega) (by omega) ?_
      exact g_zret S xr xlk (Or.inr rfl) dL_act_26 (fun _ h => ⟨SS, sp, se, al, n, pg, ⟨J, hal, Int.le_refl _⟩, h.2.1, h.2.2.1, h.2.2.2⟩)
  · skip
    refine g_iload_n S dL_act_10 rfl 3 rfl ?_
    refine g_bipush S dL_act_11 (by decide) ?_
    refine g_callS S xK (As := [.int (iI xv), .int (iI 17)]) (st := []) (stk' := [.int (iI (blw xv 17))]) (Wp' := fun H => H.size = z ∧ va_at E.1 vwCl (sm, .inr (2, [.int (iI pg), .ref (s3 SS), .ref (s1 SS), .ref (s2 SS)])) H ∧ (SX E zc sm SS sp se n) H ∧ (CA E ad sp se al n pg) H) (m_L_below l E (Wp := fun H => H.size = z ∧ va_at E.1 vwCl (sm, .inr (2, [.int (iI pg), .ref (s3 SS), .ref (s1 SS), .ref (s2 SS)])) H ∧ (SX E zc sm SS sp se n) H ∧ (CA E ad sp se al n pg) H) xv 17 (by omega)) (cwS 2 S.2.2.2.2 gL_act_L_below rfl rfl rfl (by decide +kernel) ⟨Nat.le_of_ble_eq_true rfl, Nat.le_of_ble_eq_true rfl⟩) rfl rfl rfl (Nat.le_of_ble_eq_true rfl) ⟨show 0 + 0 ≤ 1640 by omega, show 0 + 0 ≤ 26400 by omega⟩ (fun _ q => q.elim) (fun _ h => h) (fun _ _ _ h _ _ => h) dL_act_13 ?_
    have bl13_q7 := blw_r (v := xv) (n := 17) (by omega)
    refine g_if_ne S (tgt := 45) dL_act_16 (by decide) (by omega) (fun c16_q7 => ?_) (fun c16_q7 => ?_)
    · skip
      refine g_iload_n S dL_act_45 rfl 3 rfl ?_
      refine g_iconst S dL_act_46 ?_
      refine g_ishr S (z := (iI (shI xv 3))) dL_act_47 ((iI_of _).symm) ?_
      refine g_iload_n S dL_act_48 rfl 0 rfl ?_
      refine g_callS S xK (As := [.int (iI (shI xv 3)), .int (iI n)]) (st := []) (stk' := [.int (iI (blw (shI xv 3) n))]) (Wp' := fun H => H.size = z ∧ va_at E.1 vwCl (sm, .inr (2, [.int (iI pg), .ref (s3 SS), .ref (s1 SS), .ref (s2 SS)])) H ∧ (SX E zc sm SS sp se n) H ∧ (CA E ad sp se al n pg) H) (m_L_below l E (Wp := fun H => H.size = z ∧ va_at E.1 vwCl (sm, .inr (2, [.int (iI pg), .ref (s3 SS), .ref (s1 SS), .ref (s2 SS)])) H ∧ (SX E zc sm SS sp se n) H ∧ (CA E ad sp se al n pg) H) (shI xv 3) n (by omega)) (cwS 2 S.2.2.2.2 gL_act_L_below rfl rfl rfl (by decide +kernel) ⟨Nat.le_of_ble_eq_true rfl, Nat.le_of_ble_eq_true rfl⟩) rfl rfl rfl (Nat.le_of_ble_eq_true rfl) ⟨show 0 + 0 ≤ 1640 by omega, show 0 + 0 ≤ 26400 by omega⟩ (fun _ q => q.elim) (fun _ h => h) (fun _ _ _ h _ _ => h) dL_act_49 ?_
      have bl49_q7 := blw_r (v := shI xv 3) (n := n) (by omega)
      refine g_istore S (lv' := [(4, .int (iI (blw (shI xv 3) n))), (3, .int (iI n)), (0, .ref (ad 0)), (1, .ref (sm)), (2, .int (iI xv))]) dL_act_52 (Nat.le_of_ble_eq_true rfl) rfl ?_
      refine g_iload_n S dL_act_54 rfl 4 rfl ?_
      refine g_bipush S dL_act_55 (by decide) ?_
      refine g_ishr S (z := (iI (shI xv 6))) dL_act_57 ((iI_of _).symm) ?_
      refine g_iload_n S dL_act_58 rfl 1 rfl ?_
      refine g_callS S xK (As := [.int (iI (shI xv 6)), .int (iI n)]) (st := []) (stk' := [.int (iI (blw (shI xv 6) n))]) (Wp' := fun H => H.size = z ∧ va_at E.1 vwCl (sm, .inr (2, [.int (iI pg), .ref (s3 SS), .ref (s1 SS), .ref (s2 SS)])) H ∧ (SX E zc sm SS sp se n) H ∧ (CA E ad sp se al n pg) H) (m_L_below l E (Wp := fun H => H.size = z ∧ va_at E.1 vwCl (sm, .inr (2, [.int (iI pg), .ref (s3 SS), .ref (s1 SS), .ref (s2 SS)])) H ∧ (SX E zc sm SS sp se n) H ∧ (CA E ad sp se al n pg) H) (shI xv 6) n (by omega)) (cwS 2 S.2.2.2.2 gL_act_L_below rfl rfl rfl (by decide +kernel) ⟨Nat.le_of_ble_eq_true rfl, Nat.le_of_ble_eq_true rfl⟩) rfl rfl rfl (Nat.le_of_ble_eq_true rfl) ⟨show 0 + 0 ≤ 1640 by omega, show 0 + 0 ≤ 26400 by omega⟩ (fun _ q => q.elim) (fun _ h => h) (fun _ _ _ h _ _ => h) dL_act_59 ?_
      have bl59_q7 := blw_r (v := shI xv 6) (n := n) (by omega)
      refine g_istore S (lv' := [(5, .int (iI (blw (shI xv 6) n))), (4, .int (iI (blw (shI xv 3) n))), (3, .int (iI n)), (0, .ref (ad 0)), (1, .ref (sm)), (2, .int (iI xv))]) dL_act_62 (Nat.le_of_ble_eq_true rfl) rfl ?_
      refine g_iconst S dL_act_64 ?_
      refine g_iload_n S dL_act_65 rfl 5 rfl ?_
      refine g_iconst S dL_act_66 ?_
      refine g_ishr S (z := (iI (shI xv 4))) dL_act_67 ((iI_of _).symm) ?_
      refine g_aload_n S dL_act_68 rfl 4 rfl ?_
      refine g_get S xK (ref := "BookIndexLaw$Sim") hin2_q7 0 (by decide) (show vwCl[2]? = some (RX2, TX2, 4) from rfl) kf29 (fun _ h9 => h9) (fun _ h => h.2.1) rfl dL_act_69 ?_
      refine g_callS S xK (As := [.int (iI (shI xv 4)), .int (iI pg)]) (st := [.int (iI 1)]) (stk' := [.int (iI (blw (shI xv 4) pg)), .int (iI 1)]) (Wp' := fun H => H.size = z ∧ va_at E.1 vwCl (sm, .inr (2, [.int (iI pg), .ref (s3 SS), .ref (s1 SS), .ref (s2 SS)])) H ∧ (SX E zc sm SS sp se n) H ∧ (CA E ad sp se al n pg) H) (m_L_below l E (Wp := fun H => H.size = z ∧ va_at E.1 vwCl (sm, .inr (2, [.int (iI pg), .ref (s3 SS), .ref (s1 SS), .ref (s2 SS)])) H ∧ (SX E zc sm SS sp se n) H ∧ (CA E ad sp se al n pg) H) (shI xv 4) pg (by omega)) (cwS 2 S.2.2.2.2 gL_act_L_below rfl rfl rfl (by decide +kernel) ⟨Nat.le_of_ble_eq_true rfl, Nat.le_of_ble_eq_true rfl⟩) rfl rfl rfl (Nat.le_of_ble_eq_true rfl) ⟨show 0 + 0 ≤ 1640 by omega, show 0 + 0 ≤ 26400 by omega⟩ (fun _ q => q.elim) (fun _ h => h) (fun _ _ _ h _ _ => h) dL_act_72 ?_
      have bl72_q7 := blw_r (v := shI xv 4) (n := pg) (by omega)
      refine g_iadd S dL_act_75 ?_
      refine g_istore S (lv' := [(6, .int (iI (1 + blw (shI xv 4) pg))), (5, .int (iI (blw (shI xv 6) n))), (4, .int (iI (blw (shI xv 3) n))), (3, .int (iI n)), (0, .ref (ad 0)), (1, .ref (sm)), (2, .int (iI xv))]) dL_act_76 (Nat.le_of_ble_eq_true rfl) rfl ?_
      have L121 : ∀ (fr_q7 : Int) (u_q7 : Int) (o_q7 : Int) (wv_q7 : Int) (kc : Nat) (ks : Nat), (0 ≤ u_q7 ∧ u_q7 < n) → (0 ≤ o_q7 ∧ o_q7 < n) → (1 ≤ fr_q7 ∧ fr_q7 ≤ pg) → (1 ≤ wv_q7 ∧ wv_q7 ≤ pg + 1 - fr_q7) → (kc ≤ 0 ∧ ks ≤ 0) → G xp l xe ({ frames := 8, cells := 1640, slots := 26400, locals := 127 }) xs xm xa xb xh xc 14 (fun q0 => zb ≤ q0) kc ks (MQ xb (QW (some (.int (iI 1))) (JS E ad zc sm n) (fun q0 => zb ≤ q0)) xa xs 1640 26400 (fun q0 => zb ≤ q0)) 121 [(0, .ref (ad 0)), (1, .ref (sm)), (2, .int (iI xv)), (3, .int (iI n)), (4, .int (iI u_q7)), (5, .int (iI o_q7)), (6, .int (iI fr_q7))] [.int (iI wv_q7), .int (iI (shI xv 7)), .int (iI fr_q7)] (fun H => H.size = z ∧ va_at E.1 vwCl (sm, .inr (2, [.int (iI pg), .ref (s3 SS), .ref (s1 SS), .ref (s2 SS)])) H ∧ (SX E zc sm SS sp se n) H ∧ (CA E ad sp se al n pg) H) := by
        intro fr_q7 u_q7 o_q7 wv_q7 kc ks hu_q7 ho_q7 hfr_q7 hwv_q7 hk1_q7
        refine g_callS S xK (As := [.int (iI (shI xv 7)), .int (iI wv_q7)]) (st := [.int (iI fr_q7)]) (stk' := [.int (iI (blw (shI xv 7) wv_q7)), .int (iI fr_q7)]) (Wp' := fun H => H.size = z ∧ va_at E.1 vwCl (sm, .inr (2, [.int (iI pg), .ref (s3 SS), .ref (s1 SS), .ref (s2 SS)])) H ∧ (SX E zc sm SS sp se n) H ∧ (CA E ad sp se al n pg) H) (m_L_below l E (Wp := fun H => H.size = z ∧ va_at E.1 vwCl (sm, .inr (2, [.int (iI pg), .ref (s3 SS), .ref (s1 SS), .ref (s2 SS)])) H ∧ (SX E zc sm SS sp se n) H ∧ (CA E ad sp se al n pg) H) (shI xv 7) wv_q7 (by omega)) (cwS 2 S.2.2.2.2 gL_act_L_below rfl rfl rfl (by decide +kernel) ⟨Nat.le_of_ble_eq_true rfl, Nat.le_of_ble_eq_true rfl⟩) rfl rfl rfl (Nat.le_of_ble_eq_true rfl) ⟨show kc + 0 ≤ 1640 by omega, show ks + 0 ≤ 26400 by omega⟩ (fun _ q => q.elim) (fun _ h => h) (fun _ _ _ h _ _ => h) dL_act_121 ?_
        have bl121_q7 := blw_r (v := shI xv 7) (n := wv_q7) (by omega)
        refine g_iadd S dL_act_124 ?_
        refine g_istore S (lv' := [(7, .int (iI (fr_q7 + blw (shI xv 7) wv_q7))), (0, .ref (ad 0)), (1, .ref (sm)), (2, .int (iI xv)), (3, .int (iI n)), (4, .int (iI u_q7)), (5, .int (iI o_q7)), (6, .int (iI fr_q7))]) dL_act_125 (Nat.le_of_ble_eq_true rfl) rfl ?_
        have L127 : ∀ (u_q7 : Int) (o_q7 : Int) (fr_q7 : Int) (to_q7 : Int) (kc : Nat) (ks : Nat), (0 ≤ u_q7 ∧ u_q7 < n) → (0 ≤ o_q7 ∧ o_q7 < n) → (1 ≤ fr_q7 ∧ fr_q7 ≤ to_q7 ∧ to_q7 ≤ pg) → (kc ≤ 0 ∧ ks ≤ 0) → G xp l xe ({ frames := 8, cells := 1640, slots := 26400, locals := 127 }) xs xm xa xb xh xc 14 (fun q0 => zb ≤ q0) kc ks (MQ xb (QW (some (.int (iI 1))) (JS E ad zc sm n) (fun q0 => zb ≤ q0)) xa xs 1640 26400 (fun q0 => zb ≤ q0)) 127 [(0, .ref (ad 0)), (1, .ref (sm)), (2, .int (iI xv)), (3, .int (iI n)), (4, .int (iI u_q7)), (5, .int (iI o_q7)), (6, .int (iI fr_q7)), (7, .int (iI to_q7))] [] (fun H => H.size = z ∧ va_at E.1 vwCl (sm, .inr (2, [.int (iI pg), .ref (s3 SS), .ref (s1 SS), .ref (s2 SS)])) H ∧ (SX E zc sm SS sp se n) H ∧ (CA E ad sp se al n pg) H) := by
          intro u_q7 o_q7 fr_q7 to_q7 kc ks hu_q7 ho_q7 hf_q7 hkz_q7
          have v9_q7 := J.hsp u_q7 (by omega) (by omega)
          have y9_q7 := v9_q7.1.1
          have s9_q7 := J.hgr.1 u_q7 (by omega) (by omega)
          have a9_q7 := hal u_q7 (by omega) (by omega)
          have p9_q7 := J.hp4 u_q7 (by omega) (by omega)
          have g1_q7 := hT.g1
          have t1_q7 := hT.n1
          have L204 : ∀ (kc : Nat) (ks : Nat), (kc ≤ 0 ∧ ks ≤ 0) → G xp l xe ({ frames := 8, cells := 1640, slots := 26400, locals := 127 }) xs xm xa xb xh xc 14 (fun q0 => zb ≤ q0) kc ks (MQ xb (QW (some (.int (iI 1))) (JS E ad zc sm n) (fun q0 => zb ≤ q0)) xa xs 1640 26400 (fun q0 => zb ≤ q0)) 204 [(0, .ref (ad 0)), (1, .ref (sm)), (2, .int (iI xv)), (3, .int (iI n)), (4, .int (iI u_q7)), (5, .int (iI o_q7)), (6, .int (iI fr_q7)), (7, .int (iI to_q7)), (8, .int (iI 1))] [] (fun H => H.size = z ∧ va_at E.1 vwCl (sm, .inr (2, [.int (iI pg), .ref (s3 SS), .ref (s1 SS), .ref (s2 SS)])) H ∧ (SX E zc sm SS sp se n) H ∧ (CA E ad sp se al n pg) H) := by
            intro kc ks hk0_q7
            refine g_aload_n S dL_act_204 rfl 1 rfl ?_
            refine g_get S xK (ref := "BookIndexLaw$Sim") hin2_q7 1 (by decide) (show vwCl[2]? = some (RX2, TX2, 4) from rfl) kf38 (fun _ h9 => h9) (fun _ h => h.2.1) rfl dL_act_205 ?_
            refine g_iload S dL_act_208 4 rfl ?_
            refine g_ldR S xK (t := 4) (by decide) (n := n) (f := sB SS) (fun _ h => h.2.2.1.a3) (by omega) dL_act_210 ?_
            refine g_iconst S dL_act_211 ?_
            refine g_newIZ S xK (Wp' := fun H => H.size = z + 1 ∧ va_at E.1 vwCl (sm, .inr (2, [.int (iI pg), .ref (s3 SS), .ref (s1 SS), .ref (s2 SS)])) H ∧ (SX E zc sm SS sp se n) H ∧ (CA E ad sp se al n pg) H ∧ vI E z 2 (fun _ => 0) H) (n := 2) (a := z) kaI (by omega) ⟨show kc + 1 ≤ 1640 by omega, show ks + (2 : Int).toNat ≤ 26400 by omega⟩ (fun _ h => h.1) (fun _ _ h hv_q7 z1 hq => ⟨z1, h.2.1.kept (hq _ (by have w9_q7 := h.2.1.lt; have y9_q7 := h.1; omega)), SX.lw _ _ h.2.2.1 (by have y9_q7 := h.1; omega) (fun q q1 => hq q (by have y9_q7 := h.1; omega)), CA.lw _ _ h.2.2.2 (by have y9_q7 := h.1; omega) (fun q q1 => hq q (by have y9_q7 := h.1; omega)), hv_q7⟩) dL_act_212 ?_
            refine g_dup S dL_act_214 rfl ?_
            refine g_iconst S dL_act_215 ?_
            refine g_iload S dL_act_216 6 rfl ?_
            refine g_iast S xK (Wp' := fun H => H.size = z + 1 ∧ va_at E.1 vwCl (sm, .inr (2, [.int (iI pg), .ref (s3 SS), .ref (s1 SS), .ref (s2 SS)])) H ∧ (SX E zc sm SS sp se n) H ∧ (CA E ad sp se al n pg) H ∧ vI E z 2 (upI (fun _ => 0) 0 fr_q7) H) (n := (2 : Int).toNat) (F := fun _ => 0) (fun _ h => h.2.2.2.2) (by omega) (by omega) (by omega) (fun _ _ h hv_q7 z1 oq => ⟨z1.trans h.1, h.2.1.kept (oq _ (by omega)), h.2.2.1.keepL hlt (by omega) oq, h.2.2.2.1.kept (fun q q1 => oq q (by have w8_q7 := (hax q q1).2; omega)), hv_q7⟩) dL_act_218 ?_
            refine g_dup S dL_act_219 rfl ?_
            refine g_iconst S dL_act_220 ?_
            refine g_iload S dL_act_221 7 rfl ?_
            refine g_iast S xK (Wp' := fun H => H.size = z + 1 ∧ va_at E.1 vwCl (sm, .inr (2, [.int (iI pg), .ref (s3 SS), .ref (s1 SS), .ref (s2 SS)])) H ∧ (SX E zc sm SS sp se n) H ∧ (CA E ad sp se al n pg) H ∧ vI E z 2 (upI (upI (fun _ => 0) 0 fr_q7) 1 to_q7) H) (n := (2 : Int).toNat) (F := upI (fun _ => 0) 0 fr_q7) (fun _ h => h.2.2.2.2) (by omega) (by omega) (by omega) (fun _ _ h hv_q7 z1 oq => ⟨z1.trans h.1, h.2.1.kept (oq _ (by omega)), h.2.2.1.keepL hlt (by omega) oq, h.2.2.2.1.kept (fun q q1 => oq q (by have w8_q7 := (hax q q1).2; omega)), hv_q7⟩) dL_act_223 ?_
            refine g_callSS S xK xO (As := [.ref (sB SS u_q7), .ref (z)]) (st := []) (stk' := [.ref (z + 1)]) (Wp' := fun H => H.size = z + 2 ∧ va_at E.1 vwCl (sm, .inr (2, [.int (iI pg), .ref (s3 SS), .ref (s1 SS), .ref (s2 SS)])) H ∧ (SX E zc sm SS sp se n) H ∧ (CA E ad sp se al n pg) H ∧ (RW E (z + 1) (apn (sp u_q7) fr_q7 to_q7) (upI (sR SS u_q7) (sp u_q7).1 z)) H) (m_X2_with l E (z + 1) (FZ.kp (z := z + 1) (W := fun H => va_at E.1 vwCl (sm, .inr (2, [.int (iI pg), .ref (s3 SS), .ref (s1 SS), .ref (s2 SS)])) H ∧ (SX E zc sm SS sp se n) H ∧ (CA E ad sp se al n pg) H ∧ vI E z 2 (upI (upI (fun _ => 0) 0 fr_q7) 1 to_q7) H)) (sp u_q7).1 (sR SS u_q7) (sB SS u_q7) z (by omega) (fun _ h => (h.out (ST.and (LW.st LW.at) (ST.and (LW.st SX.lw) (ST.and (LW.st CA.lw) (LW.st LW.at))))).2.1.b (u := u_q7) (by omega)) (fun _ h k k0 k1 => ⟨_, _, (h.out (ST.and (LW.st LW.at) (ST.and (LW.st SX.lw) (ST.and (LW.st CA.lw) (LW.st LW.at))))).2.1.r (u := u_q7) (k := k) (by omega) ⟨k0, k1⟩⟩) (fun _ h => ⟨_, _, (h.out (ST.and (LW.st LW.at) (ST.and (LW.st SX.lw) (ST.and (LW.st CA.lw) (LW.st LW.at))))).2.2.2⟩)) (va_cwS 2 S.2.2.2.2 gL_act_X2_with rfl rfl rfl (by decide +kernel) ⟨Nat.le_of_ble_eq_true rfl, Nat.le_of_ble_eq_true rfl⟩) rfl rfl rfl (Nat.le_of_ble_eq_true rfl) ⟨show kc + 1 + 1 ≤ 1640 by omega, show ks + (2 : Int).toNat + 31 ≤ 26400 by omega⟩ (fun q9_q7 (hq9 : z + 1 ≤ q9_q7) => (by show zb ≤ q9_q7; omega)) (fun _ h => ⟨h.1, FZ.mk h.1 h.2⟩) (fun _ _ _ h _ _ => ⟨h.1, (h.2.2.out (ST.and (LW.st LW.at) (ST.and (LW.st SX.lw) (ST.and (LW.st CA.lw) (LW.st LW.at))))).1, (h.2.2.out (ST.and (LW.st LW.at) (ST.and (LW.st SX.lw) (ST.and (LW.st CA.lw) (LW.st LW.at))))).2.1, (h.2.2.out (ST.and (LW.st LW.at) (ST.and (LW.st SX.lw) (ST.and (LW.st CA.lw) (LW.st LW.at))))).2.2.1, RW.push ((h.2.2.out (ST.and (LW.st LW.at) (ST.and (LW.st SX.lw) (ST.and (LW.st CA.lw) (LW.st LW.at))))).2.1.rw (u := u_q7) (by omega)) (by have w9_q7 := (h.2.2.out (ST.and (LW.st LW.at) (ST.and (LW.st SX.lw) (ST.and (LW.st CA.lw) (LW.st LW.at))))).2.2.2; rw [pr_m] at w9_q7; exact w9_q7) h.2.1⟩) dL_act_224 ?_
            refine g_callSR S xK xO (As := [.ref (z + 1)]) (st := []) (Wn := fun cy H => ∃ (zx : Nat) (Gb : SpT) (rb : Int → Nat), (VL Gb pg ∧ ∀ q0, cov Gb q0 ↔ cov (apn (sp u_q7) fr_q7 to_q7) q0) ∧ H.size = zx ∧ (MR E (z + 2) cy Gb rb) H ∧ va_at E.1 vwCl (sm, .inr (2, [.int (iI pg), .ref (s3 SS), .ref (s1 SS), .ref (s2 SS)])) H ∧ (FZ (z + 2) (SX E zc sm SS sp se n)) H ∧ (CA E ad sp se al n pg) H) (m_X2_merged l E (z + 2) (FZ.kp (z := z + 2) (W := fun H => va_at E.1 vwCl (sm, .inr (2, [.int (iI pg), .ref (s3 SS), .ref (s1 SS), .ref (s2 SS)])) H ∧ (SX E zc sm SS sp se n) H ∧ (CA E ad sp se al n pg) H ∧ (RW E (z + 1) (apn (sp u_q7) fr_q7 to_q7) (upI (sR SS u_q7) (sp u_q7).1 z)) H)) (z + 1) (apn (sp u_q7) fr_q7 to_q7) (upI (sR SS u_q7) (sp u_q7).1 z) pg (fun _ h => (h.out (ST.and (LW.st LW.at) (ST.and (LW.st SX.lw) (ST.and (LW.st CA.lw) (LW.st RW.lw))))).2.2.2) (⟨by show 0 ≤ (sp u_q7).1 + 1; omega, by show (sp u_q7).1 + 1 ≤ 16; omega⟩) (apn_rows v9_q7.1 (by omega)) (by omega)) (va_cwS 1 S.2.2.2.2 gL_act_X2_merged rfl rfl rfl (by decide +kernel) ⟨Nat.le_of_ble_eq_true rfl, Nat.le_of_ble_eq_true rfl⟩) rfl rfl (Nat.le_of_ble_eq_true rfl) ⟨show kc + 1 + 1 + 34 ≤ 1640 by omega, show ks + (2 : Int).toNat + 31 + 544 ≤ 26400 by omega⟩ (fun q9_q7 (hq9 : z + 2 ≤ q9_q7) => (by show zb ≤ q9_q7; omega)) (fun _ h => ⟨h.1, FZ.mk h.1 h.2⟩) (fun cy _ _ _ h _ _ => by obtain ⟨zx, Gb, rb, h1, h2, h3, h4⟩ := h; exact ⟨zx, Gb, rb, h1, h2, h3, (h4.out (ST.and (LW.st LW.at) (ST.and (LW.st SX.lw) (ST.and (LW.st CA.lw) (LW.st RW.lw))))).1, (FZ.imp h4 (fun _ _ h => h.2.1)), (h4.out (ST.and (LW.st LW.at) (ST.and (LW.st SX.lw) (ST.and (LW.st CA.lw) (LW.st RW.lw))))).2.2.1⟩) dL_act_227 (fun cy => ?_)
            refine g_exU (fun zx => ?_)
            refine g_exU (fun Gb => ?_)
            refine g_exU (fun rb => ?_)
            refine g_preP (fun hGb => ?_)
            refine g_ex (P := z + 2 ≤ cy ∧ cy < zx) (fun _ h => ⟨h.2.1.2.1.2, by have w8_q7 : cy < _ := h.2.1.1.1.lt; have y8_q7 := h.1; omega⟩) (fun hmb => ?_)
            have gb0_q7 := hGb.1.1
            have gb1_q7 := hGb.1.2.1
            have L255 : ∀ (v_q7 : Int) (kc : Nat) (ks : Nat), ((v_q7 = 1 ∧ se u_q7 = -1 ∧ Gb.1 ≤ 8) ∨ (v_q7 = 0 ∧ (se u_q7 ≠ -1 ∨ 8 < Gb.1))) → (kc ≤ 36 ∧ ks ≤ 577) → G xp l xe ({ frames := 8, cells := 1640, slots := 26400, locals := 127 }) xs xm xa xb xh xc 14 (fun q0 => zb ≤ q0) kc ks (MQ xb (QW (some (.int (iI 1))) (JS E ad zc sm n) (fun q0 => zb ≤ q0)) xa xs 1640 26400 (fun q0 => zb ≤ q0)) 255 [(0, .ref (ad 0)), (1, .ref (sm)), (2, .int (iI xv)), (3, .int (iI n)), (4, .int (iI u_q7)), (5, .int (iI o_q7)), (6, .int (iI fr_q7)), (7, .int (iI to_q7)), (9, .ref (cy))] [.int (iI v_q7)] (fun H => H.size = zx ∧ (MR E (z + 2) cy Gb rb) H ∧ va_at E.1 vwCl (sm, .inr (2, [.int (iI pg), .ref (s3 SS), .ref (s1 SS), .ref (s2 SS)])) H ∧ (FZ (z + 2) (SX E zc sm SS sp se n)) H ∧ (CA E ad sp se al n pg) H) := by
              intro v_q7 kc ks hv_q7 hk2_q7
              refine g_istore S (lv' := [(8, .int (iI v_q7)), (0, .ref (ad 0)), (1, .ref (sm)), (2, .int (iI xv)), (3, .int (iI n)), (4, .int (iI u_q7)), (5, .int (iI o_q7)), (6, .int (iI fr_q7)), (7, .int (iI to_q7)), (9, .ref (cy))]) dL_act_255 (Nat.le_of_ble_eq_true rfl) rfl ?_
              refine g_iload S dL_act_257 0 rfl ?_
              refine g_if_eq S (tgt := 271) dL_act_259 (by decide) (by omega) (fun c259_q7 => ?_) (fun c259_q7 => ?_)
              · skip
                refine g_aload_n S dL_act_271 rfl 1 rfl ?_
                refine g_iload S dL_act_272 5 rfl ?_
                refine g_iload S dL_act_274 7 rfl ?_
                refine g_iload S dL_act_276 8 rfl ?_
                rcases hv_q7 with hv_q7 | ⟨hv_q7, w9_q7 | w9_q7⟩
                · exfalso; omega
                · skip
                  refine g_callVC2 S xK xX (Wp' := fun H => zx ≤ H.size ∧ va_at E.1 vwCl (sm, .inr (2, [.int (iI pg), .ref (s3 SS), .ref (s1 SS), .ref (s2 SS)])) H ∧ (SX E zc sm SS sp se n) H ∧ (CA E ad sp se al n pg) H) (As := [.int (iI u_q7), .int (iI fr_q7), .int (iI to_q7)]) (st := []) (r := (RX1, TX1, 9)) (x_addPagesZ l hst E zb hj J u_q7 fr_q7 to_q7 (by omega) (by omega) w9_q7) (cwV 3 S.2.2.2.2 gL_act_X1_addPages rfl rfl rfl (by decide +kernel) ⟨Nat.le_of_ble_eq_true rfl, Nat.le_of_ble_eq_true rfl⟩) rfl rfl rfl (Nat.le_of_ble_eq_true rfl) ⟨show kc + 1 ≤ 1640 by omega, show ks + 6 ≤ 26400 by omega⟩ (fun q9_q7 h9 => (hax q9_q7 h9).1) (fun _ h9 => h9) (fun _ h => h.2.2.2.2.cx) (fun _ h => h.2.2.2.2) (fun _ _ h h2 hle hq => ⟨Nat.le_trans (Nat.le_of_eq h.1.symm) hle, h.2.2.1.kept (hq _ h.2.2.1.lt (fun w9_q7 => by have w8_q7 := (hax _ w9_q7).2; omega)), (h.2.2.2.1.out (LW.st SX.lw)).far (fun q q1 q2 => hq q q1 (fun w9_q7 => by have w8_q7 := (hax q w9_q7).2; omega)), h2⟩) dL_act_278 [] ⟨130, 297, 789, 94⟩ [⟨298, 386, 789, 94⟩, ⟨387, 408, 789, 94⟩, ⟨409, 478, 789, 94⟩, ⟨479, 487, 789, 94⟩, ⟨488, 621, 789, 94⟩, ⟨622, 732, 789, 94⟩, ⟨733, 788, 789, 94⟩] xt (fun z hz => absurd hz List.not_mem_nil) rfl (by decide) kx94 (by decide) (fun xq => ?_)
                  refine g_astore S (lv' := [(9, .ref (xq)), (8, .int (iI v_q7)), (0, .ref (ad 0)), (1, .ref (sm)), (2, .int (iI xv)), (3, .int (iI n)), (4, .int (iI u_q7)), (5, .int (iI o_q7)), (6, .int (iI fr_q7)), (7, .int (iI to_q7))]) dL_act_789 (Nat.le_of_ble_eq_true rfl) rfl ?_
                  refine g_iload S dL_act_791 1 rfl ?_
                  refine g_if_ne S (tgt := 800) dL_act_793 (by decide) (by omega) (fun c793_q7 => ?_) (fun c793_q7 => ?_)
                  · skip
                    exact absurd c793_q7 (by omega)
                  · skip
                    refine g_iconst S dL_act_796 ?_
                    refine g_goto S (tgt := 801) dL_act_797 (by decide) ?_
                    refine g_wid (k := 1640) (n := 26400) (by omega) (by omega) ?_
                    exact g_zret S xr xlk (Or.inr rfl) dL_act_801 (fun _ h => ⟨SS, sp, se, al, n, pg, ⟨J, hal, Int.le_refl _⟩, h.2.1, h.2.2.1, h.2.2.2⟩)
                by_cases hse9 : se u_q7 = -1
                · skip
                  refine g_callVC2 S xK xX (Wp' := fun H => zx ≤ H.size ∧ va_at E.1 vwCl (sm, .inr (2, [.int (iI pg), .ref (s3 SS), .ref (s1 SS), .ref (s2 SS)])) H ∧ (SX E zc sm SS sp se n) H ∧ (CA E ad sp se al n pg) H) (As := [.int (iI u_q7), .int (iI fr_q7), .int (iI to_q7)]) (st := []) (r := (RX1, TX1, 9)) (x_addPagesR l hst E zb hj J u_q7 fr_q7 to_q7 Gb (by omega) (by omega) hse9 ⟨hGb.1, fun q => by rw [hGb.2 q, apn_cov v9_q7.1.1]⟩ w9_q7 (fun q9_q7 h9 => (hax q9_q7 h9).1)) (cwV 3 S.2.2.2.2 gL_act_X1_addPages rfl rfl rfl (by decide +kernel) ⟨Nat.le_of_ble_eq_true rfl, Nat.le_of_ble_eq_true rfl⟩) rfl rfl rfl (Nat.le_of_ble_eq_true rfl) ⟨show kc + 1 ≤ 1640 by omega, show ks + 6 ≤ 26400 by omega⟩ (fun q9_q7 h9 => (hax q9_q7 h9).1) (fun _ h9 => h9) (fun _ h => h.2.2.2.2.cx) (fun _ h => h.2.2.2.2) (fun _ _ h h2 hle hq => ⟨Nat.le_trans (Nat.le_of_eq h.1.symm) hle, h.2.2.1.kept (hq _ h.2.2.1.lt (fun w9_q7 => by have w8_q7 := (hax _ w9_q7).2; omega)), (h.2.2.2.1.out (LW.st SX.lw)).far (fun q q1 q2 => hq q q1 (fun w9_q7 => by have w8_q7 := (hax q w9_q7).2; omega)), h2⟩) dL_act_278 [] ⟨130, 297, 789, 94⟩ [⟨298, 386, 789, 94⟩, ⟨387, 408, 789, 94⟩, ⟨409, 478, 789, 94⟩, ⟨479, 487, 789, 94⟩, ⟨488, 621, 789, 94⟩, ⟨622, 732, 789, 94⟩, ⟨733, 788, 789, 94⟩] xt (fun z hz => absurd hz List.not_mem_nil) rfl (by decide) kx94 (by decide) (fun xq => ?_)
                  refine g_astore S (lv' := [(9, .ref (xq)), (8, .int (iI v_q7)), (0, .ref (ad 0)), (1, .ref (sm)), (2, .int (iI xv)), (3, .int (iI n)), (4, .int (iI u_q7)), (5, .int (iI o_q7)), (6, .int (iI fr_q7)), (7, .int (iI to_q7))]) dL_act_789 (Nat.le_of_ble_eq_true rfl) rfl ?_
                  refine g_iload S dL_act_791 1 rfl ?_
                  refine g_if_ne S (tgt := 800) dL_act_793 (by decide) (by omega) (fun c793_q7 => ?_) (fun c793_q7 => ?_)
                  · skip
                    exact absurd c793_q7 (by omega)
                  · skip
                    refine g_iconst S dL_act_796 ?_
                    refine g_goto S (tgt := 801) dL_act_797 (by decide) ?_
                    refine g_wid (k := 1640) (n := 26400) (by omega) (by omega) ?_
                    exact g_zret S xr xlk (Or.inr rfl) dL_act_801 (fun _ h => ⟨SS, sp, se, al, n, pg, ⟨J, hal, Int.le_refl _⟩, h.2.1, h.2.2.1, h.2.2.2⟩)
                · skip
                  refine g_callVC2 S xK xX (Wp' := fun H => zx ≤ H.size ∧ va_at E.1 vwCl (sm, .inr (2, [.int (iI pg), .ref (s3 SS), .ref (s1 SS), .ref (s2 SS)])) H ∧ (SX E zc sm SS sp se n) H ∧ (CA E ad sp se al n pg) H) (As := [.int (iI u_q7), .int (iI fr_q7), .int (iI to_q7)]) (st := []) (r := (RX1, TX1, 9)) (x_addPagesZ l hst E zb hj J u_q7 fr_q7 to_q7 (by omega) (by omega) hse9) (cwV 3 S.2.2.2.2 gL_act_X1_addPages rfl rfl rfl (by decide +kernel) ⟨Nat.le_of_ble_eq_true rfl, Nat.le_of_ble_eq_true rfl⟩) rfl rfl rfl (Nat.le_of_ble_eq_true rfl) ⟨show kc + 1 ≤ 1640 by omega, show ks + 6 ≤ 26400 by omega⟩ (fun q9_q7 h9 => (hax q9_q7 h9).1) (fun _ h9 => h9) (fun _ h => h.2.2.2.2.cx) (fun _ h => h.2.2.2.2) (fun _ _ h h2 hle hq => ⟨Nat.le_trans (Nat.le_of_eq h.1.symm) hle, h.2.2.1.kept (hq _ h.2.2.1.lt (fun w9_q7 => by have w8_q7 := (hax _ w9_q7).2; omega)), (h.2.2.2.1.out (LW.st SX.lw)).far (fun q q1 q2 => hq q q1 (fun w9_q7 => by have w8_q7 := (hax q w9_q7).2; omega)), h2⟩) dL_act_278 [] ⟨130, 297, 789, 94⟩ [⟨298, 386, 789, 94⟩, ⟨387, 408, 789, 94⟩, ⟨409, 478, 789, 94⟩, ⟨479, 487, 789, 94⟩, ⟨488, 621, 789, 94⟩, ⟨622, 732, 789, 94⟩, ⟨733, 788, 789, 94⟩] xt (fun z hz => absurd hz List.not_mem_nil) rfl (by decide) kx94 (by decide) (fun xq => ?_)
                  refine g_astore S (lv' := [(9, .ref (xq)), (8, .int (iI v_q7)), (0, .ref (ad 0)), (1, .ref (sm)), (2, .int (iI xv)), (3, .int (iI n)), (4, .int (iI u_q7)), (5, .int (iI o_q7)), (6, .int (iI fr_q7)), (7, .int (iI to_q7))]) dL_act_789 (Nat.le_of_ble_eq_true rfl) rfl ?_
                  refine g_iload S dL_act_791 1 rfl ?_
                  refine g_if_ne S (tgt := 800) dL_act_793 (by decide) (by omega) (fun c793_q7 => ?_) (fun c793_q7 => ?_)
                  · skip
                    exact absurd c793_q7 (by omega)
                  · skip
                    refine g_iconst S dL_act_796 ?_
                    refine g_goto S (tgt := 801) dL_act_797 (by decide) ?_
                    refine g_wid (k := 1640) (n := 26400) (by omega) (by omega) ?_
                    exact g_zret S xr xlk (Or.inr rfl) dL_act_801 (fun _ h => ⟨SS, sp, se, al, n, pg, ⟨J, hal, Int.le_refl _⟩, h.2.1, h.2.2.1, h.2.2.2⟩)
              · skip
                refine g_aload_n S dL_act_262 rfl 2 rfl ?_
                refine g_get S xK (ref := "BookIndexLaw$Sim") hin2_q7 1 (by decide) (show vwCl[2]? = some (RX2, TX2, 4) from rfl) kf38 (fun _ h9 => h9) (fun _ h => h.2.2.1) rfl dL_act_263 ?_
                refine g_iload S dL_act_266 5 rfl ?_
                refine g_aload S dL_act_268 9 rfl ?_
                have hso_q7 : sm ≠ s3 SS := fun e => absurd (show sO SS sm = -2 by rw [e]; exact hT.2.2.1) (by rw [hT.2.1]; decide)
                refine g_ex (P := s3 SS < z + 2) (fun _ h => (SX.lts h.2.2.2.1).1) (fun hl3 => ?_)
                refine g_stR S xK xO (t := 4) (by decide) (Wp' := fun H => ∃ S2 : SA, SD SS S2 ∧ H.size = zx ∧ va_at E.1 vwCl (sm, .inr (2, [.int (iI pg), .ref (s3 S2), .ref (s1 S2), .ref (s2 S2)])) H ∧ (SX E zc sm S2 (upI sp u_q7 Gb) se n) H ∧ (CA E ad sp se al n pg) H ∧ vR E 3 cy Gb.1 rb H) (n := n) (f := sB SS) (fun _ h => (h.2.2.2.1.out (LW.st SX.lw)).a3) (fun _ h => ⟨_, _, h.2.1.1.1⟩) (by omega) ((show zb ≤ s3 SS by have w7_q7 := hT.g3; omega)) (fun _ _ h hv_q7 z1 oq => by obtain ⟨S9, hd9, hs9⟩ := SX.setSp h.2.2.2.1 h.2.1 (by omega) (u := u_q7) (by omega) (by omega) hv_q7 oq; exact ⟨S9, hd9, z1.trans h.1, by rw [hd9.1, hd9.2.1, hd9.2.2.1]; exact h.2.2.1.kept (oq _ hso_q7), hs9, h.2.2.2.2.kept (fun q q1 => oq q (by have w8_q7 := (hax q q1).2; have w7_q7 := hT.g3; omega)), h.2.1.1.1.kept (oq _ (by show cy ≠ s3 SS; omega))⟩) dL_act_270 ?_
                refine g_exU (fun S2 => ?_)
                refine g_preP (fun hS2 => ?_)
                refine g_aload_n S dL_act_271 rfl 1 rfl ?_
                refine g_iload S dL_act_272 5 rfl ?_
                refine g_iload S dL_act_274 7 rfl ?_
                refine g_iload S dL_act_276 8 rfl ?_
                refine g_callV S xK (As := [.int (iI u_q7), .int (iI fr_q7), .int (iI to_q7)]) (st := []) (stk' := [.int (iI Gb.1)]) (Wp' := fun H => zx ≤ H.size ∧ va_at E.1 vwCl (sm, .inr (2, [.int (iI pg), .ref (s3 S2), .ref (s1 S2), .ref (s2 S2)])) H ∧ (SX E zc sm S2 (upI sp u_q7 Gb) se n) H ∧ (CA E ad (upI sp u_q7 Gb) se al n pg) H ∧ vR E 3 cy Gb.1 rb H) (r := (RX1, TX1, 9)) (q_addPages l E hj J u_q7 fr_q7 to_q7 Gb (by omega) (by omega) (by omega) ⟨hGb.1, fun q => by rw [hGb.2 q, apn_cov v9_q7.1.1]⟩ (by omega)) (cwV 3 S.2.2.2.2 gL_act_X1_addPages rfl rfl rfl (by decide +kernel) ⟨Nat.le_of_ble_eq_true rfl, Nat.le_of_ble_eq_true rfl⟩) rfl rfl rfl rfl (Nat.le_of_ble_eq_true rfl) ⟨show kc + 0 ≤ 1640 by omega, show ks + 0 ≤ 26400 by omega⟩ (fun q9_q7 h9 => (hax q9_q7 h9).1) (fun _ h => h.2.2.2.1.cx) (fun _ h => h.2.2.2.1) (fun _ _ h h2 hle hq => ⟨Nat.le_trans (Nat.le_of_eq h.1.symm) hle, h.2.1.kept (hq _ h.2.1.lt (fun w9_q7 => by have w8_q7 := (hax _ w9_q7).2; omega)), h.2.2.1.far (fun q q1 q2 => hq q q1 (fun w9_q7 => by have w8_q7 := (hax q w9_q7).2; omega)), h2, h.2.2.2.2.kept (hq _ h.2.2.2.2.lt (fun w9_q7 => by have w8_q7 := (hax _ w9_q7).2; omega))⟩) dL_act_278 ?_
                refine g_aload S dL_act_281 9 rfl ?_
                refine g_lenR S xK (t := 3) (by decide) (n := Gb.1) (f := rb) (fun _ h => h.2.2.2.2) (by omega) dL_act_283 ?_
                refine g_icmp_ne S (tgt := 296) dL_act_284 (by decide) (by omega) (fun c284_q7 => ?_) (fun c284_q7 => ?_)
                · skip
                  exact absurd c284_q7 (by omega)
                · skip
                  refine g_iload S dL_act_287 0 rfl ?_
                  refine g_if_eq S (tgt := 296) dL_act_289 (by decide) (by omega) (fun c289_q7 => ?_) (fun c289_q7 => ?_)
                  · skip
                    exact absurd c289_q7 (by omega)
                  · skip
                    refine g_iconst S dL_act_292 ?_
                    refine g_goto S (tgt := 297) dL_act_293 (by decide) ?_
                    refine g_wid (k := 1640) (n := 26400) (by omega) (by omega) ?_
                    exact g_zret S xr xlk (Or.inr rfl) dL_act_297 (fun _ h => ⟨S2, upI sp u_q7 Gb, se, al, n, pg, ⟨jv_pages J (by omega) ⟨hGb.1, by omega⟩ (fun w9_q7 => absurd (show se u_q7 = -1 by omega) w9_q7), al2_sd hal hS2, Int.le_refl _⟩, h.2.1, h.2.2.1, h.2.2.2.1⟩)
            refine g_astore S (lv' := [(9, .ref (cy)), (0, .ref (ad 0)), (1, .ref (sm)), (2, .int (iI xv)), (3, .int (iI n)), (4, .int (iI u_q7)), (5, .int (iI o_q7)), (6, .int (iI fr_q7)), (7, .int (iI to_q7)), (8, .int (iI 1))]) dL_act_230 (Nat.le_of_ble_eq_true rfl) rfl ?_
            refine g_aload_n S dL_act_232 rfl 2 rfl ?_
            refine g_get S xK (ref := "BookIndexLaw$Sim") hin2_q7 2 (by decide) (show vwCl[2]? = some (RX2, TX2, 4) from rfl) kf9 (fun _ h9 => h9) (fun _ h => h.2.2.1) rfl dL_act_233 ?_
            refine g_iload S dL_act_236 5 rfl ?_
            refine g_iald S xK (n := (n : Int).toNat) (F := se) (fun _ h => (h.2.2.2.1.out (LW.st SX.lw)).a1) (by omega) (by omega) dL_act_238 ?_
            refine g_if_ge S (tgt := 254) dL_act_239 (by decide) (by omega) (fun c239_q7 => ?_) (fun c239_q7 => ?_)
            · skip
              refine g_iconst S dL_act_254 ?_
              refine g_lv [1, 2, 3, 4, 5, 6, 7, 8, 0] rfl ?_
              exact L255 0 (kc + 1 + 1 + 34) (ks + (2 : Int).toNat + 31 + 544) (Or.inr ⟨rfl, Or.inl (by omega)⟩) (by omega)
            · skip
              refine g_aload S dL_act_242 0 rfl ?_
              refine g_lenR S xK (t := 3) (by decide) (n := Gb.1) (f := rb) (fun _ h => h.2.1.1.1) (by omega) dL_act_244 ?_
              refine g_bipush S dL_act_245 (by decide) ?_
              refine g_icmp_ge S (tgt := 254) dL_act_247 (by decide) (by omega) (fun c247_q7 => ?_) (fun c247_q7 => ?_)
              · skip
                refine g_iconst S dL_act_254 ?_
                refine g_lv [1, 2, 3, 4, 5, 6, 7, 8, 0] rfl ?_
                exact L255 0 (kc + 1 + 1 + 34) (ks + (2 : Int).toNat + 31 + 544) (Or.inr ⟨rfl, Or.inr (by omega)⟩) (by omega)
              · skip
                refine g_iconst S dL_act_250 ?_
                refine g_goto S (tgt := 255) dL_act_251 (by decide) ?_
                refine g_lv [1, 2, 3, 4, 5, 6, 7, 8, 0] rfl ?_
                exact L255 1 (kc + 1 + 1 + 34) (ks + (2 : Int).toNat + 31 + 544) (Or.inl ⟨rfl, by omega, by omega⟩) (by omega)
          have L298 : ∀ (kc : Nat) (ks : Nat), (kc ≤ 0 ∧ ks ≤ 0) → G xp l xe ({ frames := 8, cells := 1640, slots := 26400, locals := 127 }) xs xm xa xb xh xc 14 (fun q0 => zb ≤ q0) kc ks (MQ xb (QW (some (.int (iI 1))) (JS E ad zc sm n) (fun q0 => zb ≤ q0)) xa xs 1640 26400 (fun q0 => zb ≤ q0)) 298 [(0, .ref (ad 0)), (1, .ref (sm)), (2, .int (iI xv)), (3, .int (iI n)), (4, .int (iI u_q7)), (5, .int (iI o_q7)), (6, .int (iI fr_q7)), (7, .int (iI to_q7)), (8, .int (iI 1))] [] (fun H => H.size = z ∧ va_at E.1 vwCl (sm, .inr (2, [.int (iI pg), .ref (s3 SS), .ref (s1 SS), .ref (s2 SS)])) H ∧ (SX E zc sm SS sp se n) H ∧ (CA E ad sp se al n pg) H) := by
            intro kc ks hk0_q7
            refine g_aload_n S dL_act_298 rfl 1 rfl ?_
            refine g_get S xK (ref := "BookIndexLaw$Sim") hin2_q7 1 (by decide) (show vwCl[2]? = some (RX2, TX2, 4) from rfl) kf38 (fun _ h9 => h9) (fun _ h => h.2.1) rfl dL_act_299 ?_
            refine g_iload S dL_act_302 4 rfl ?_
            refine g_ldR S xK (t := 4) (by decide) (n := n) (f := sB SS) (fun _ h => h.2.2.1.a3) (by omega) dL_act_304 ?_
            refine g_iload S dL_act_305 6 rfl ?_
            refine g_iload S dL_act_307 7 rfl ?_
            refine g_callSR S xK xO (As := [.ref (sB SS u_q7), .int (iI fr_q7), .int (iI to_q7)]) (st := []) (Wn := fun cx H => ∃ (zy : Nat) (Ga : SpT) (ra : Int → Nat), ((VL Ga pg ∧ Ga.1 ≤ 2 * (sp u_q7).1) ∧ ∀ q0, cov Ga q0 ↔ cov (sp u_q7) q0 ∧ ¬ (fr_q7 ≤ q0 ∧ q0 ≤ to_q7)) ∧ H.size = zy ∧ (MR E z cx Ga ra) H ∧ va_at E.1 vwCl (sm, .inr (2, [.int (iI pg), .ref (s3 SS), .ref (s1 SS), .ref (s2 SS)])) H ∧ (FZ z (SX E zc sm SS sp se n)) H ∧ (CA E ad sp se al n pg) H) (m_X2_cut l E (z) (FZ.kp (z := z) (W := fun H => va_at E.1 vwCl (sm, .inr (2, [.int (iI pg), .ref (s3 SS), .ref (s1 SS), .ref (s2 SS)])) H ∧ (SX E zc sm SS sp se n) H ∧ (CA E ad sp se al n pg) H)) (sB SS u_q7) (sp u_q7) (sR SS u_q7) pg fr_q7 to_q7 (fun _ h => (h.out (ST.and (LW.st LW.at) (ST.and (LW.st SX.lw) (LW.st CA.lw)))).2.1.rw (u := u_q7) (by omega)) (v9_q7.1) (v9_q7.2) (by omega) (by omega)) (va_cwS 3 S.2.2.2.2 gL_act_X2_cut rfl rfl rfl (by decide +kernel) ⟨Nat.le_of_ble_eq_true rfl, Nat.le_of_ble_eq_true rfl⟩) rfl rfl (Nat.le_of_ble_eq_true rfl) ⟨show kc + 33 ≤ 1640 by omega, show ks + 528 ≤ 26400 by omega⟩ (fun q9_q7 (hq9 : z ≤ q9_q7) => (by show zb ≤ q9_q7; omega)) (fun _ h => ⟨h.1, FZ.mk h.1 h.2⟩) (fun cx _ _ _ h _ _ => by obtain ⟨zy, Ga, ra, h1, h2, h3, h4⟩ := h; exact ⟨zy, Ga, ra, h1, h2, h3, (h4.out (ST.and (LW.st LW.at) (ST.and (LW.st SX.lw) (LW.st CA.lw)))).1, (FZ.imp h4 (fun _ _ h => h.2.1)), (h4.out (ST.and (LW.st LW.at) (ST.and (LW.st SX.lw) (LW.st CA.lw)))).2.2⟩) dL_act_309 (fun cx => ?_)
            refine g_exU (fun zy => ?_)
            refine g_exU (fun Ga => ?_)
            refine g_exU (fun ra => ?_)
            refine g_preP (fun hGa => ?_)
            refine g_ex (P := z ≤ cx ∧ cx < zy ∧ ∀ k : Int, 0 ≤ k → k < Ga.1 → z ≤ ra k ∧ ra k < cx) (fun _ h => ⟨h.2.1.2.1.2, by have w8_q7 : cx < _ := h.2.1.1.1.lt; have y8_q7 := h.1; omega, h.2.1.2.2.1⟩) (fun hma => ?_)
            have ga0_q7 := hGa.1.1.1
            have ga1_q7 := hGa.1.1.2.1
            have ga2_q7 := hGa.1.2
            refine g_astore S (lv' := [(9, .ref (cx)), (0, .ref (ad 0)), (1, .ref (sm)), (2, .int (iI xv)), (3, .int (iI n)), (4, .int (iI u_q7)), (5, .int (iI o_q7)), (6, .int (iI fr_q7)), (7, .int (iI to_q7)), (8, .int (iI 1))]) dL_act_312 (Nat.le_of_ble_eq_true rfl) rfl ?_
            refine g_aload_n S dL_act_314 rfl 2 rfl ?_
            refine g_get S xK (ref := "BookIndexLaw$Sim") hin2_q7 1 (by decide) (show vwCl[2]? = some (RX2, TX2, 4) from rfl) kf38 (fun _ h9 => h9) (fun _ h => h.2.2.1) rfl dL_act_315 ?_
            refine g_iload S dL_act_318 5 rfl ?_
            refine g_ldR S xK (t := 4) (by decide) (n := n) (f := sB SS) (fun _ h => (h.2.2.2.1.out (LW.st SX.lw)).a3) (by omega) dL_act_320 ?_
            refine g_callS S xK (As := [.ref (sB SS u_q7)]) (st := []) (stk' := [.int (iI (PGS (sp u_q7)))]) (Wp' := fun H => H.size = zy ∧ (MR E z cx Ga ra) H ∧ va_at E.1 vwCl (sm, .inr (2, [.int (iI pg), .ref (s3 SS), .ref (s1 SS), .ref (s2 SS)])) H ∧ (FZ z (SX E zc sm SS sp se n)) H ∧ (CA E ad sp se al n pg) H) (m_X2_pagesOf l E (Wp := fun H => H.size = zy ∧ (MR E z cx Ga ra) H ∧ va_at E.1 vwCl (sm, .inr (2, [.int (iI pg), .ref (s3 SS), .ref (s1 SS), .ref (s2 SS)])) H ∧ (FZ z (SX E zc sm SS sp se n)) H ∧ (CA E ad sp se al n pg) H) (sB SS u_q7) (sp u_q7) (sR SS u_q7) (fun _ h => (h.2.2.2.1.out (LW.st SX.lw)).rw (u := u_q7) (by omega)) (by omega)) (va_cwS 1 S.2.2.2.2 gL_act_X2_pagesOf rfl rfl rfl (by decide +kernel) ⟨Nat.le_of_ble_eq_true rfl, Nat.le_of_ble_eq_true rfl⟩) rfl rfl rfl (Nat.le_of_ble_eq_true rfl) ⟨show kc + 33 + 0 ≤ 1640 by omega, show ks + 528 + 0 ≤ 26400 by omega⟩ (fun _ q => q.elim) (fun _ h => h) (fun _ _ _ h _ _ => h) dL_act_321 ?_
            refine g_aload S dL_act_324 0 rfl ?_
            refine g_callS S xK (As := [.ref (cx)]) (st := [.int (iI (PGS (sp u_q7)))]) (stk' := [.int (iI (PGS Ga)), .int (iI (PGS (sp u_q7)))]) (Wp' := fun H => H.size = zy ∧ (MR E z cx Ga ra) H ∧ va_at E.1 vwCl (sm, .inr (2, [.int (iI pg), .ref (s3 SS), .ref (s1 SS), .ref (s2 SS)])) H ∧ (FZ z (SX E zc sm SS sp se n)) H ∧ (CA E ad sp se al n pg) H) (m_X2_pagesOf l E (Wp := fun H => H.size = zy ∧ (MR E z cx Ga ra) H ∧ va_at E.1 vwCl (sm, .inr (2, [.int (iI pg), .ref (s3 SS), .ref (s1 SS), .ref (s2 SS)])) H ∧ (FZ z (SX E zc sm SS sp se n)) H ∧ (CA E ad sp se al n pg) H) cx Ga ra (fun _ h => h.2.1.1) (by omega)) (va_cwS 1 S.2.2.2.2 gL_act_X2_pagesOf rfl rfl rfl (by decide +kernel) ⟨Nat.le_of_ble_eq_true rfl, Nat.le_of_ble_eq_true rfl⟩) rfl rfl rfl (Nat.le_of_ble_eq_true rfl) ⟨show kc + 33 + 0 ≤ 1640 by omega, show ks + 528 + 0 ≤ 26400 by omega⟩ (fun _ q => q.elim) (fun _ h => h) (fun _ _ _ h _ _ => h) dL_act_326 ?_
            have pg1_q7 := pgs_b v9_q7.1 (by omega)
            have pg2_q7 := pgs_b hGa.1.1 (by omega)
            refine g_isub S dL_act_329 ?_
            refine g_istore S (lv' := [(10, .int (iI (PGS (sp u_q7) - PGS Ga))), (9, .ref (cx)), (0, .ref (ad 0)), (1, .ref (sm)), (2, .int (iI xv)), (3, .int (iI n)), (4, .int (iI u_q7)), (5, .int (iI o_q7)), (6, .int (iI fr_q7)), (7, .int (iI to_q7)), (8, .int (iI 1))]) dL_act_330 (Nat.le_of_ble_eq_true rfl) rfl ?_
            have L345 : ∀ (v_q7 : Int) (kc : Nat) (ks : Nat), ((v_q7 = 1 ∧ Ga.1 ≤ 8) ∨ (v_q7 = 0 ∧ 8 < Ga.1)) → (kc ≤ 33 ∧ ks ≤ 528) → G xp l xe ({ frames := 8, cells := 1640, slots := 26400, locals := 127 }) xs xm xa xb xh xc 14 (fun q0 => zb ≤ q0) kc ks (MQ xb (QW (some (.int (iI 1))) (JS E ad zc sm n) (fun q0 => zb ≤ q0)) xa xs 1640 26400 (fun q0 => zb ≤ q0)) 345 [(0, .ref (ad 0)), (1, .ref (sm)), (2, .int (iI xv)), (3, .int (iI n)), (4, .int (iI u_q7)), (5, .int (iI o_q7)), (6, .int (iI fr_q7)), (7, .int (iI to_q7)), (9, .ref (cx)), (10, .int (iI (PGS (sp u_q7) - PGS Ga)))] [.int (iI v_q7)] (fun H => H.size = zy ∧ (MR E z cx Ga ra) H ∧ va_at E.1 vwCl (sm, .inr (2, [.int (iI pg), .ref (s3 SS), .ref (s1 SS), .ref (s2 SS)])) H ∧ (FZ z (SX E zc sm SS sp se n)) H ∧ (CA E ad sp se al n pg) H) := by
              intro v_q7 kc ks hv_q7 hk3_q7
              refine g_istore S (lv' := [(8, .int (iI v_q7)), (0, .ref (ad 0)), (1, .ref (sm)), (2, .int (iI xv)), (3, .int (iI n)), (4, .int (iI u_q7)), (5, .int (iI o_q7)), (6, .int (iI fr_q7)), (7, .int (iI to_q7)), (9, .ref (cx)), (10, .int (iI (PGS (sp u_q7) - PGS Ga)))]) dL_act_345 (Nat.le_of_ble_eq_true rfl) rfl ?_
              refine g_iload S dL_act_347 0 rfl ?_
              refine g_if_eq S (tgt := 361) dL_act_349 (by decide) (by omega) (fun c349_q7 => ?_) (fun c349_q7 => ?_)
              · skip
                refine g_aload_n S dL_act_361 rfl 1 rfl ?_
                refine g_iload S dL_act_362 5 rfl ?_
                refine g_iload S dL_act_364 7 rfl ?_
                refine g_iload S dL_act_366 8 rfl ?_
                refine g_callVC2 S xK xX (Wp' := fun H => zy ≤ H.size ∧ va_at E.1 vwCl (sm, .inr (2, [.int (iI pg), .ref (s3 SS), .ref (s1 SS), .ref (s2 SS)])) H ∧ (SX E zc sm SS sp se n) H ∧ (CA E ad sp se al n pg) H) (As := [.int (iI u_q7), .int (iI fr_q7), .int (iI to_q7)]) (st := []) (r := (RX1, TX1, 9)) (x_takePagesR l hst E zb hj J u_q7 fr_q7 to_q7 Ga (by omega) (by omega) ⟨hGa.1.1, hGa.2⟩ (by omega) (fun q9_q7 h9 => (hax q9_q7 h9).1)) (cwV 3 S.2.2.2.2 gL_act_X1_takePages rfl rfl rfl (by decide +kernel) ⟨Nat.le_of_ble_eq_true rfl, Nat.le_of_ble_eq_true rfl⟩) rfl rfl rfl (Nat.le_of_ble_eq_true rfl) ⟨show kc + 1 ≤ 1640 by omega, show ks + 6 ≤ 26400 by omega⟩ (fun q9_q7 h9 => (hax q9_q7 h9).1) (fun _ h9 => h9) (fun _ h => h.2.2.2.2.cx) (fun _ h => h.2.2.2.2) (fun _ _ h h2 hle hq => ⟨Nat.le_trans (Nat.le_of_eq h.1.symm) hle, h.2.2.1.kept (hq _ h.2.2.1.lt (fun w9_q7 => by have w8_q7 := (hax _ w9_q7).2; omega)), (h.2.2.2.1.out (LW.st SX.lw)).far (fun q q1 q2 => hq q q1 (fun w9_q7 => by have w8_q7 := (hax q w9_q7).2; omega)), h2⟩) dL_act_368 [⟨130, 297, 789, 94⟩] ⟨298, 386, 789, 94⟩ [⟨387, 408, 789, 94⟩, ⟨409, 478, 789, 94⟩, ⟨479, 487, 789, 94⟩, ⟨488, 621, 789, 94⟩, ⟨622, 732, 789, 94⟩, ⟨733, 788, 789, 94⟩] xt (by decide) rfl (by decide) kx94 (by decide) (fun xq => ?_)
                refine g_astore S (lv' := [(9, .ref (xq)), (8, .int (iI v_q7)), (0, .ref (ad 0)), (1, .ref (sm)), (2, .int (iI xv)), (3, .int (iI n)), (4, .int (iI u_q7)), (5, .int (iI o_q7)), (6, .int (iI fr_q7)), (7, .int (iI to_q7)), (10, .int (iI (PGS (sp u_q7) - PGS Ga)))]) dL_act_789 (Nat.le_of_ble_eq_true rfl) rfl ?_
                refine g_iload S dL_act_791 1 rfl ?_
                refine g_if_ne S (tgt := 800) dL_act_793 (by decide) (by omega) (fun c793_q7 => ?_) (fun c793_q7 => ?_)
                · skip
                  exact absurd c793_q7 (by omega)
                · skip
                  refine g_iconst S dL_act_796 ?_
                  refine g_goto S (tgt := 801) dL_act_797 (by decide) ?_
                  refine g_wid (k := 1640) (n := 26400) (by omega) (by omega) ?_
                  exact g_zret S xr xlk (Or.inr rfl) dL_act_801 (fun _ h => ⟨SS, sp, se, al, n, pg, ⟨J, hal, Int.le_refl _⟩, h.2.1, h.2.2.1, h.2.2.2⟩)
              · skip
                refine g_aload_n S dL_act_352 rfl 2 rfl ?_
                refine g_get S xK (ref := "BookIndexLaw$Sim") hin2_q7 1 (by decide) (show vwCl[2]? = some (RX2, TX2, 4) from rfl) kf38 (fun _ h9 => h9) (fun _ h => h.2.2.1) rfl dL_act_353 ?_
                refine g_iload S dL_act_356 5 rfl ?_
                refine g_aload S dL_act_358 9 rfl ?_
                have hso_q7 : sm ≠ s3 SS := fun e => absurd (show sO SS sm = -2 by rw [e]; exact hT.2.2.1) (by rw [hT.2.1]; decide)
                refine g_ex (P := s3 SS < z) (fun _ h => (SX.lts h.2.2.2.1).1) (fun hl3 => ?_)
                refine g_stR S xK xO (t := 4) (by decide) (Wp' := fun H => ∃ S2 : SA, SD SS S2 ∧ H.size = zy ∧ va_at E.1 vwCl (sm, .inr (2, [.int (iI pg), .ref (s3 S2), .ref (s1 S2), .ref (s2 S2)])) H ∧ (SX E zc sm S2 (upI sp u_q7 Ga) se n) H ∧ (CA E ad sp se al n pg) H ∧ vR E 3 cx Ga.1 ra H) (n := n) (f := sB SS) (fun _ h => (h.2.2.2.1.out (LW.st SX.lw)).a3) (fun _ h => ⟨_, _, h.2.1.1.1⟩) (by omega) ((show zb ≤ s3 SS by have w7_q7 := hT.g3; omega)) (fun _ _ h hv_q7 z1 oq => by obtain ⟨S9, hd9, hs9⟩ := SX.setSp h.2.2.2.1 h.2.1 (by omega) (u := u_q7) (by omega) (by omega) hv_q7 oq; exact ⟨S9, hd9, z1.trans h.1, by rw [hd9.1, hd9.2.1, hd9.2.2.1]; exact h.2.2.1.kept (oq _ hso_q7), hs9, h.2.2.2.2.kept (fun q q1 => oq q (by have w8_q7 := (hax q q1).2; have w7_q7 := hT.g3; omega)), h.2.1.1.1.kept (oq _ (by show cx ≠ s3 SS; omega))⟩) dL_act_360 ?_
                refine g_exU (fun S2 => ?_)
                refine g_preP (fun hS2 => ?_)
                refine g_aload_n S dL_act_361 rfl 1 rfl ?_
                refine g_iload S dL_act_362 5 rfl ?_
                refine g_iload S dL_act_364 7 rfl ?_
                refine g_iload S dL_act_366 8 rfl ?_
                refine g_callV S xK (As := [.int (iI u_q7), .int (iI fr_q7), .int (iI to_q7)]) (st := []) (stk' := [.int (iI (PGS (sp u_q7) - PGS Ga))]) (Wp' := fun H => zy ≤ H.size ∧ va_at E.1 vwCl (sm, .inr (2, [.int (iI pg), .ref (s3 S2), .ref (s1 S2), .ref (s2 S2)])) H ∧ (SX E zc sm S2 (upI sp u_q7 Ga) se n) H ∧ (CA E ad (upI sp u_q7 Ga) se al n pg) H ∧ vR E 3 cx Ga.1 ra H) (r := (RX1, TX1, 9)) (q_takePages l E hj J u_q7 fr_q7 to_q7 Ga (by omega) (by omega) ⟨hGa.1.1, hGa.2⟩ (by omega)) (cwV 3 S.2.2.2.2 gL_act_X1_takePages rfl rfl rfl (by decide +kernel) ⟨Nat.le_of_ble_eq_true rfl, Nat.le_of_ble_eq_true rfl⟩) rfl rfl rfl rfl (Nat.le_of_ble_eq_true rfl) ⟨show kc + 0 ≤ 1640 by omega, show ks + 0 ≤ 26400 by omega⟩ (fun q9_q7 h9 => (hax q9_q7 h9).1) (fun _ h => h.2.2.2.1.cx) (fun _ h => h.2.2.2.1) (fun _ _ h h2 hle hq => ⟨Nat.le_trans (Nat.le_of_eq h.1.symm) hle, h.2.1.kept (hq _ h.2.1.lt (fun w9_q7 => by have w8_q7 := (hax _ w9_q7).2; omega)), h.2.2.1.far (fun q q1 q2 => hq q q1 (fun w9_q7 => by have w8_q7 := (hax q w9_q7).2; omega)), h2, h.2.2.2.2.kept (hq _ h.2.2.2.2.lt (fun w9_q7 => by have w8_q7 := (hax _ w9_q7).2; omega))⟩) dL_act_368 ?_
                refine g_iload S dL_act_371 10 rfl ?_
                refine g_icmp_ne S (tgt := 385) dL_act_373 (by decide) (by omega) (fun c373_q7 => ?_) (fun c373_q7 => ?_)
                · skip
                  exact absurd c373_q7 (by omega)
                · skip
                  refine g_iload S dL_act_376 0 rfl ?_
                  refine g_if_eq S (tgt := 385) dL_act_378 (by decide) (by omega) (fun c378_q7 => ?_) (fun c378_q7 => ?_)
                  · skip
                    exact absurd c378_q7 (by omega)
                  · skip
                    refine g_iconst S dL_act_381 ?_
                    refine g_goto S (tgt := 386) dL_act_382 (by decide) ?_
                    refine g_wid (k := 1640) (n := 26400) (by omega) (by omega) ?_
                    exact g_zret S xr xlk (Or.inr rfl) dL_act_386 (fun _ h => ⟨S2, upI sp u_q7 Ga, se, al, n, pg, ⟨jv_pages J (by omega) ⟨hGa.1.1, by omega⟩ (fun w9_q7 => by have w8_q7 := (J.hno u_q7 (by omega) (by omega)).2.2 w9_q7; omega), al2_sd hal hS2, Int.le_refl _⟩, h.2.1, h.2.2.1, h.2.2.2.1⟩)
            refine g_aload S dL_act_332 1 rfl ?_
            refine g_lenR S xK (t := 3) (by decide) (n := Ga.1) (f := ra) (fun _ h => h.2.1.1.1) (by omega) dL_act_334 ?_
            refine g_bipush S dL_act_335 (by decide) ?_
            refine g_icmp_ge S (tgt := 344) dL_act_337 (by decide) (by omega) (fun c337_q7 => ?_) (fun c337_q7 => ?_)
            · skip
              refine g_iconst S dL_act_344 ?_
              refine g_lv [2, 3, 4, 5, 6, 7, 8, 9, 1, 0] rfl ?_
              exact L345 0 (kc + 33) (ks + 528) (Or.inr ⟨rfl, by omega⟩) (by omega)
            · skip
              refine g_iconst S dL_act_340 ?_
              refine g_goto S (tgt := 345) dL_act_341 (by decide) ?_
              refine g_lv [2, 3, 4, 5, 6, 7, 8, 9, 1, 0] rfl ?_
              exact L345 1 (kc + 33) (ks + 528) (Or.inl ⟨rfl, by omega⟩) (by omega)
          have L387 : ∀ (kc : Nat) (ks : Nat), (kc ≤ 0 ∧ ks ≤ 0) → G xp l xe ({ frames := 8, cells := 1640, slots := 26400, locals := 127 }) xs xm xa xb xh xc 14 (fun q0 => zb ≤ q0) kc ks (MQ xb (QW (some (.int (iI 1))) (JS E ad zc sm n) (fun q0 => zb ≤ q0)) xa xs 1640 26400 (fun q0 => zb ≤ q0)) 387 [(0, .ref (ad 0)), (1, .ref (sm)), (2, .int (iI xv)), (3, .int (iI n)), (4, .int (iI u_q7)), (5, .int (iI o_q7)), (6, .int (iI fr_q7)), (7, .int (iI to_q7)), (8, .int (iI 1))] [] (fun H => H.size = z ∧ va_at E.1 vwCl (sm, .inr (2, [.int (iI pg), .ref (s3 SS), .ref (s1 SS), .ref (s2 SS)])) H ∧ (SX E zc sm SS sp se n) H ∧ (CA E ad sp se al n pg) H) := by
            intro kc ks hk0_q7
            refine g_iload_n S dL_act_387 rfl 2 rfl ?_
            have L400 : ∀ (oc_q7 : Int) (kc : Nat) (ks : Nat), (oc_q7 = -1 ∨ (0 ≤ oc_q7 ∧ oc_q7 < n)) → (kc ≤ 0 ∧ ks ≤ 0) → G xp l xe ({ frames := 8, cells := 1640, slots := 26400, locals := 127 }) xs xm xa xb xh xc 14 (fun q0 => zb ≤ q0) kc ks (MQ xb (QW (some (.int (iI 1))) (JS E ad zc sm n) (fun q0 => zb ≤ q0)) xa xs 1640 26400 (fun q0 => zb ≤ q0)) 400 [(0, .ref (ad 0)), (1, .ref (sm)), (2, .int (iI xv)), (3, .int (iI n)), (4, .int (iI u_q7)), (5, .int (iI oc_q7)), (6, .int (iI fr_q7)), (7, .int (iI to_q7)), (8, .int (iI 1))] [] (fun H => H.size = z ∧ va_at E.1 vwCl (sm, .inr (2, [.int (iI pg), .ref (s3 SS), .ref (s1 SS), .ref (s2 SS)])) H ∧ (SX E zc sm SS sp se n) H ∧ (CA E ad sp se al n pg) H) := by
              intro oc_q7 kc ks hoc_q7 hk4_q7
              refine g_iload S dL_act_400 5 rfl ?_
              refine g_iload S dL_act_402 4 rfl ?_
              refine g_icmp_ne S (tgt := 409) dL_act_404 (by decide) (by omega) (fun c404_q7 => ?_) (fun c404_q7 => ?_)
              · skip
                have L430 : ∀ (v_q7 : Int) (kc : Nat) (ks : Nat), ((v_q7 = 1 ∧ (oc_q7 = -1 ∨ (sp u_q7).1 = 0)) ∨ (v_q7 = 0 ∧ oc_q7 ≠ -1 ∧ (sp u_q7).1 ≠ 0)) → (kc ≤ 0 ∧ ks ≤ 0) → G xp l xe ({ frames := 8, cells := 1640, slots := 26400, locals := 127 }) xs xm xa xb xh xc 14 (fun q0 => zb ≤ q0) kc ks (MQ xb (QW (some (.int (iI 1))) (JS E ad zc sm n) (fun q0 => zb ≤ q0)) xa xs 1640 26400 (fun q0 => zb ≤ q0)) 430 [(0, .ref (ad 0)), (1, .ref (sm)), (2, .int (iI xv)), (3, .int (iI n)), (4, .int (iI u_q7)), (5, .int (iI oc_q7)), (6, .int (iI fr_q7)), (7, .int (iI to_q7))] [.int (iI v_q7)] (fun H => H.size = z ∧ va_at E.1 vwCl (sm, .inr (2, [.int (iI pg), .ref (s3 SS), .ref (s1 SS), .ref (s2 SS)])) H ∧ (SX E zc sm SS sp se n) H ∧ (CA E ad sp se al n pg) H) := by
                  intro v_q7 kc ks hv_q7 hk5_q7
                  refine g_istore S (lv' := [(8, .int (iI v_q7)), (0, .ref (ad 0)), (1, .ref (sm)), (2, .int (iI xv)), (3, .int (iI n)), (4, .int (iI u_q7)), (5, .int (iI oc_q7)), (6, .int (iI fr_q7)), (7, .int (iI to_q7))]) dL_act_430 (Nat.le_of_ble_eq_true rfl) rfl ?_
                  refine g_aload_n S dL_act_432 rfl 2 rfl ?_
                  refine g_get S xK (ref := "BookIndexLaw$Sim") hin2_q7 2 (by decide) (show vwCl[2]? = some (RX2, TX2, 4) from rfl) kf9 (fun _ h9 => h9) (fun _ h => h.2.1) rfl dL_act_433 ?_
                  refine g_iload S dL_act_436 5 rfl ?_
                  refine g_iald S xK (n := (n : Int).toNat) (F := se) (fun _ h => h.2.2.1.a1) (by omega) (by omega) dL_act_438 ?_
                  refine g_istore S (lv' := [(9, .int (iI (se u_q7))), (8, .int (iI v_q7)), (0, .ref (ad 0)), (1, .ref (sm)), (2, .int (iI xv)), (3, .int (iI n)), (4, .int (iI u_q7)), (5, .int (iI oc_q7)), (6, .int (iI fr_q7)), (7, .int (iI to_q7))]) dL_act_439 (Nat.le_of_ble_eq_true rfl) rfl ?_
                  refine g_iload S dL_act_441 1 rfl ?_
                  refine g_if_eq S (tgt := 455) dL_act_443 (by decide) (by omega) (fun c443_q7 => ?_) (fun c443_q7 => ?_)
                  · skip
                    refine g_aload_n S dL_act_455 rfl 2 rfl ?_
                    refine g_iload S dL_act_456 6 rfl ?_
                    refine g_iload S dL_act_458 7 rfl ?_
                    refine g_callVC2 S xK xX (Wp' := fun H => z ≤ H.size ∧ va_at E.1 vwCl (sm, .inr (2, [.int (iI pg), .ref (s3 SS), .ref (s1 SS), .ref (s2 SS)])) H ∧ (SX E zc sm SS sp se n) H ∧ (CA E ad sp se al n pg) H) (As := [.int (iI u_q7), .int (iI oc_q7)]) (st := []) (r := (RX1, TX1, 9)) (x_setSeeR l hst E zb hj J u_q7 oc_q7 (by omega) (by omega) (by omega)) (cwV 2 S.2.2.2.2 gL_act_X1_setSee rfl rfl rfl (by decide +kernel) ⟨Nat.le_of_ble_eq_true rfl, Nat.le_of_ble_eq_true rfl⟩) rfl rfl rfl (Nat.le_of_ble_eq_true rfl) ⟨show kc + 1 ≤ 1640 by omega, show ks + 6 ≤ 26400 by omega⟩ (fun q9_q7 h9 => (hax q9_q7 h9).1) (fun _ h9 => h9) (fun _ h => h.2.2.2.cx) (fun _ h => h.2.2.2) (fun _ _ h h2 hle hq => ⟨Nat.le_trans (Nat.le_of_eq h.1.symm) hle, h.2.1.kept (hq _ h.2.1.lt (fun w9_q7 => by have w8_q7 := (hax _ w9_q7).2; omega)), h.2.2.1.far (fun q q1 q2 => hq q q1 (fun w9_q7 => by have w8_q7 := (hax q w9_q7).2; omega)), h2⟩) dL_act_460 [⟨130, 297, 789, 94⟩, ⟨298, 386, 789, 94⟩, ⟨387, 408, 789, 94⟩] ⟨409, 478, 789, 94⟩ [⟨479, 487, 789, 94⟩, ⟨488, 621, 789, 94⟩, ⟨622, 732, 789, 94⟩, ⟨733, 788, 789, 94⟩] xt (by decide) rfl (by decide) kx94 (by decide) (fun xq => ?_)
                    refine g_astore S (lv' := [(9, .ref (xq)), (8, .int (iI v_q7)), (0, .ref (ad 0)), (1, .ref (sm)), (2, .int (iI xv)), (3, .int (iI n)), (4, .int (iI u_q7)), (5, .int (iI oc_q7)), (6, .int (iI fr_q7)), (7, .int (iI to_q7))]) dL_act_789 (Nat.le_of_ble_eq_true rfl) rfl ?_
                    refine g_iload S dL_act_791 1 rfl ?_
                    refine g_if_ne S (tgt := 800) dL_act_793 (by decide) (by omega) (fun c793_q7 => ?_) (fun c793_q7 => ?_)
                    · skip
                      exact absurd c793_q7 (by omega)
                    · skip
                      refine g_iconst S dL_act_796 ?_
                      refine g_goto S (tgt := 801) dL_act_797 (by decide) ?_
                      refine g_wid (k := 1640) (n := 26400) (by omega) (by omega) ?_
                      exact g_zret S xr xlk (Or.inr rfl) dL_act_801 (fun _ h => ⟨SS, sp, se, al, n, pg, ⟨J, hal, Int.le_refl _⟩, h.2.1, h.2.2.1, h.2.2.2⟩)
                  · skip
                    refine g_aload_n S dL_act_446 rfl 3 rfl ?_
                    refine g_get S xK (ref := "BookIndexLaw$Sim") hin2_q7 2 (by decide) (show vwCl[2]? = some (RX2, TX2, 4) from rfl) kf9 (fun _ h9 => h9) (fun _ h => h.2.1) rfl dL_act_447 ?_
                    refine g_iload S dL_act_450 6 rfl ?_
                    refine g_iload S dL_act_452 7 rfl ?_
                    refine g_iast S xK (Wp' := fun H => H.size = z ∧ va_at E.1 vwCl (sm, .inr (2, [.int (iI pg), .ref (s3 SS), .ref (s1 SS), .ref (s2 SS)])) H ∧ (SX E zc sm SS sp (upI se u_q7 oc_q7) n) H ∧ (CA E ad sp se al n pg) H) (n := (n : Int).toNat) (F := se) (fun _ h => h.2.2.1.a1) (by omega) (by omega) ((show zb ≤ s1 SS by omega)) (fun _ _ h hv_q7 z1 oq => ⟨z1.trans h.1, h.2.1.kept (oq _ (by omega)), SX.setSee h.2.2.1 hv_q7 oq, h.2.2.2.kept (fun q q1 => oq q (by have w8_q7 := (hax q q1).2; omega))⟩) dL_act_454 ?_
                    refine g_aload_n S dL_act_455 rfl 2 rfl ?_
                    refine g_iload S dL_act_456 6 rfl ?_
                    refine g_iload S dL_act_458 7 rfl ?_
                    refine g_callV S xK (As := [.int (iI u_q7), .int (iI oc_q7)]) (st := []) (stk' := [.int (iI (se u_q7))]) (Wp' := fun H => z ≤ H.size ∧ va_at E.1 vwCl (sm, .inr (2, [.int (iI pg), .ref (s3 SS), .ref (s1 SS), .ref (s2 SS)])) H ∧ (SX E zc sm SS sp (upI se u_q7 oc_q7) n) H ∧ (CA E ad sp (upI se u_q7 oc_q7) al n pg) H) (r := (RX1, TX1, 9)) (q_setSee l E hj J u_q7 oc_q7 (by omega) (by omega)) (cwV 2 S.2.2.2.2 gL_act_X1_setSee rfl rfl rfl (by decide +kernel) ⟨Nat.le_of_ble_eq_true rfl, Nat.le_of_ble_eq_true rfl⟩) rfl rfl rfl rfl (Nat.le_of_ble_eq_true rfl) ⟨show kc + 0 ≤ 1640 by omega, show ks + 0 ≤ 26400 by omega⟩ (fun q9_q7 h9 => (hax q9_q7 h9).1) (fun _ h => h.2.2.2.cx) (fun _ h => h.2.2.2) (fun _ _ h h2 hle hq => ⟨Nat.le_trans (Nat.le_of_eq h.1.symm) hle, h.2.1.kept (hq _ h.2.1.lt (fun w9_q7 => by have w8_q7 := (hax _ w9_q7).2; omega)), h.2.2.1.far (fun q q1 q2 => hq q q1 (fun w9_q7 => by have w8_q7 := (hax q w9_q7).2; omega)), h2⟩) dL_act_460 ?_
                    refine g_iload S dL_act_463 0 rfl ?_
                    refine g_icmp_ne S (tgt := 477) dL_act_465 (by decide) (by omega) (fun c465_q7 => ?_) (fun c465_q7 => ?_)
                    · skip
                      exact absurd c465_q7 (by omega)
                    · skip
                      refine g_iload S dL_act_468 1 rfl ?_
                      refine g_if_eq S (tgt := 477) dL_act_470 (by decide) (by omega) (fun c470_q7 => ?_) (fun c470_q7 => ?_)
                      · skip
                        exact absurd c470_q7 (by omega)
                      · skip
                        refine g_iconst S dL_act_473 ?_
                        refine g_goto S (tgt := 478) dL_act_474 (by decide) ?_
                        refine g_wid (k := 1640) (n := 26400) (by omega) (by omega) ?_
                        exact g_zret S xr xlk (Or.inr rfl) dL_act_478 (fun _ h => ⟨SS, sp, upI se u_q7 oc_q7, al, n, pg, ⟨jv_see J (by omega) (by omega) (fun w9_q7 => by omega), hal, Int.le_refl _⟩, h.2.1, h.2.2.1, h.2.2.2⟩)
                refine g_iload S dL_act_409 5 rfl ?_
                refine g_if_lt S (tgt := 425) dL_act_411 (by decide) (by omega) (fun c411_q7 => ?_) (fun c411_q7 => ?_)
                · skip
                  refine g_iconst S dL_act_425 ?_
                  refine g_goto S (tgt := 430) dL_act_426 (by decide) ?_
                  refine g_lv [0, 1, 2, 3, 4, 5, 6, 7] rfl ?_
                  exact L430 1 kc ks (Or.inl ⟨rfl, Or.inl (by omega)⟩) (by omega)
                · skip
                  refine g_aload_n S dL_act_414 rfl 1 rfl ?_
                  refine g_get S xK (ref := "BookIndexLaw$Sim") hin2_q7 1 (by decide) (show vwCl[2]? = some (RX2, TX2, 4) from rfl) kf38 (fun _ h9 => h9) (fun _ h => h.2.1) rfl dL_act_415 ?_
                  refine g_iload S dL_act_418 4 rfl ?_
                  refine g_ldR S xK (t := 4) (by decide) (n := n) (f := sB SS) (fun _ h => h.2.2.1.a3) (by omega) dL_act_420 ?_
                  refine g_lenR S xK (t := 3) (by decide) (n := (sp u_q7).1) (f := sR SS u_q7) (fun _ h => h.2.2.1.b (u := u_q7) (by omega)) (by omega) dL_act_421 ?_
                  refine g_if_ne S (tgt := 429) dL_act_422 (by decide) (by omega) (fun c422_q7 => ?_) (fun c422_q7 => ?_)
                  · skip
                    refine g_iconst S dL_act_429 ?_
                    refine g_lv [0, 1, 2, 3, 4, 5, 6, 7] rfl ?_
                    exact L430 0 kc ks (Or.inr ⟨rfl, by omega, by omega⟩) (by omega)
                  · skip
                    refine g_iconst S dL_act_425 ?_
                    refine g_goto S (tgt := 430) dL_act_426 (by decide) ?_
                    refine g_lv [0, 1, 2, 3, 4, 5, 6, 7] rfl ?_
                    exact L430 1 kc ks (Or.inl ⟨rfl, Or.inr (by omega)⟩) (by omega)
              · skip
                refine g_iconst S dL_act_407 ?_
                refine g_wid (k := 1640) (n := 26400) (by omega) (by omega) ?_
                exact g_zret S xr xlk (Or.inr rfl) dL_act_408 (fun _ h => ⟨SS, sp, se, al, n, pg, ⟨J, hal, Int.le_refl _⟩, h.2.1, h.2.2.1, h.2.2.2⟩)
            refine g_iconst S dL_act_388 ?_
            refine g_ishr S (z := (iI (shI xv 5))) dL_act_389 ((iI_of _).symm) ?_
            refine g_iconst S dL_act_390 ?_
            refine g_callS S xK (As := [.int (iI (shI xv 5)), .int (iI 4)]) (st := []) (stk' := [.int (iI (blw (shI xv 5) 4))]) (Wp' := fun H => H.size = z ∧ va_at E.1 vwCl (sm, .inr (2, [.int (iI pg), .ref (s3 SS), .ref (s1 SS), .ref (s2 SS)])) H ∧ (SX E zc sm SS sp se n) H ∧ (CA E ad sp se al n pg) H) (m_L_below l E (Wp := fun H => H.size = z ∧ va_at E.1 vwCl (sm, .inr (2, [.int (iI pg), .ref (s3 SS), .ref (s1 SS), .ref (s2 SS)])) H ∧ (SX E zc sm SS sp se n) H ∧ (CA E ad sp se al n pg) H) (shI xv 5) 4 (by omega)) (cwS 2 S.2.2.2.2 gL_act_L_below rfl rfl rfl (by decide +kernel) ⟨Nat.le_of_ble_eq_true rfl, Nat.le_of_ble_eq_true rfl⟩) rfl rfl rfl (Nat.le_of_ble_eq_true rfl) ⟨show kc + 0 ≤ 1640 by omega, show ks + 0 ≤ 26400 by omega⟩ (fun _ q => q.elim) (fun _ h => h) (fun _ _ _ h _ _ => h) dL_act_391 ?_
            have bl391_q7 := blw_r (v := shI xv 5) (n := 4) (by omega)
            refine g_if_ne S (tgt := 400) dL_act_394 (by decide) (by omega) (fun c394_q7 => ?_) (fun c394_q7 => ?_)
            · skip
              exact L400 o_q7 kc ks (Or.inr (by omega)) (by omega)
            · skip
              refine g_iconst S dL_act_397 ?_
              refine g_istore S (lv' := [(5, .int (iI (-1))), (0, .ref (ad 0)), (1, .ref (sm)), (2, .int (iI xv)), (3, .int (iI n)), (4, .int (iI u_q7)), (6, .int (iI fr_q7)), (7, .int (iI to_q7)), (8, .int (iI 1))]) dL_act_398 (Nat.le_of_ble_eq_true rfl) rfl ?_
              refine g_lv [1, 2, 3, 4, 5, 0, 6, 7, 8] rfl ?_
              exact L400 (-1) kc ks (Or.inl rfl) (by omega)
          have L479 : ∀ (kc : Nat) (ks : Nat), (kc ≤ 0 ∧ ks ≤ 0) → G xp l xe ({ frames := 8, cells := 1640, slots := 26400, locals := 127 }) xs xm xa xb xh xc 14 (fun q0 => zb ≤ q0) kc ks (MQ xb (QW (some (.int (iI 1))) (JS E ad zc sm n) (fun q0 => zb ≤ q0)) xa xs 1640 26400 (fun q0 => zb ≤ q0)) 479 [(0, .ref (ad 0)), (1, .ref (sm)), (2, .int (iI xv)), (3, .int (iI n)), (4, .int (iI u_q7)), (5, .int (iI o_q7)), (6, .int (iI fr_q7)), (7, .int (iI to_q7)), (8, .int (iI 1))] [] (fun H => H.size = z ∧ va_at E.1 vwCl (sm, .inr (2, [.int (iI pg), .ref (s3 SS), .ref (s1 SS), .ref (s2 SS)])) H ∧ (SX E zc sm SS sp se n) H ∧ (CA E ad sp se al n pg) H) := by
            intro kc ks hk0_q7
            refine g_iload S dL_act_479 5 rfl ?_
            refine g_iload S dL_act_481 4 rfl ?_
            refine g_icmp_ne S (tgt := 488) dL_act_483 (by decide) (by omega) (fun c483_q7 => ?_) (fun c483_q7 => ?_)
            · skip
              refine g_w (Wp' := fun H => H.size = z ∧ va_at E.1 vwCl (sm, .inr (2, [.int (iI pg), .ref (s3 SS), .ref (s1 SS), .ref (s2 SS)])) H ∧ (FZ z (SX E zc sm SS sp se n)) H ∧ (CA E ad sp se al n pg) H) (fun _ h => ⟨h.1, h.2.1, FZ.mk h.1 h.2.2.1, h.2.2.2⟩) ?_
              refine g_iconst S dL_act_488 ?_
              refine g_newIZ S xK (Wp' := fun H => H.size = z + 1 ∧ va_at E.1 vwCl (sm, .inr (2, [.int (iI pg), .ref (s3 SS), .ref (s1 SS), .ref (s2 SS)])) H ∧ (FZ z (SX E zc sm SS sp se n)) H ∧ (CA E ad sp se al n pg) H ∧ vI E z 0 (fun _ => 0) H) (n := 0) (a := z) kaI (by omega) ⟨show kc + 1 ≤ 1640 by omega, show ks + (0 : Int).toNat ≤ 26400 by omega⟩ (fun _ h => h.1) (fun _ _ h hv_q7 z1 hq => ⟨z1, h.2.1.kept (hq _ (by have w9_q7 := h.2.1.lt; have y9_q7 := h.1; omega)), FZ.lw _ _ h.2.2.1 (by have y9_q7 := h.1; omega) (fun q q1 => hq q (by have y9_q7 := h.1; omega)), CA.lw _ _ h.2.2.2 (by have y9_q7 := h.1; omega) (fun q q1 => hq q (by have y9_q7 := h.1; omega)), hv_q7⟩) dL_act_489 ?_
              refine g_astore S (lv' := [(9, .ref (z)), (0, .ref (ad 0)), (1, .ref (sm)), (2, .int (iI xv)), (3, .int (iI n)), (4, .int (iI u_q7)), (5, .int (iI o_q7)), (6, .int (iI fr_q7)), (7, .int (iI to_q7)), (8, .int (iI 1))]) dL_act_491 (Nat.le_of_ble_eq_true rfl) rfl ?_
              refine g_aload_n S dL_act_493 rfl 2 rfl ?_
              refine g_get S xK (ref := "BookIndexLaw$Sim") hin2_q7 3 (by decide) (show vwCl[2]? = some (RX2, TX2, 4) from rfl) kf68 (fun _ h9 => h9) (fun _ h => h.2.1) rfl dL_act_494 ?_
              refine g_iload S dL_act_497 5 rfl ?_
              refine g_ldR S xK (t := 3) (by decide) (n := n) (f := sD SS) (fun _ h => (h.2.2.1.out (LW.st SX.lw)).a2) (by omega) dL_act_499 ?_
              refine g_astore S (lv' := [(10, .ref (sD SS u_q7)), (9, .ref (z)), (0, .ref (ad 0)), (1, .ref (sm)), (2, .int (iI xv)), (3, .int (iI n)), (4, .int (iI u_q7)), (5, .int (iI o_q7)), (6, .int (iI fr_q7)), (7, .int (iI to_q7)), (8, .int (iI 1))]) dL_act_500 (Nat.le_of_ble_eq_true rfl) rfl ?_
              refine g_aload S dL_act_502 0 rfl ?_
              refine g_lenI S xK (n := sM SS u_q7) (F := sV SS u_q7) (fun _ h => (h.2.2.1.out (LW.st SX.lw)).d (u := u_q7) (by omega)) (by omega) dL_act_504 ?_
              refine g_istore S (lv' := [(11, .int (iI (sM SS u_q7))), (10, .ref (sD SS u_q7)), (9, .ref (z)), (0, .ref (ad 0)), (1, .ref (sm)), (2, .int (iI xv)), (3, .int (iI n)), (4, .int (iI u_q7)), (5, .int (iI o_q7)), (6, .int (iI fr_q7)), (7, .int (iI to_q7)), (8, .int (iI 1))]) dL_act_505 (Nat.le_of_ble_eq_true rfl) rfl ?_
              refine g_iconst S dL_act_507 ?_
              refine g_istore S (lv' := [(12, .int (iI 0)), (11, .int (iI (sM SS u_q7))), (10, .ref (sD SS u_q7)), (9, .ref (z)), (0, .ref (ad 0)), (1, .ref (sm)), (2, .int (iI xv)), (3, .int (iI n)), (4, .int (iI u_q7)), (5, .int (iI o_q7)), (6, .int (iI fr_q7)), (7, .int (iI to_q7)), (8, .int (iI 1))]) dL_act_508 (Nat.le_of_ble_eq_true rfl) rfl ?_
              have L510 : ∀ (nf : Nat) (iv_q7 : Int) (cv_q7 : Nat) (m1_q7 : Int) (v1_q7 : Int → Int) (zz_q7 : Nat) (kc : Nat) (ks : Nat), (0 ≤ iv_q7 ∧ iv_q7 ≤ sM SS u_q7) → (z ≤ cv_q7 ∧ cv_q7 < zz_q7) → (FLT (sM SS u_q7) (sV SS u_q7) o_q7 iv_q7 m1_q7 v1_q7) → (kc ≤ 1 + iv_q7.toNat ∧ ks ≤ 31 * iv_q7.toNat) → (sM SS u_q7 - iv_q7 < (nf : Int)) → G xp l xe ({ frames := 8, cells := 1640, slots := 26400, locals := 127 }) xs xm xa xb xh xc 14 (fun q0 => zb ≤ q0) kc ks (MQ xb (QW (some (.int (iI 1))) (JS E ad zc sm n) (fun q0 => zb ≤ q0)) xa xs 1640 26400 (fun q0 => zb ≤ q0)) 510 [(0, .ref (ad 0)), (1, .ref (sm)), (2, .int (iI xv)), (3, .int (iI n)), (4, .int (iI u_q7)), (5, .int (iI o_q7)), (6, .int (iI fr_q7)), (7, .int (iI to_q7)), (8, .int (iI 1)), (9, .ref (cv_q7)), (10, .ref (sD SS u_q7)), (11, .int (iI (sM SS u_q7))), (12, .int (iI iv_q7))] [] (fun H => H.size = zz_q7 ∧ va_at E.1 vwCl (sm, .inr (2, [.int (iI pg), .ref (s3 SS), .ref (s1 SS), .ref (s2 SS)])) H ∧ (FZ z (SX E zc sm SS sp se n)) H ∧ (CA E ad sp se al n pg) H ∧ vI E cv_q7 m1_q7 v1_q7 H) := by
                intro nf
                induction nf with
                | zero =>
                  intro iv_q7 cv_q7 m1_q7 v1_q7 zz_q7 kc ks hiv_q7 hzz_q7 hF_q7 hk6_q7 hmf
                  exfalso
                  omega
                | succ nf ihL510 =>
                  intro iv_q7 cv_q7 m1_q7 v1_q7 zz_q7 kc ks hiv_q7 hzz_q7 hF_q7 hk6_q7 hmf
                  have hF1_q7 := hF_q7.1
                  refine g_iload S dL_act_510 12 rfl ?_
                  refine g_iload S dL_act_512 11 rfl ?_
                  refine g_icmp_ge S (tgt := 546) dL_act_514 (by decide) (by omega) (fun c514_q7 => ?_) (fun c514_q7 => ?_)
                  · skip
                    have hFe_q7 := hF_q7
                    rw [show iv_q7 = sM SS u_q7 by omega] at hFe_q7
                    refine g_aload S dL_act_546 9 rfl ?_
                    have L569 : ∀ (cw_q7 : Nat) (m2_q7 : Int) (v2_q7 : Int → Int) (zz_q7 : Nat) (kc : Nat) (ks : Nat), (z ≤ cw_q7 ∧ cw_q7 < zz_q7) → (m2_q7 = ((pop (al u_q7 ^^^ 2 ^ o_q7.toNat) 24 : Nat) : Int) ∧ (∀ j k : Int, 0 ≤ j → j < k → k < m2_q7 → v2_q7 j ≠ v2_q7 k) ∧ ∀ x : Int, (∃ k : Int, 0 ≤ k ∧ k < m2_q7 ∧ v2_q7 k = x) ↔ (if x = o_q7 then ¬ (al u_q7).testBit o_q7.toNat = true else ∃ k : Int, 0 ≤ k ∧ k < sM SS u_q7 ∧ sV SS u_q7 k = x)) → (kc ≤ 7 ∧ ks ≤ 200) → (0 ≤ m2_q7 ∧ m2_q7 ≤ 30) → G xp l xe ({ frames := 8, cells := 1640, slots := 26400, locals := 127 }) xs xm xa xb xh xc 14 (fun q0 => zb ≤ q0) kc ks (MQ xb (QW (some (.int (iI 1))) (JS E ad zc sm n) (fun q0 => zb ≤ q0)) xa xs 1640 26400 (fun q0 => zb ≤ q0)) 569 [(0, .ref (ad 0)), (1, .ref (sm)), (2, .int (iI xv)), (3, .int (iI n)), (4, .int (iI u_q7)), (5, .int (iI o_q7)), (6, .int (iI fr_q7)), (7, .int (iI to_q7)), (8, .int (iI 1)), (9, .ref (cw_q7))] [] (fun H => H.size = zz_q7 ∧ va_at E.1 vwCl (sm, .inr (2, [.int (iI pg), .ref (s3 SS), .ref (s1 SS), .ref (s2 SS)])) H ∧ (FZ z (SX E zc sm SS sp se n)) H ∧ (CA E ad sp se al n pg) H ∧ vI E cw_q7 m2_q7 v2_q7 H) := by
                      intro cw_q7 m2_q7 v2_q7 zz_q7 kc ks hzw_q7 hTR_q7 hk7_q7 hm0_q7
                      refine g_aload S dL_act_569 9 rfl ?_
                      have L581 : ∀ (v_q7 : Int) (kc : Nat) (ks : Nat), ((v_q7 = 1 ∧ m2_q7 ≤ 4) ∨ (v_q7 = 0 ∧ 4 < m2_q7)) → (kc ≤ 7 ∧ ks ≤ 200) → G xp l xe ({ frames := 8, cells := 1640, slots := 26400, locals := 127 }) xs xm xa xb xh xc 14 (fun q0 => zb ≤ q0) kc ks (MQ xb (QW (some (.int (iI 1))) (JS E ad zc sm n) (fun q0 => zb ≤ q0)) xa xs 1640 26400 (fun q0 => zb ≤ q0)) 581 [(0, .ref (ad 0)), (1, .ref (sm)), (2, .int (iI xv)), (3, .int (iI n)), (4, .int (iI u_q7)), (5, .int (iI o_q7)), (6, .int (iI fr_q7)), (7, .int (iI to_q7)), (9, .ref (cw_q7))] [.int (iI v_q7)] (fun H => H.size = zz_q7 ∧ va_at E.1 vwCl (sm, .inr (2, [.int (iI pg), .ref (s3 SS), .ref (s1 SS), .ref (s2 SS)])) H ∧ (FZ z (SX E zc sm SS sp se n)) H ∧ (CA E ad sp se al n pg) H ∧ vI E cw_q7 m2_q7 v2_q7 H) := by
                        intro v_q7 kc ks hv_q7 hk8_q7
                        refine g_istore S (lv' := [(8, .int (iI v_q7)), (0, .ref (ad 0)), (1, .ref (sm)), (2, .int (iI xv)), (3, .int (iI n)), (4, .int (iI u_q7)), (5, .int (iI o_q7)), (6, .int (iI fr_q7)), (7, .int (iI to_q7)), (9, .ref (cw_q7))]) dL_act_581 (Nat.le_of_ble_eq_true rfl) rfl ?_
                        refine g_iload S dL_act_583 0 rfl ?_
                        refine g_if_eq S (tgt := 597) dL_act_585 (by decide) (by omega) (fun c585_q7 => ?_) (fun c585_q7 => ?_)
                        · skip
                          refine g_aload_n S dL_act_597 rfl 1 rfl ?_
                          refine g_iload S dL_act_598 5 rfl ?_
                          refine g_iload S dL_act_600 6 rfl ?_
                          refine g_callVC2 S xK xX (Wp' := fun H => zz_q7 ≤ H.size ∧ va_at E.1 vwCl (sm, .inr (2, [.int (iI pg), .ref (s3 SS), .ref (s1 SS), .ref (s2 SS)])) H ∧ (SX E zc sm SS sp se n) H ∧ (CA E ad sp se al n pg) H) (As := [.int (iI u_q7), .int (iI o_q7)]) (st := []) (r := (RX1, TX1, 9)) (x_turnSeeAlsoR l hst E zb hj J u_q7 o_q7 (by omega) (by omega) (by omega)) (cwV 2 S.2.2.2.2 gL_act_X1_turnSeeAlso rfl rfl rfl (by decide +kernel) ⟨Nat.le_of_ble_eq_true rfl, Nat.le_of_ble_eq_true rfl⟩) rfl rfl rfl (Nat.le_of_ble_eq_true rfl) ⟨show kc + 1 ≤ 1640 by omega, show ks + 6 ≤ 26400 by omega⟩ (fun q9_q7 h9 => (hax q9_q7 h9).1) (fun _ h9 => h9) (fun _ h => h.2.2.2.1.cx) (fun _ h => h.2.2.2.1) (fun _ _ h h2 hle hq => ⟨Nat.le_trans (Nat.le_of_eq h.1.symm) hle, h.2.1.kept (hq _ h.2.1.lt (fun w9_q7 => by have w8_q7 := (hax _ w9_q7).2; omega)), (h.2.2.1.out (LW.st SX.lw)).far (fun q q1 q2 => hq q q1 (fun w9_q7 => by have w8_q7 := (hax q w9_q7).2; omega)), h2⟩) dL_act_602 [⟨130, 297, 789, 94⟩, ⟨298, 386, 789, 94⟩, ⟨387, 408, 789, 94⟩, ⟨409, 478, 789, 94⟩, ⟨479, 487, 789, 94⟩] ⟨488, 621, 789, 94⟩ [⟨622, 732, 789, 94⟩, ⟨733, 788, 789, 94⟩] xt (by decide) rfl (by decide) kx94 (by decide) (fun xq => ?_)
                          refine g_astore S (lv' := [(9, .ref (xq)), (8, .int (iI v_q7)), (0, .ref (ad 0)), (1, .ref (sm)), (2, .int (iI xv)), (3, .int (iI n)), (4, .int (iI u_q7)), (5, .int (iI o_q7)), (6, .int (iI fr_q7)), (7, .int (iI to_q7))]) dL_act_789 (Nat.le_of_ble_eq_true rfl) rfl ?_
                          refine g_iload S dL_act_791 1 rfl ?_
                          refine g_if_ne S (tgt := 800) dL_act_793 (by decide) (by omega) (fun c793_q7 => ?_) (fun c793_q7 => ?_)
                          · skip
                            exact absurd c793_q7 (by omega)
                          · skip
                            refine g_iconst S dL_act_796 ?_
                            refine g_goto S (tgt := 801) dL_act_797 (by decide) ?_
                            refine g_wid (k := 1640) (n := 26400) (by omega) (by omega) ?_
                            exact g_zret S xr xlk (Or.inr rfl) dL_act_801 (fun _ h => ⟨SS, sp, se, al, n, pg, ⟨J, hal, Int.le_refl _⟩, h.2.1, h.2.2.1, h.2.2.2⟩)
                        · skip
                          refine g_aload_n S dL_act_588 rfl 2 rfl ?_
                          refine g_get S xK (ref := "BookIndexLaw$Sim") hin2_q7 3 (by decide) (show vwCl[2]? = some (RX2, TX2, 4) from rfl) kf68 (fun _ h9 => h9) (fun _ h => h.2.1) rfl dL_act_589 ?_
                          refine g_iload S dL_act_592 5 rfl ?_
                          refine g_aload S dL_act_594 9 rfl ?_
                          refine g_ex (P := s2 SS < z) (fun _ h => (SX.lts h.2.2.1).2.2.1) (fun hl2 => ?_)
                          refine g_stR S xK xO (t := 3) (by decide) (Wp' := fun H => ∃ S2 : SA, (sM S2 = upI (sM SS) u_q7 m2_q7 ∧ sV S2 = upI (sV SS) u_q7 v2_q7) ∧ H.size = zz_q7 ∧ va_at E.1 vwCl (sm, .inr (2, [.int (iI pg), .ref (s3 S2), .ref (s1 S2), .ref (s2 S2)])) H ∧ (SX E zc sm S2 sp se n) H ∧ (CA E ad sp se al n pg) H ∧ vI E cw_q7 m2_q7 v2_q7 H) (n := n) (f := sD SS) (fun _ h => (h.2.2.1.out (LW.st SX.lw)).a2) (fun _ h => ⟨_, _, h.2.2.2.2⟩) (by omega) (show zb ≤ s2 SS by have w7_q7 := hT.g2; omega) (fun _ _ h hv_q7 z1 oq => by obtain ⟨S9, hd9, hs9⟩ := SX.setAl h.2.2.1 h.2.2.2.2 (by omega) (by omega) (u := u_q7) (by omega) hv_q7 oq; exact ⟨S9, hd9.2.2.2, z1.trans h.1, by rw [hd9.1, hd9.2.1, hd9.2.2.1]; exact h.2.1.kept (oq _ hT.n2), hs9, h.2.2.2.1.kept (fun q q1 => oq q (by have w8_q7 := (hax q q1).2; have w7_q7 := hT.g2; omega)), h.2.2.2.2.kept (oq _ (by show cw_q7 ≠ s2 SS; omega))⟩) dL_act_596 ?_
                          refine g_exU (fun S2 => ?_)
                          refine g_preP (fun hS2 => ?_)
                          refine g_aload_n S dL_act_597 rfl 1 rfl ?_
                          refine g_iload S dL_act_598 5 rfl ?_
                          refine g_iload S dL_act_600 6 rfl ?_
                          refine g_callV S xK (As := [.int (iI u_q7), .int (iI o_q7)]) (st := []) (stk' := [.int (iI ((pop (al u_q7 ^^^ 2 ^ o_q7.toNat) 24 : Nat) : Int))]) (Wp' := fun H => zz_q7 ≤ H.size ∧ va_at E.1 vwCl (sm, .inr (2, [.int (iI pg), .ref (s3 S2), .ref (s1 S2), .ref (s2 S2)])) H ∧ (SX E zc sm S2 sp se n) H ∧ (CA E ad sp se (upI al u_q7 (al u_q7 ^^^ 2 ^ o_q7.toNat)) n pg) H ∧ vI E cw_q7 m2_q7 v2_q7 H) (r := (RX1, TX1, 9)) (q_turnSeeAlso l E hj J u_q7 o_q7 (by omega) (by omega) (by omega)) (cwV 2 S.2.2.2.2 gL_act_X1_turnSeeAlso rfl rfl rfl (by decide +kernel) ⟨Nat.le_of_ble_eq_true rfl, Nat.le_of_ble_eq_true rfl⟩) rfl rfl rfl rfl (Nat.le_of_ble_eq_true rfl) ⟨show kc + 0 ≤ 1640 by omega, show ks + 0 ≤ 26400 by omega⟩ (fun q9_q7 h9 => (hax q9_q7 h9).1) (fun _ h => h.2.2.2.1.cx) (fun _ h => h.2.2.2.1) (fun _ _ h h2 hle hq => ⟨Nat.le_trans (Nat.le_of_eq h.1.symm) hle, h.2.1.kept (hq _ h.2.1.lt (fun w9_q7 => by have w8_q7 := (hax _ w9_q7).2; omega)), h.2.2.1.far (fun q q1 q2 => hq q q1 (fun w9_q7 => by have w8_q7 := (hax q w9_q7).2; omega)), h2, h.2.2.2.2.kept (hq _ h.2.2.2.2.lt (fun w9_q7 => by have w8_q7 := (hax _ w9_q7).2; omega))⟩) dL_act_602 ?_
                          refine g_aload S dL_act_605 9 rfl ?_
                          refine g_lenI S xK (n := m2_q7) (F := v2_q7) (fun _ h => h.2.2.2.2) (by omega) dL_act_607 ?_
                          refine g_icmp_ne S (tgt := 620) dL_act_608 (by decide) (by omega) (fun c608_q7 => ?_) (fun c608_q7 => ?_)
                          · skip
                            exact absurd c608_q7 (by omega)
                          · skip
                            refine g_iload S dL_act_611 0 rfl ?_
                            refine g_if_eq S (tgt := 620) dL_act_613 (by decide) (by omega) (fun c613_q7 => ?_) (fun c613_q7 => ?_)
                            · skip
                              exact absurd c613_q7 (by omega)
                            · skip
                              refine g_iconst S dL_act_616 ?_
                              refine g_goto S (tgt := 621) dL_act_617 (by decide) ?_
                              refine g_wid (k := 1640) (n := 26400) (by omega) (by omega) ?_
                              exact g_zret S xr xlk (Or.inr rfl) dL_act_621 (fun _ h => ⟨S2, sp, se, upI al u_q7 (al u_q7 ^^^ 2 ^ o_q7.toNat), n, pg, ⟨jv_also J (by omega) (by omega) (by omega), al2_turn hal (by omega) (by omega) (by omega) hTR_q7.1 hTR_q7.2.1 hTR_q7.2.2 hS2, Int.le_refl _⟩, h.2.1, h.2.2.1, h.2.2.2.1⟩)
                      refine g_lenI S xK (n := m2_q7) (F := v2_q7) (fun _ h => h.2.2.2.2) (by omega) dL_act_571 ?_
                      refine g_iconst S dL_act_572 ?_
                      refine g_icmp_ge S (tgt := 580) dL_act_573 (by decide) (by omega) (fun c573_q7 => ?_) (fun c573_q7 => ?_)
                      · skip
                        refine g_iconst S dL_act_580 ?_
                        refine g_lv [0, 1, 2, 3, 4, 5, 6, 7, 9] rfl ?_
                        exact L581 0 kc ks (Or.inr ⟨rfl, by omega⟩) (by omega)
                      · skip
                        refine g_iconst S dL_act_576 ?_
                        refine g_goto S (tgt := 581) dL_act_577 (by decide) ?_
                        refine g_lv [0, 1, 2, 3, 4, 5, 6, 7, 9] rfl ?_
                        exact L581 1 kc ks (Or.inl ⟨rfl, by omega⟩) (by omega)
                    refine g_lenI S xK (n := m1_q7) (F := v1_q7) (fun _ h => h.2.2.2.2) (by omega) dL_act_548 ?_
                    refine g_aload_n S dL_act_549 rfl 1 rfl ?_
                    refine g_get S xK (ref := "BookIndexLaw$Sim") hin2_q7 3 (by decide) (show vwCl[2]? = some (RX2, TX2, 4) from rfl) kf68 (fun _ h9 => h9) (fun _ h => h.2.1) rfl dL_act_550 ?_
                    refine g_iload S dL_act_553 4 rfl ?_
                    refine g_ldR S xK (t := 3) (by decide) (n := n) (f := sD SS) (fun _ h => (h.2.2.1.out (LW.st SX.lw)).a2) (by omega) dL_act_555 ?_
                    refine g_lenI S xK (n := sM SS u_q7) (F := sV SS u_q7) (fun _ h => (h.2.2.1.out (LW.st SX.lw)).d (u := u_q7) (by omega)) (by omega) dL_act_556 ?_
                    refine g_icmp_ne S (tgt := 569) dL_act_557 (by decide) (by omega) (fun c557_q7 => ?_) (fun c557_q7 => ?_)
                    · skip
                      refine g_lv [0, 1, 2, 3, 4, 5, 6, 7, 8, 9] rfl ?_
                      exact L569 cv_q7 m1_q7 v1_q7 zz_q7 kc ks (by omega) (turn_out hal (by omega) (by omega) hFe_q7 (by omega)) (by omega) (by omega)
                    · skip
                      refine g_aload S dL_act_560 9 rfl ?_
                      refine g_iload S dL_act_562 5 rfl ?_
                      refine g_callSS S xK xO (As := [.ref (cv_q7), .int (iI o_q7)]) (st := []) (stk' := [.ref (zz_q7)]) (Wp' := fun H => H.size = zz_q7 + 1 ∧ va_at E.1 vwCl (sm, .inr (2, [.int (iI pg), .ref (s3 SS), .ref (s1 SS), .ref (s2 SS)])) H ∧ (FZ z (SX E zc sm SS sp se n)) H ∧ (CA E ad sp se al n pg) H ∧ vI E cv_q7 m1_q7 v1_q7 H ∧ vI E zz_q7 (m1_q7 + 1) (upI v1_q7 m1_q7 o_q7) H) (m_X2_with_ l E (zz_q7) (FZ.kp (z := zz_q7) (W := fun H => va_at E.1 vwCl (sm, .inr (2, [.int (iI pg), .ref (s3 SS), .ref (s1 SS), .ref (s2 SS)])) H ∧ (FZ z (SX E zc sm SS sp se n)) H ∧ (CA E ad sp se al n pg) H ∧ vI E cv_q7 m1_q7 v1_q7 H)) m1_q7 v1_q7 cv_q7 o_q7 (by omega) (fun _ h => (h.out (ST.and (LW.st LW.at) (ST.and (LW.st FZ.lw) (ST.and (LW.st CA.lw) (LW.st LW.at))))).2.2.2)) (va_cwS 2 S.2.2.2.2 gL_act_X2_with_ rfl rfl rfl (by decide +kernel) ⟨Nat.le_of_ble_eq_true rfl, Nat.le_of_ble_eq_true rfl⟩) rfl rfl rfl (Nat.le_of_ble_eq_true rfl) ⟨show kc + 1 ≤ 1640 by omega, show ks + 31 ≤ 26400 by omega⟩ (fun q9_q7 (hq9 : zz_q7 ≤ q9_q7) => (by show zb ≤ q9_q7; omega)) (fun _ h => ⟨h.1, FZ.mk h.1 h.2⟩) (fun _ _ _ h _ _ => ⟨h.1, (h.2.2.out (ST.and (LW.st LW.at) (ST.and (LW.st FZ.lw) (ST.and (LW.st CA.lw) (LW.st LW.at))))).1, (h.2.2.out (ST.and (LW.st LW.at) (ST.and (LW.st FZ.lw) (ST.and (LW.st CA.lw) (LW.st LW.at))))).2.1, (h.2.2.out (ST.and (LW.st LW.at) (ST.and (LW.st FZ.lw) (ST.and (LW.st CA.lw) (LW.st LW.at))))).2.2.1, (h.2.2.out (ST.and (LW.st LW.at) (ST.and (LW.st FZ.lw) (ST.and (LW.st CA.lw) (LW.st LW.at))))).2.2.2, h.2.1⟩) dL_act_564 ?_
                      refine g_w (Wp' := fun H => H.size = zz_q7 + 1 ∧ va_at E.1 vwCl (sm, .inr (2, [.int (iI pg), .ref (s3 SS), .ref (s1 SS), .ref (s2 SS)])) H ∧ (FZ z (SX E zc sm SS sp se n)) H ∧ (CA E ad sp se al n pg) H ∧ vI E zz_q7 (m1_q7 + 1) (upI v1_q7 m1_q7 o_q7) H) (fun _ h => ⟨h.1, h.2.1, h.2.2.1, h.2.2.2.1, h.2.2.2.2.2⟩) ?_
                      refine g_astore S (lv' := [(9, .ref (zz_q7)), (0, .ref (ad 0)), (1, .ref (sm)), (2, .int (iI xv)), (3, .int (iI n)), (4, .int (iI u_q7)), (5, .int (iI o_q7)), (6, .int (iI fr_q7)), (7, .int (iI to_q7)), (8, .int (iI 1)), (10, .ref (sD SS u_q7)), (11, .int (iI (sM SS u_q7))), (12, .int (iI iv_q7))]) dL_act_567 (Nat.le_of_ble_eq_true rfl) rfl ?_
                      refine g_lv [1, 2, 3, 4, 5, 6, 7, 8, 9, 0] rfl ?_
                      exact L569 zz_q7 (m1_q7 + 1) (upI v1_q7 m1_q7 o_q7) (zz_q7 + 1) (kc + 1) (ks + 31) (by omega) (turn_in hal (by omega) (by omega) hFe_q7 (by omega)) (by omega) (by omega)
                  · skip
                    refine g_aload S dL_act_517 10 rfl ?_
                    refine g_iload S dL_act_519 12 rfl ?_
                    refine g_iald S xK (n := (sM SS u_q7 : Int).toNat) (F := sV SS u_q7) (fun _ h => (h.2.2.1.out (LW.st SX.lw)).d (u := u_q7) (by omega)) (by omega) (by omega) dL_act_521 ?_
                    refine g_istore S (lv' := [(13, .int (iI (sV SS u_q7 iv_q7))), (0, .ref (ad 0)), (1, .ref (sm)), (2, .int (iI xv)), (3, .int (iI n)), (4, .int (iI u_q7)), (5, .int (iI o_q7)), (6, .int (iI fr_q7)), (7, .int (iI to_q7)), (8, .int (iI 1)), (9, .ref (cv_q7)), (10, .ref (sD SS u_q7)), (11, .int (iI (sM SS u_q7))), (12, .int (iI iv_q7))]) dL_act_522 (Nat.le_of_ble_eq_true rfl) rfl ?_
                    have q9_q7 := a9_q7.2.2.1 iv_q7 (by omega) (by omega)
                    refine g_iload S dL_act_524 0 rfl ?_
                    refine g_iload S dL_act_526 6 rfl ?_
                    refine g_icmp_eq S (tgt := 540) dL_act_528 (by decide) (by omega) (fun c528_q7 => ?_) (fun c528_q7 => ?_)
                    · skip
                      refine g_iinc S (lv' := [(12, .int (iI (iv_q7 + 1))), (13, .int (iI (sV SS u_q7 iv_q7))), (0, .ref (ad 0)), (1, .ref (sm)), (2, .int (iI xv)), (3, .int (iI n)), (4, .int (iI u_q7)), (5, .int (iI o_q7)), (6, .int (iI fr_q7)), (7, .int (iI to_q7)), (8, .int (iI 1)), (9, .ref (cv_q7)), (10, .ref (sD SS u_q7)), (11, .int (iI (sM SS u_q7)))]) dL_act_540 13 rfl (Nat.le_of_ble_eq_true rfl) rfl ?_
                      refine g_goto S (tgt := 510) dL_act_543 (by decide) ?_
                      refine g_lv [2, 3, 4, 5, 6, 7, 8, 9, 10, 11, 12, 13, 0] rfl ?_
                      exact ihL510 (iv_q7 + 1) cv_q7 m1_q7 v1_q7 zz_q7 kc ks (by omega) (by omega) (flt_y hF_q7 a9_q7.2.1 (by omega) (by omega)) (by omega) (by omega)
                    · skip
                      refine g_aload S dL_act_531 10 rfl ?_
                      refine g_iload S dL_act_533 0 rfl ?_
                      refine g_callSS S xK xO (As := [.ref (cv_q7), .int (iI (sV SS u_q7 iv_q7))]) (st := []) (stk' := [.ref (zz_q7)]) (Wp' := fun H => H.size = zz_q7 + 1 ∧ va_at E.1 vwCl (sm, .inr (2, [.int (iI pg), .ref (s3 SS), .ref (s1 SS), .ref (s2 SS)])) H ∧ (FZ z (SX E zc sm SS sp se n)) H ∧ (CA E ad sp se al n pg) H ∧ vI E cv_q7 m1_q7 v1_q7 H ∧ vI E zz_q7 (m1_q7 + 1) (upI v1_q7 m1_q7 (sV SS u_q7 iv_q7)) H) (m_X2_with_ l E (zz_q7) (FZ.kp (z := zz_q7) (W := fun H => va_at E.1 vwCl (sm, .inr (2, [.int (iI pg), .ref (s3 SS), .ref (s1 SS), .ref (s2 SS)])) H ∧ (FZ z (SX E zc sm SS sp se n)) H ∧ (CA E ad sp se al n pg) H ∧ vI E cv_q7 m1_q7 v1_q7 H)) m1_q7 v1_q7 cv_q7 (sV SS u_q7 iv_q7) (by omega) (fun _ h => (h.out (ST.and (LW.st LW.at) (ST.and (LW.st FZ.lw) (ST.and (LW.st CA.lw) (LW.st LW.at))))).2.2.2)) (va_cwS 2 S.2.2.2.2 gL_act_X2_with_ rfl rfl rfl (by decide +kernel) ⟨Nat.le_of_ble_eq_true rfl, Nat.le_of_ble_eq_true rfl⟩) rfl rfl rfl (Nat.le_of_ble_eq_true rfl) ⟨show kc + 1 ≤ 1640 by omega, show ks + 31 ≤ 26400 by omega⟩ (fun q9_q7 (hq9 : zz_q7 ≤ q9_q7) => (by show zb ≤ q9_q7; omega)) (fun _ h => ⟨h.1, FZ.mk h.1 h.2⟩) (fun _ _ _ h _ _ => ⟨h.1, (h.2.2.out (ST.and (LW.st LW.at) (ST.and (LW.st FZ.lw) (ST.and (LW.st CA.lw) (LW.st LW.at))))).1, (h.2.2.out (ST.and (LW.st LW.at) (ST.and (LW.st FZ.lw) (ST.and (LW.st CA.lw) (LW.st LW.at))))).2.1, (h.2.2.out (ST.and (LW.st LW.at) (ST.and (LW.st FZ.lw) (ST.and (LW.st CA.lw) (LW.st LW.at))))).2.2.1, (h.2.2.out (ST.and (LW.st LW.at) (ST.and (LW.st FZ.lw) (ST.and (LW.st CA.lw) (LW.st LW.at))))).2.2.2, h.2.1⟩) dL_act_535 ?_
                      refine g_w (Wp' := fun H => H.size = zz_q7 + 1 ∧ va_at E.1 vwCl (sm, .inr (2, [.int (iI pg), .ref (s3 SS), .ref (s1 SS), .ref (s2 SS)])) H ∧ (FZ z (SX E zc sm SS sp se n)) H ∧ (CA E ad sp se al n pg) H ∧ vI E zz_q7 (m1_q7 + 1) (upI v1_q7 m1_q7 (sV SS u_q7 iv_q7)) H) (fun _ h => ⟨h.1, h.2.1, h.2.2.1, h.2.2.2.1, h.2.2.2.2.2⟩) ?_
                      refine g_astore S (lv' := [(9, .ref (zz_q7)), (13, .int (iI (sV SS u_q7 iv_q7))), (0, .ref (ad 0)), (1, .ref (sm)), (2, .int (iI xv)), (3, .int (iI n)), (4, .int (iI u_q7)), (5, .int (iI o_q7)), (6, .int (iI fr_q7)), (7, .int (iI to_q7)), (8, .int (iI 1)), (10, .ref (sD SS u_q7)), (11, .int (iI (sM SS u_q7))), (12, .int (iI iv_q7))]) dL_act_538 (Nat.le_of_ble_eq_true rfl) rfl ?_
                      refine g_iinc S (lv' := [(12, .int (iI (iv_q7 + 1))), (9, .ref (zz_q7)), (13, .int (iI (sV SS u_q7 iv_q7))), (0, .ref (ad 0)), (1, .ref (sm)), (2, .int (iI xv)), (3, .int (iI n)), (4, .int (iI u_q7)), (5, .int (iI o_q7)), (6, .int (iI fr_q7)), (7, .int (iI to_q7)), (8, .int (iI 1)), (10, .ref (sD SS u_q7)), (11, .int (iI (sM SS u_q7)))]) dL_act_540 13 rfl (Nat.le_of_ble_eq_true rfl) rfl ?_
                      refine g_goto S (tgt := 510) dL_act_543 (by decide) ?_
                      refine g_lv [3, 4, 5, 6, 7, 8, 9, 10, 11, 1, 12, 13, 0] rfl ?_
                      exact ihL510 (iv_q7 + 1) zz_q7 (m1_q7 + 1) (upI v1_q7 m1_q7 (sV SS u_q7 iv_q7)) (zz_q7 + 1) (kc + 1) (ks + 31) (by omega) (by omega) (flt_n hF_q7 a9_q7.2.1 (by omega) (by omega)) (by omega) (by omega)
              refine g_lv [4, 5, 6, 7, 8, 9, 10, 11, 12, 3, 2, 1, 0] rfl ?_
              exact L510 ((sM SS u_q7 - 0) + 1).toNat 0 z 0 (fun _ => 0) (z + 1) (kc + 1) (ks + (0 : Int).toNat) (by omega) (by omega) (flt_0) (by omega) (by omega)
            · skip
              refine g_iconst S dL_act_486 ?_
              refine g_wid (k := 1640) (n := 26400) (by omega) (by omega) ?_
              exact g_zret S xr xlk (Or.inr rfl) dL_act_487 (fun _ h => ⟨SS, sp, se, al, n, pg, ⟨J, hal, Int.le_refl _⟩, h.2.1, h.2.2.1, h.2.2.2⟩)
          have L622 : ∀ (kc : Nat) (ks : Nat), (kc ≤ 0 ∧ ks ≤ 0) → G xp l xe ({ frames := 8, cells := 1640, slots := 26400, locals := 127 }) xs xm xa xb xh xc 14 (fun q0 => zb ≤ q0) kc ks (MQ xb (QW (some (.int (iI 1))) (JS E ad zc sm n) (fun q0 => zb ≤ q0)) xa xs 1640 26400 (fun q0 => zb ≤ q0)) 622 [(0, .ref (ad 0)), (1, .ref (sm)), (2, .int (iI xv)), (3, .int (iI n)), (4, .int (iI u_q7)), (5, .int (iI o_q7)), (6, .int (iI fr_q7)), (7, .int (iI to_q7)), (8, .int (iI 1))] [] (fun H => H.size = z ∧ va_at E.1 vwCl (sm, .inr (2, [.int (iI pg), .ref (s3 SS), .ref (s1 SS), .ref (s2 SS)])) H ∧ (SX E zc sm SS sp se n) H ∧ (CA E ad sp se al n pg) H) := by
            intro kc ks hk0_q7
            refine g_iload_n S dL_act_622 rfl 2 rfl ?_
            have L644 : ∀ (pv_q7 : Int) (kc : Nat) (ks : Nat), (1 ≤ pv_q7 ∧ pv_q7 ≤ pg + 1) → (kc ≤ 0 ∧ ks ≤ 0) → G xp l xe ({ frames := 8, cells := 1640, slots := 26400, locals := 127 }) xs xm xa xb xh xc 14 (fun q0 => zb ≤ q0) kc ks (MQ xb (QW (some (.int (iI 1))) (JS E ad zc sm n) (fun q0 => zb ≤ q0)) xa xs 1640 26400 (fun q0 => zb ≤ q0)) 644 [(0, .ref (ad 0)), (1, .ref (sm)), (2, .int (iI xv)), (3, .int (iI n)), (4, .int (iI u_q7)), (5, .int (iI o_q7)), (6, .int (iI fr_q7)), (7, .int (iI to_q7)), (8, .int (iI 1))] [.int (iI pv_q7)] (fun H => H.size = z ∧ va_at E.1 vwCl (sm, .inr (2, [.int (iI pg), .ref (s3 SS), .ref (s1 SS), .ref (s2 SS)])) H ∧ (SX E zc sm SS sp se n) H ∧ (CA E ad sp se al n pg) H) := by
              intro pv_q7 kc ks hpv_q7 hk9_q7
              refine g_istore S (lv' := [(9, .int (iI pv_q7)), (0, .ref (ad 0)), (1, .ref (sm)), (2, .int (iI xv)), (3, .int (iI n)), (4, .int (iI u_q7)), (5, .int (iI o_q7)), (6, .int (iI fr_q7)), (7, .int (iI to_q7)), (8, .int (iI 1))]) dL_act_644 (Nat.le_of_ble_eq_true rfl) rfl ?_
              refine g_iconst S dL_act_646 ?_
              have L668 : ∀ (wv_q7 : Int) (kc : Nat) (ks : Nat), (wv_q7 = 100 ∨ wv_q7 = 5) → (kc ≤ 0 ∧ ks ≤ 0) → G xp l xe ({ frames := 8, cells := 1640, slots := 26400, locals := 127 }) xs xm xa xb xh xc 14 (fun q0 => zb ≤ q0) kc ks (MQ xb (QW (some (.int (iI 1))) (JS E ad zc sm n) (fun q0 => zb ≤ q0)) xa xs 1640 26400 (fun q0 => zb ≤ q0)) 668 [(0, .ref (ad 0)), (1, .ref (sm)), (2, .int (iI xv)), (3, .int (iI n)), (4, .int (iI u_q7)), (5, .int (iI o_q7)), (6, .int (iI fr_q7)), (7, .int (iI to_q7)), (8, .int (iI 1)), (9, .int (iI pv_q7))] [.int (iI wv_q7), .int (iI (shI xv 7)), .int (iI 1)] (fun H => H.size = z ∧ va_at E.1 vwCl (sm, .inr (2, [.int (iI pg), .ref (s3 SS), .ref (s1 SS), .ref (s2 SS)])) H ∧ (SX E zc sm SS sp se n) H ∧ (CA E ad sp se al n pg) H) := by
                intro wv_q7 kc ks hwv_q7 hka_q7
                refine g_callS S xK (As := [.int (iI (shI xv 7)), .int (iI wv_q7)]) (st := [.int (iI 1)]) (stk' := [.int (iI (blw (shI xv 7) wv_q7)), .int (iI 1)]) (Wp' := fun H => H.size = z ∧ va_at E.1 vwCl (sm, .inr (2, [.int (iI pg), .ref (s3 SS), .ref (s1 SS), .ref (s2 SS)])) H ∧ (SX E zc sm SS sp se n) H ∧ (CA E ad sp se al n pg) H) (m_L_below l E (Wp := fun H => H.size = z ∧ va_at E.1 vwCl (sm, .inr (2, [.int (iI pg), .ref (s3 SS), .ref (s1 SS), .ref (s2 SS)])) H ∧ (SX E zc sm SS sp se n) H ∧ (CA E ad sp se al n pg) H) (shI xv 7) wv_q7 (by omega)) (cwS 2 S.2.2.2.2 gL_act_L_below rfl rfl rfl (by decide +kernel) ⟨Nat.le_of_ble_eq_true rfl, Nat.le_of_ble_eq_true rfl⟩) rfl rfl rfl (Nat.le_of_ble_eq_true rfl) ⟨show kc + 0 ≤ 1640 by omega, show ks + 0 ≤ 26400 by omega⟩ (fun _ q => q.elim) (fun _ h => h) (fun _ _ _ h _ _ => h) dL_act_668 ?_
                have bl668_q7 := blw_r (v := shI xv 7) (n := wv_q7) (by omega)
                refine g_iadd S dL_act_671 ?_
                refine g_istore S (lv' := [(10, .int (iI (1 + blw (shI xv 7) wv_q7))), (0, .ref (ad 0)), (1, .ref (sm)), (2, .int (iI xv)), (3, .int (iI n)), (4, .int (iI u_q7)), (5, .int (iI o_q7)), (6, .int (iI fr_q7)), (7, .int (iI to_q7)), (8, .int (iI 1)), (9, .int (iI pv_q7))]) dL_act_672 (Nat.le_of_ble_eq_true rfl) rfl ?_
                have L674 : ∀ (mn_q7 : Int) (kc : Nat) (ks : Nat), (1 ≤ mn_q7 ∧ mn_q7 ≤ 100) → (kc ≤ 0 ∧ ks ≤ 0) → G xp l xe ({ frames := 8, cells := 1640, slots := 26400, locals := 127 }) xs xm xa xb xh xc 14 (fun q0 => zb ≤ q0) kc ks (MQ xb (QW (some (.int (iI 1))) (JS E ad zc sm n) (fun q0 => zb ≤ q0)) xa xs 1640 26400 (fun q0 => zb ≤ q0)) 674 [(0, .ref (ad 0)), (1, .ref (sm)), (2, .int (iI xv)), (3, .int (iI n)), (4, .int (iI u_q7)), (5, .int (iI o_q7)), (6, .int (iI fr_q7)), (7, .int (iI to_q7)), (8, .int (iI 1)), (9, .int (iI pv_q7)), (10, .int (iI mn_q7))] [] (fun H => H.size = z ∧ va_at E.1 vwCl (sm, .inr (2, [.int (iI pg), .ref (s3 SS), .ref (s1 SS), .ref (s2 SS)])) H ∧ (SX E zc sm SS sp se n) H ∧ (CA E ad sp se al n pg) H) := by
                  intro mn_q7 kc ks hmn_q7 hkb_q7
                  refine g_aload_n S dL_act_674 rfl 1 rfl ?_
                  have L692 : ∀ (v_q7 : Int) (kc : Nat) (ks : Nat), ((v_q7 = 1 ∧ pg + mn_q7 ≤ 300) ∨ (v_q7 = 0 ∧ 300 < pg + mn_q7)) → (kc ≤ 0 ∧ ks ≤ 0) → G xp l xe ({ frames := 8, cells := 1640, slots := 26400, locals := 127 }) xs xm xa xb xh xc 14 (fun q0 => zb ≤ q0) kc ks (MQ xb (QW (some (.int (iI 1))) (JS E ad zc sm n) (fun q0 => zb ≤ q0)) xa xs 1640 26400 (fun q0 => zb ≤ q0)) 692 [(0, .ref (ad 0)), (1, .ref (sm)), (2, .int (iI xv)), (3, .int (iI n)), (4, .int (iI u_q7)), (5, .int (iI o_q7)), (6, .int (iI fr_q7)), (7, .int (iI to_q7)), (9, .int (iI pv_q7)), (10, .int (iI mn_q7))] [.int (iI v_q7)] (fun H => H.size = z ∧ va_at E.1 vwCl (sm, .inr (2, [.int (iI pg), .ref (s3 SS), .ref (s1 SS), .ref (s2 SS)])) H ∧ (SX E zc sm SS sp se n) H ∧ (CA E ad sp se al n pg) H) := by
                    intro v_q7 kc ks hv_q7 hkd_q7
                    refine g_istore S (lv' := [(8, .int (iI v_q7)), (0, .ref (ad 0)), (1, .ref (sm)), (2, .int (iI xv)), (3, .int (iI n)), (4, .int (iI u_q7)), (5, .int (iI o_q7)), (6, .int (iI fr_q7)), (7, .int (iI to_q7)), (9, .int (iI pv_q7)), (10, .int (iI mn_q7))]) dL_act_692 (Nat.le_of_ble_eq_true rfl) rfl ?_
                    refine g_iload S dL_act_694 0 rfl ?_
                    refine g_if_eq S (tgt := 707) dL_act_696 (by decide) (by omega) (fun c696_q7 => ?_) (fun c696_q7 => ?_)
                    · skip
                      refine g_aload_n S dL_act_707 rfl 1 rfl ?_
                      refine g_iload S dL_act_708 9 rfl ?_
                      refine g_iload S dL_act_710 10 rfl ?_
                      refine g_callVC2 S xK xX (Wp' := fun H => z ≤ H.size ∧ va_at E.1 vwCl (sm, .inr (2, [.int (iI pg), .ref (s3 SS), .ref (s1 SS), .ref (s2 SS)])) H ∧ (SX E zc sm SS sp se n) H ∧ (CA E ad sp se al n pg) H) (As := [.int (iI pv_q7), .int (iI mn_q7)]) (st := []) (r := (RX1, TX1, 9)) (x_putInY l hst E zb hj J pv_q7 mn_q7 (by omega)) (cwV 2 S.2.2.2.2 gL_act_X1_putIn rfl rfl rfl (by decide +kernel) ⟨Nat.le_of_ble_eq_true rfl, Nat.le_of_ble_eq_true rfl⟩) rfl rfl rfl (Nat.le_of_ble_eq_true rfl) ⟨show kc + 1 ≤ 1640 by omega, show ks + 6 ≤ 26400 by omega⟩ (fun q9_q7 h9 => (hax q9_q7 h9).1) (fun _ h9 => h9) (fun _ h => h.2.2.2.cx) (fun _ h => h.2.2.2) (fun _ _ h h2 hle hq => ⟨Nat.le_trans (Nat.le_of_eq h.1.symm) hle, h.2.1.kept (hq _ h.2.1.lt (fun w9_q7 => by have w8_q7 := (hax _ w9_q7).2; omega)), h.2.2.1.far (fun q q1 q2 => hq q q1 (fun w9_q7 => by have w8_q7 := (hax q w9_q7).2; omega)), h2⟩) dL_act_712 [⟨130, 297, 789, 94⟩, ⟨298, 386, 789, 94⟩, ⟨387, 408, 789, 94⟩, ⟨409, 478, 789, 94⟩, ⟨479, 487, 789, 94⟩, ⟨488, 621, 789, 94⟩] ⟨622, 732, 789, 94⟩ [⟨733, 788, 789, 94⟩] xt (by decide) rfl (by decide) kx94 (by decide) (fun xq => ?_)
                      refine g_astore S (lv' := [(9, .ref (xq)), (8, .int (iI v_q7)), (0, .ref (ad 0)), (1, .ref (sm)), (2, .int (iI xv)), (3, .int (iI n)), (4, .int (iI u_q7)), (5, .int (iI o_q7)), (6, .int (iI fr_q7)), (7, .int (iI to_q7)), (10, .int (iI mn_q7))]) dL_act_789 (Nat.le_of_ble_eq_true rfl) rfl ?_
                      refine g_iload S dL_act_791 1 rfl ?_
                      refine g_if_ne S (tgt := 800) dL_act_793 (by decide) (by omega) (fun c793_q7 => ?_) (fun c793_q7 => ?_)
                      · skip
                        exact absurd c793_q7 (by omega)
                      · skip
                        refine g_iconst S dL_act_796 ?_
                        refine g_goto S (tgt := 801) dL_act_797 (by decide) ?_
                        refine g_wid (k := 1640) (n := 26400) (by omega) (by omega) ?_
                        exact g_zret S xr xlk (Or.inr rfl) dL_act_801 (fun _ h => ⟨SS, sp, se, al, n, pg, ⟨J, hal, Int.le_refl _⟩, h.2.1, h.2.2.1, h.2.2.2⟩)
                    · skip
                      refine g_aload_n S dL_act_699 rfl 2 rfl ?_
                      refine g_iload S dL_act_700 9 rfl ?_
                      refine g_iload S dL_act_702 10 rfl ?_
                      refine g_callV S xK (As := [.int (iI pv_q7), .int (iI mn_q7)]) (st := []) (stk' := []) (Wp' := fun H => z ≤ H.size ∧ va_at E.1 vwCl (sm, .inr (2, [.int (iI (pg + mn_q7)), .ref (s3 SS), .ref (s1 SS), .ref (s2 SS)])) H ∧ (SX E zc sm SS (fun i => mvd (sp i) pv_q7 mn_q7 (sp i).1) se n) H ∧ (CA E ad sp se al n pg) H) (r := (RX2, TX2, 4)) (m_X2_putIn l E zc sm SS sp se n pg pv_q7 mn_q7 J.hn J.hpg J.hsp hT (by omega)) (cwV 2 S.2.2.2.2 gL_act_X2_putIn rfl rfl rfl (by decide +kernel) ⟨Nat.le_of_ble_eq_true rfl, Nat.le_of_ble_eq_true rfl⟩) rfl rfl rfl rfl (Nat.le_of_ble_eq_true rfl) ⟨show kc + 0 ≤ 1640 by omega, show ks + 0 ≤ 26400 by omega⟩ (fun q9_q7 (h9 : zc ≤ q9_q7) => (by show zb ≤ q9_q7; omega)) (fun _ h => h.2.1) (fun _ h => ⟨h.2.1, h.2.2.1⟩) (fun _ _ h h2 hle hq => ⟨Nat.le_trans (Nat.le_of_eq h.1.symm) hle, h2.1, h2.2, h.2.2.2.kept (fun q q1 => hq q (h.2.2.2.lt q1) (fun w9_q7 => by have w8_q7 := (hax q q1).2; have w7_q7 : zc ≤ q := w9_q7; omega))⟩) dL_act_704 ?_
                      refine g_aload_n S dL_act_707 rfl 1 rfl ?_
                      refine g_iload S dL_act_708 9 rfl ?_
                      refine g_iload S dL_act_710 10 rfl ?_
                      refine g_callV S xK (As := [.int (iI pv_q7), .int (iI mn_q7)]) (st := []) (stk' := [.int (iI (pg + mn_q7))]) (Wp' := fun H => z ≤ H.size ∧ va_at E.1 vwCl (sm, .inr (2, [.int (iI (pg + mn_q7)), .ref (s3 SS), .ref (s1 SS), .ref (s2 SS)])) H ∧ (SX E zc sm SS (fun i => mvd (sp i) pv_q7 mn_q7 (sp i).1) se n) H ∧ (CA E ad (fun i => mvd (sp i) pv_q7 mn_q7 (sp i).1) se al n (pg + mn_q7)) H) (r := (RX1, TX1, 9)) (q_putIn l E hj J pv_q7 mn_q7 (by omega)) (cwV 2 S.2.2.2.2 gL_act_X1_putIn rfl rfl rfl (by decide +kernel) ⟨Nat.le_of_ble_eq_true rfl, Nat.le_of_ble_eq_true rfl⟩) rfl rfl rfl rfl (Nat.le_of_ble_eq_true rfl) ⟨show kc + 0 ≤ 1640 by omega, show ks + 0 ≤ 26400 by omega⟩ (fun q9_q7 h9 => (hax q9_q7 h9).1) (fun _ h => h.2.2.2.cx) (fun _ h => h.2.2.2) (fun _ _ h h2 hle hq => ⟨Nat.le_trans h.1 hle, h.2.1.kept (hq _ h.2.1.lt (fun w9_q7 => by have w8_q7 := (hax _ w9_q7).2; omega)), h.2.2.1.far (fun q q1 q2 => hq q q1 (fun w9_q7 => by have w8_q7 := (hax q w9_q7).2; omega)), h2⟩) dL_act_712 ?_
                      refine g_aload_n S dL_act_715 rfl 2 rfl ?_
                      refine g_get S xK (ref := "BookIndexLaw$Sim") hin2_q7 0 (by decide) (show vwCl[2]? = some (RX2, TX2, 4) from rfl) kf29 (fun _ h9 => h9) (fun _ h => h.2.1) rfl dL_act_716 ?_
                      refine g_icmp_ne S (tgt := 731) dL_act_719 (by decide) (by omega) (fun c719_q7 => ?_) (fun c719_q7 => ?_)
                      · skip
                        exact absurd c719_q7 (by omega)
                      · skip
                        refine g_iload S dL_act_722 0 rfl ?_
                        refine g_if_eq S (tgt := 731) dL_act_724 (by decide) (by omega) (fun c724_q7 => ?_) (fun c724_q7 => ?_)
                        · skip
                          exact absurd c724_q7 (by omega)
                        · skip
                          refine g_iconst S dL_act_727 ?_
                          refine g_goto S (tgt := 732) dL_act_728 (by decide) ?_
                          refine g_wid (k := 1640) (n := 26400) (by omega) (by omega) ?_
                          exact g_zret S xr xlk (Or.inr rfl) dL_act_732 (fun _ h => ⟨SS, fun i => mvd (sp i) pv_q7 mn_q7 (sp i).1, se, al, n, pg + mn_q7, ⟨jv_in J (by omega), hal, Int.le_refl _⟩, h.2.1, h.2.2.1, h.2.2.2⟩)
                  refine g_get S xK (ref := "BookIndexLaw$Sim") hin2_q7 0 (by decide) (show vwCl[2]? = some (RX2, TX2, 4) from rfl) kf29 (fun _ h9 => h9) (fun _ h => h.2.1) rfl dL_act_675 ?_
                  refine g_iload S dL_act_678 10 rfl ?_
                  refine g_iadd S dL_act_680 ?_
                  refine g_sipush S dL_act_681 (by decide) ?_
                  refine g_icmp_gt S (tgt := 691) dL_act_684 (by decide) (by omega) (fun c684_q7 => ?_) (fun c684_q7 => ?_)
                  · skip
                    refine g_iconst S dL_act_691 ?_
                    refine g_lv [0, 1, 2, 3, 4, 5, 6, 7, 9, 10] rfl ?_
                    exact L692 0 kc ks (Or.inr ⟨rfl, by omega⟩) (by omega)
                  · skip
                    refine g_iconst S dL_act_687 ?_
                    refine g_goto S (tgt := 692) dL_act_688 (by decide) ?_
                    refine g_lv [0, 1, 2, 3, 4, 5, 6, 7, 9, 10] rfl ?_
                    exact L692 1 kc ks (Or.inl ⟨rfl, by omega⟩) (by omega)
                refine g_lv [1, 2, 3, 4, 5, 6, 7, 8, 9, 10, 0] rfl ?_
                exact L674 (1 + blw (shI xv 7) wv_q7) kc ks (by omega) (by omega)
              refine g_iload_n S dL_act_647 rfl 3 rfl ?_
              refine g_bipush S dL_act_648 (by decide) ?_
              refine g_ishr S (z := (iI (shI xv 7))) dL_act_650 ((iI_of _).symm) ?_
              refine g_iload_n S dL_act_651 rfl 3 rfl ?_
              refine g_bipush S dL_act_652 (by decide) ?_
              refine g_ishr S (z := (iI (shI xv 9))) dL_act_654 ((iI_of _).symm) ?_
              refine g_iconst S dL_act_655 ?_
              refine g_callS S xK (As := [.int (iI (shI xv 9)), .int (iI 3)]) (st := [.int (iI (shI xv 7)), .int (iI 1)]) (stk' := [.int (iI (blw (shI xv 9) 3)), .int (iI (shI xv 7)), .int (iI 1)]) (Wp' := fun H => H.size = z ∧ va_at E.1 vwCl (sm, .inr (2, [.int (iI pg), .ref (s3 SS), .ref (s1 SS), .ref (s2 SS)])) H ∧ (SX E zc sm SS sp se n) H ∧ (CA E ad sp se al n pg) H) (m_L_below l E (Wp := fun H => H.size = z ∧ va_at E.1 vwCl (sm, .inr (2, [.int (iI pg), .ref (s3 SS), .ref (s1 SS), .ref (s2 SS)])) H ∧ (SX E zc sm SS sp se n) H ∧ (CA E ad sp se al n pg) H) (shI xv 9) 3 (by omega)) (cwS 2 S.2.2.2.2 gL_act_L_below rfl rfl rfl (by decide +kernel) ⟨Nat.le_of_ble_eq_true rfl, Nat.le_of_ble_eq_true rfl⟩) rfl rfl rfl (Nat.le_of_ble_eq_true rfl) ⟨show kc + 0 ≤ 1640 by omega, show ks + 0 ≤ 26400 by omega⟩ (fun _ q => q.elim) (fun _ h => h) (fun _ _ _ h _ _ => h) dL_act_656 ?_
              have bl656_q7 := blw_r (v := shI xv 9) (n := 3) (by omega)
              refine g_if_ne S (tgt := 667) dL_act_659 (by decide) (by omega) (fun c659_q7 => ?_) (fun c659_q7 => ?_)
              · skip
                refine g_iconst S dL_act_667 ?_
                refine g_lv [1, 2, 3, 4, 5, 6, 7, 8, 9, 0] rfl ?_
                exact L668 5 kc ks (Or.inr rfl) (by omega)
              · skip
                refine g_bipush S dL_act_662 (by decide) ?_
                refine g_goto S (tgt := 668) dL_act_664 (by decide) ?_
                refine g_lv [1, 2, 3, 4, 5, 6, 7, 8, 9, 0] rfl ?_
                exact L668 100 kc ks (Or.inl rfl) (by omega)
            refine g_iconst S dL_act_623 ?_
            refine g_ishr S (z := (iI (shI xv 5))) dL_act_624 ((iI_of _).symm) ?_
            refine g_bipush S dL_act_625 (by decide) ?_
            refine g_callS S xK (As := [.int (iI (shI xv 5)), .int (iI 6)]) (st := []) (stk' := [.int (iI (blw (shI xv 5) 6))]) (Wp' := fun H => H.size = z ∧ va_at E.1 vwCl (sm, .inr (2, [.int (iI pg), .ref (s3 SS), .ref (s1 SS), .ref (s2 SS)])) H ∧ (SX E zc sm SS sp se n) H ∧ (CA E ad sp se al n pg) H) (m_L_below l E (Wp := fun H => H.size = z ∧ va_at E.1 vwCl (sm, .inr (2, [.int (iI pg), .ref (s3 SS), .ref (s1 SS), .ref (s2 SS)])) H ∧ (SX E zc sm SS sp se n) H ∧ (CA E ad sp se al n pg) H) (shI xv 5) 6 (by omega)) (cwS 2 S.2.2.2.2 gL_act_L_below rfl rfl rfl (by decide +kernel) ⟨Nat.le_of_ble_eq_true rfl, Nat.le_of_ble_eq_true rfl⟩) rfl rfl rfl (Nat.le_of_ble_eq_true rfl) ⟨show kc + 0 ≤ 1640 by omega, show ks + 0 ≤ 26400 by omega⟩ (fun _ q => q.elim) (fun _ h => h) (fun _ _ _ h _ _ => h) dL_act_627 ?_
            have bl627_q7 := blw_r (v := shI xv 5) (n := 6) (by omega)
            refine g_if_ne S (tgt := 642) dL_act_630 (by decide) (by omega) (fun c630_q7 => ?_) (fun c630_q7 => ?_)
            · skip
              refine g_iload S dL_act_642 6 rfl ?_
              exact L644 fr_q7 kc ks (by omega) (by omega)
            · skip
              refine g_aload_n S dL_act_633 rfl 1 rfl ?_
              refine g_get S xK (ref := "BookIndexLaw$Sim") hin2_q7 0 (by decide) (show vwCl[2]? = some (RX2, TX2, 4) from rfl) kf29 (fun _ h9 => h9) (fun _ h => h.2.1) rfl dL_act_634 ?_
              refine g_iconst S dL_act_637 ?_
              refine g_iadd S dL_act_638 ?_
              refine g_goto S (tgt := 644) dL_act_639 (by decide) ?_
              exact L644 (pg + 1) kc ks (by omega) (by omega)
          have L733 : ∀ (kc : Nat) (ks : Nat), (kc ≤ 0 ∧ ks ≤ 0) → G xp l xe ({ frames := 8, cells := 1640, slots := 26400, locals := 127 }) xs xm xa xb xh xc 14 (fun q0 => zb ≤ q0) kc ks (MQ xb (QW (some (.int (iI 1))) (JS E ad zc sm n) (fun q0 => zb ≤ q0)) xa xs 1640 26400 (fun q0 => zb ≤ q0)) 733 [(0, .ref (ad 0)), (1, .ref (sm)), (2, .int (iI xv)), (3, .int (iI n)), (4, .int (iI u_q7)), (5, .int (iI o_q7)), (6, .int (iI fr_q7)), (7, .int (iI to_q7)), (8, .int (iI 1))] [] (fun H => H.size = z ∧ va_at E.1 vwCl (sm, .inr (2, [.int (iI pg), .ref (s3 SS), .ref (s1 SS), .ref (s2 SS)])) H ∧ (SX E zc sm SS sp se n) H ∧ (CA E ad sp se al n pg) H) := by
            intro kc ks hk0_q7
            refine g_aload_n S dL_act_733 rfl 1 rfl ?_
            have L746 : ∀ (v_q7 : Int) (kc : Nat) (ks : Nat), ((v_q7 = 1 ∧ 1 < pg) ∨ (v_q7 = 0 ∧ pg ≤ 1)) → (kc ≤ 0 ∧ ks ≤ 0) → G xp l xe ({ frames := 8, cells := 1640, slots := 26400, locals := 127 }) xs xm xa xb xh xc 14 (fun q0 => zb ≤ q0) kc ks (MQ xb (QW (some (.int (iI 1))) (JS E ad zc sm n) (fun q0 => zb ≤ q0)) xa xs 1640 26400 (fun q0 => zb ≤ q0)) 746 [(0, .ref (ad 0)), (1, .ref (sm)), (2, .int (iI xv)), (3, .int (iI n)), (4, .int (iI u_q7)), (5, .int (iI o_q7)), (6, .int (iI fr_q7)), (7, .int (iI to_q7))] [.int (iI v_q7)] (fun H => H.size = z ∧ va_at E.1 vwCl (sm, .inr (2, [.int (iI pg), .ref (s3 SS), .ref (s1 SS), .ref (s2 SS)])) H ∧ (SX E zc sm SS sp se n) H ∧ (CA E ad sp se al n pg) H) := by
              intro v_q7 kc ks hv_q7 hke_q7
              refine g_istore S (lv' := [(8, .int (iI v_q7)), (0, .ref (ad 0)), (1, .ref (sm)), (2, .int (iI xv)), (3, .int (iI n)), (4, .int (iI u_q7)), (5, .int (iI o_q7)), (6, .int (iI fr_q7)), (7, .int (iI to_q7))]) dL_act_746 (Nat.le_of_ble_eq_true rfl) rfl ?_
              refine g_aload_n S dL_act_748 rfl 2 rfl ?_
              refine g_iload S dL_act_749 7 rfl ?_
              refine g_callV S xK (As := [.int (iI fr_q7)]) (st := []) (stk' := [.int (iI (CHN sp n fr_q7))]) (Wp' := fun H => H.size = z ∧ va_at E.1 vwCl (sm, .inr (2, [.int (iI pg), .ref (s3 SS), .ref (s1 SS), .ref (s2 SS)])) H ∧ (SX E zc sm SS sp se n) H ∧ (CA E ad sp se al n pg) H) (r := (RX2, TX2, 4)) (m_X2_onPage l E (Wp := fun H => H.size = z ∧ va_at E.1 vwCl (sm, .inr (2, [.int (iI pg), .ref (s3 SS), .ref (s1 SS), .ref (s2 SS)])) H ∧ (SX E zc sm SS sp se n) H ∧ (CA E ad sp se al n pg) H) zc sm SS sp se n pg fr_q7 (fun _ h => h.2.1) (fun _ h => h.2.2.1) J.hn J.hpg J.hsp (by omega)) (cwV 1 S.2.2.2.2 gL_act_X2_onPage rfl rfl rfl (by decide +kernel) ⟨Nat.le_of_ble_eq_true rfl, Nat.le_of_ble_eq_true rfl⟩) rfl rfl rfl rfl (Nat.le_of_ble_eq_true rfl) ⟨show kc + 0 ≤ 1640 by omega, show ks + 0 ≤ 26400 by omega⟩ (fun _ q => q.elim) (fun _ h => h.2.1) (fun _ h => h) (fun _ _ _ h _ _ => h) dL_act_751 ?_
              have cb9_q7 := CHN_b sp fr_q7 hn_q7.1
              refine g_istore S (lv' := [(9, .int (iI (CHN sp n fr_q7))), (8, .int (iI v_q7)), (0, .ref (ad 0)), (1, .ref (sm)), (2, .int (iI xv)), (3, .int (iI n)), (4, .int (iI u_q7)), (5, .int (iI o_q7)), (6, .int (iI fr_q7)), (7, .int (iI to_q7))]) dL_act_754 (Nat.le_of_ble_eq_true rfl) rfl ?_
              refine g_iload S dL_act_756 1 rfl ?_
              refine g_if_eq S (tgt := 767) dL_act_758 (by decide) (by omega) (fun c758_q7 => ?_) (fun c758_q7 => ?_)
              · skip
                refine g_aload_n S dL_act_767 rfl 2 rfl ?_
                refine g_iload S dL_act_768 8 rfl ?_
                refine g_callVC2 S xK xX (Wp' := fun H => z ≤ H.size ∧ va_at E.1 vwCl (sm, .inr (2, [.int (iI pg), .ref (s3 SS), .ref (s1 SS), .ref (s2 SS)])) H ∧ (SX E zc sm SS sp se n) H ∧ (CA E ad sp se al n pg) H) (As := [.int (iI fr_q7)]) (st := []) (r := (RX1, TX1, 9)) (x_takeOutY l hst E zb hj J fr_q7 (by omega)) (cwV 1 S.2.2.2.2 gL_act_X1_takeOut rfl rfl rfl (by decide +kernel) ⟨Nat.le_of_ble_eq_true rfl, Nat.le_of_ble_eq_true rfl⟩) rfl rfl rfl (Nat.le_of_ble_eq_true rfl) ⟨show kc + 1 ≤ 1640 by omega, show ks + 6 ≤ 26400 by omega⟩ (fun q9_q7 h9 => (hax q9_q7 h9).1) (fun _ h9 => h9) (fun _ h => h.2.2.2.cx) (fun _ h => h.2.2.2) (fun _ _ h h2 hle hq => ⟨Nat.le_trans (Nat.le_of_eq h.1.symm) hle, h.2.1.kept (hq _ h.2.1.lt (fun w9_q7 => by have w8_q7 := (hax _ w9_q7).2; omega)), h.2.2.1.far (fun q q1 q2 => hq q q1 (fun w9_q7 => by have w8_q7 := (hax q w9_q7).2; omega)), h2⟩) dL_act_770 [⟨130, 297, 789, 94⟩, ⟨298, 386, 789, 94⟩, ⟨387, 408, 789, 94⟩, ⟨409, 478, 789, 94⟩, ⟨479, 487, 789, 94⟩, ⟨488, 621, 789, 94⟩, ⟨622, 732, 789, 94⟩] ⟨733, 788, 789, 94⟩ [] xt (by decide) rfl (by decide) kx94 (by decide) (fun xq => ?_)
                refine g_astore S (lv' := [(9, .ref (xq)), (8, .int (iI v_q7)), (0, .ref (ad 0)), (1, .ref (sm)), (2, .int (iI xv)), (3, .int (iI n)), (4, .int (iI u_q7)), (5, .int (iI o_q7)), (6, .int (iI fr_q7)), (7, .int (iI to_q7))]) dL_act_789 (Nat.le_of_ble_eq_true rfl) rfl ?_
                refine g_iload S dL_act_791 1 rfl ?_
                refine g_if_ne S (tgt := 800) dL_act_793 (by decide) (by omega) (fun c793_q7 => ?_) (fun c793_q7 => ?_)
                · skip
                  exact absurd c793_q7 (by omega)
                · skip
                  refine g_iconst S dL_act_796 ?_
                  refine g_goto S (tgt := 801) dL_act_797 (by decide) ?_
                  refine g_wid (k := 1640) (n := 26400) (by omega) (by omega) ?_
                  exact g_zret S xr xlk (Or.inr rfl) dL_act_801 (fun _ h => ⟨SS, sp, se, al, n, pg, ⟨J, hal, Int.le_refl _⟩, h.2.1, h.2.2.1, h.2.2.2⟩)
              · skip
                refine g_aload_n S dL_act_761 rfl 3 rfl ?_
                refine g_iload S dL_act_762 8 rfl ?_
                refine g_callVS S xK xO (As := [.int (iI fr_q7)]) (st := []) (stk' := []) (Wp' := fun H => ∃ (z1 : Nat) (S1 : SA) (hs : Int → SpT), (z ≤ z1 ∧ SD SS S1 ∧ ∀ i : Int, 0 ≤ i → i < n → VL (hs i) (pg - 1) ∧ ∀ r, cov (hs i) r ↔ cov (sp i) (if r < fr_q7 then r else r + 1)) ∧ H.size = z1 ∧ va_at E.1 vwCl (sm, .inr (2, [.int (iI (pg - 1)), .ref (s3 S1), .ref (s1 S1), .ref (s2 S1)])) H ∧ (SX E zc sm S1 hs se n) H ∧ (CA E ad sp se al n pg) H) (r := (RX2, TX2, 4)) (m_X2_takeOut l E z zc sm SS sp se n pg fr_q7 J.hn J.hpg J.hsp hT ⟨hz.2.1, hz.2.2⟩ (by omega)) (cwV 1 S.2.2.2.2 gL_act_X2_takeOut rfl rfl rfl (by decide +kernel) ⟨Nat.le_of_ble_eq_true rfl, Nat.le_of_ble_eq_true rfl⟩) rfl rfl rfl rfl (Nat.le_of_ble_eq_true rfl) ⟨show kc + 1608 ≤ 1640 by omega, show ks + 25728 ≤ 26400 by omega⟩ (fun q9_q7 (h9 : zc ≤ q9_q7) => (by show zb ≤ q9_q7; omega)) (fun _ h => h.2.1) (fun _ h => ⟨h.1, h.2.1, h.2.2.1⟩) (fun _ _ h h2 hle hq => by obtain ⟨z1, S1, hs, h3, h4, h5, h6⟩ := h2; exact ⟨z1, S1, hs, h3, h4, h5, h6, h.2.2.2.kept (fun q q1 => hq q (h.2.2.2.lt q1) (fun w9_q7 => by have w8_q7 := (hax q q1).2; have w7_q7 : zc ≤ q := w9_q7; omega))⟩) dL_act_764 ?_
                refine g_exU (fun z1 => ?_)
                refine g_exU (fun S1 => ?_)
                refine g_exU (fun hs => ?_)
                refine g_preP (fun hTO => ?_)
                refine g_aload_n S dL_act_767 rfl 2 rfl ?_
                refine g_iload S dL_act_768 8 rfl ?_
                have hO1_q7 : ∀ i : Int, 0 ≤ i → i < n → VL ((fun i => if i < n then hs i else sp i) i) (pg - 1) ∧ ∀ r, cov ((fun i => if i < n then hs i else sp i) i) r ↔ cov (sp i) (if r < fr_q7 then r else r + 1) := fun i i0 i1 => by show VL (if i < n then hs i else sp i) (pg - 1) ∧ ∀ r, cov (if i < n then hs i else sp i) r ↔ _; rw [if_pos i1]; exact hTO.2.2 i i0 i1
                have hO2_q7 : ∀ i : Int, n ≤ i → i < 24 → ((fun i => if i < n then hs i else sp i) i).1 = 0 := fun i i0 i1 => by show (if i < n then hs i else sp i).1 = 0; rw [if_neg (by omega)]; exact (J.hre i i0 i1).1
                have hO8_q7 := out_8 J (by omega) hO1_q7
                refine g_callV S xK (As := [.int (iI fr_q7)]) (st := []) (stk' := [.int (iI (CHN sp n fr_q7))]) (Wp' := fun H => z1 ≤ H.size ∧ va_at E.1 vwCl (sm, .inr (2, [.int (iI (pg - 1)), .ref (s3 S1), .ref (s1 S1), .ref (s2 S1)])) H ∧ (SX E zc sm S1 hs se n) H ∧ (CA E ad (fun i => if i < n then hs i else sp i) se al n (pg - 1)) H) (r := (RX1, TX1, 9)) (q_takeOut l E hj J fr_q7 (fun i => if i < n then hs i else sp i) (by omega) hO1_q7 hO2_q7) (cwV 1 S.2.2.2.2 gL_act_X1_takeOut rfl rfl rfl (by decide +kernel) ⟨Nat.le_of_ble_eq_true rfl, Nat.le_of_ble_eq_true rfl⟩) rfl rfl rfl rfl (Nat.le_of_ble_eq_true rfl) ⟨show kc + 1608 + 0 ≤ 1640 by omega, show ks + 25728 + 0 ≤ 26400 by omega⟩ (fun q9_q7 h9 => (hax q9_q7 h9).1) (fun _ h => h.2.2.2.cx) (fun _ h => h.2.2.2) (fun _ _ h h2 hle hq => ⟨Nat.le_trans (Nat.le_of_eq h.1.symm) hle, h.2.1.kept (hq _ h.2.1.lt (fun w9_q7 => by have w8_q7 := (hax _ w9_q7).2; omega)), h.2.2.1.far (fun q q1 q2 => hq q q1 (fun w9_q7 => by have w8_q7 := (hax q w9_q7).2; omega)), h2⟩) dL_act_770 ?_
                refine g_iload S dL_act_773 0 rfl ?_
                refine g_icmp_ne S (tgt := 787) dL_act_775 (by decide) (by omega) (fun c775_q7 => ?_) (fun c775_q7 => ?_)
                · skip
                  exact absurd c775_q7 (by omega)
                · skip
                  refine g_iload S dL_act_778 1 rfl ?_
                  refine g_if_eq S (tgt := 787) dL_act_780 (by decide) (by omega) (fun c780_q7 => ?_) (fun c780_q7 => ?_)
                  · skip
                    exact absurd c780_q7 (by omega)
                  · skip
                    refine g_iconst S dL_act_783 ?_
                    refine g_goto S (tgt := 788) dL_act_784 (by decide) ?_
                    refine g_wid (k := 1640) (n := 26400) (by omega) (by omega) ?_
                    exact g_zret S xr xlk (Or.inr rfl) dL_act_788 (fun _ h => ⟨S1, fun i => if i < n then hs i else sp i, se, al, n, pg - 1, ⟨jv_out J (by omega) hO1_q7 hO8_q7 hO2_q7, al2_sd hal hTO.2.1, Int.le_refl _⟩, h.2.1, (h.2.2.1).eq (fun i i0 i1 => by show (hs i).1 = (if i < n then hs i else sp i).1 ∧ ∀ k : Int, 0 ≤ k → k < (hs i).1 → (hs i).2.1 k = (if i < n then hs i else sp i).2.1 k ∧ (hs i).2.2 k = (if i < n then hs i else sp i).2.2 k; rw [if_pos i1]; exact ⟨rfl, fun _ _ _ => ⟨rfl, rfl⟩⟩) (fun _ _ _ => rfl), h.2.2.2⟩)
            refine g_get S xK (ref := "BookIndexLaw$Sim") hin2_q7 0 (by decide) (show vwCl[2]? = some (RX2, TX2, 4) from rfl) kf29 (fun _ h9 => h9) (fun _ h => h.2.1) rfl dL_act_734 ?_
            refine g_iconst S dL_act_737 ?_
            refine g_icmp_le S (tgt := 745) dL_act_738 (by decide) (by omega) (fun c738_q7 => ?_) (fun c738_q7 => ?_)
            · skip
              refine g_iconst S dL_act_745 ?_
              refine g_lv [0, 1, 2, 3, 4, 5, 6, 7] rfl ?_
              exact L746 0 kc ks (Or.inr ⟨rfl, by omega⟩) (by omega)
            · skip
              refine g_iconst S dL_act_741 ?_
              refine g_goto S (tgt := 746) dL_act_742 (by decide) ?_
              refine g_lv [0, 1, 2, 3, 4, 5, 6, 7] rfl ?_
              exact L746 1 kc ks (Or.inl ⟨rfl, by omega⟩) (by omega)
          refine g_iconst S dL_act_127 ?_
          refine g_istore S (lv' := [(8, .int (iI 1)), (0, .ref (ad 0)), (1, .ref (sm)), (2, .int (iI xv)), (3, .int (iI n)), (4, .int (iI u_q7)), (5, .int (iI o_q7)), (6, .int (iI fr_q7)), (7, .int (iI to_q7))]) dL_act_128 (Nat.le_of_ble_eq_true rfl) rfl ?_
          refine g_iload_n S dL_act_130 rfl 3 rfl ?_
          refine g_bipush S dL_act_131 (by decide) ?_
          refine g_callS S xK (As := [.int (iI xv), .int (iI 17)]) (st := []) (stk' := [.int (iI (blw xv 17))]) (Wp' := fun H => H.size = z ∧ va_at E.1 vwCl (sm, .inr (2, [.int (iI pg), .ref (s3 SS), .ref (s1 SS), .ref (s2 SS)])) H ∧ (SX E zc sm SS sp se n) H ∧ (CA E ad sp se al n pg) H) (m_L_below l E (Wp := fun H => H.size = z ∧ va_at E.1 vwCl (sm, .inr (2, [.int (iI pg), .ref (s3 SS), .ref (s1 SS), .ref (s2 SS)])) H ∧ (SX E zc sm SS sp se n) H ∧ (CA E ad sp se al n pg) H) xv 17 (by omega)) (cwS 2 S.2.2.2.2 gL_act_L_below rfl rfl rfl (by decide +kernel) ⟨Nat.le_of_ble_eq_true rfl, Nat.le_of_ble_eq_true rfl⟩) rfl rfl rfl (Nat.le_of_ble_eq_true rfl) ⟨show kc + 0 ≤ 1640 by omega, show ks + 0 ≤ 26400 by omega⟩ (fun _ q => q.elim) (fun _ h => h) (fun _ _ _ h _ _ => h) dL_act_133 ?_
          have bl133_q7 := blw_r (v := xv) (n := 17) (by omega)
          obtain ⟨kv, hkv⟩ : ∃ kv : Int, kv = blw xv 17 := ⟨_, rfl⟩
          rw [← hkv]
          have hkr_q7 : 0 ≤ kv ∧ kv < 17 := by rw [hkv]; exact bl133_q7
          rcases (show ((kv < 1 ∨ 13 < kv) ∨ kv = 1 ∨ kv = 2 ∨ kv = 3 ∨ kv = 4 ∨ kv = 5 ∨ kv = 6 ∨ kv = 7 ∨ kv = 8 ∨ kv = 9 ∨ kv = 10 ∨ kv = 11 ∨ kv = 12 ∨ kv = 13) by omega) with ek | ek | ek | ek | ek | ek | ek | ek | ek | ek | ek | ek | ek | ek
          · skip
            refine g_swO S (tgt := 733) dL_act_136 (by omega) ek (by decide) ?_
            refine g_lv [1, 2, 3, 4, 5, 6, 7, 8, 0] rfl ?_
            exact L733 kc ks (by omega)
          · skip
            refine g_swI S (tgt := 204) (k := 0) dL_act_136 (by omega) (by omega) (by omega) (by omega) rfl (by decide) ?_
            refine g_lv [1, 2, 3, 4, 5, 6, 7, 8, 0] rfl ?_
            exact L204 kc ks (by omega)
          · skip
            refine g_swI S (tgt := 204) (k := 1) dL_act_136 (by omega) (by omega) (by omega) (by omega) rfl (by decide) ?_
            refine g_lv [1, 2, 3, 4, 5, 6, 7, 8, 0] rfl ?_
            exact L204 kc ks (by omega)
          · skip
            refine g_swI S (tgt := 204) (k := 2) dL_act_136 (by omega) (by omega) (by omega) (by omega) rfl (by decide) ?_
            refine g_lv [1, 2, 3, 4, 5, 6, 7, 8, 0] rfl ?_
            exact L204 kc ks (by omega)
          · skip
            refine g_swI S (tgt := 204) (k := 3) dL_act_136 (by omega) (by omega) (by omega) (by omega) rfl (by decide) ?_
            refine g_lv [1, 2, 3, 4, 5, 6, 7, 8, 0] rfl ?_
            exact L204 kc ks (by omega)
          · skip
            refine g_swI S (tgt := 204) (k := 4) dL_act_136 (by omega) (by omega) (by omega) (by omega) rfl (by decide) ?_
            refine g_lv [1, 2, 3, 4, 5, 6, 7, 8, 0] rfl ?_
            exact L204 kc ks (by omega)
          · skip
            refine g_swI S (tgt := 298) (k := 5) dL_act_136 (by omega) (by omega) (by omega) (by omega) rfl (by decide) ?_
            refine g_lv [1, 2, 3, 4, 5, 6, 7, 8, 0] rfl ?_
            exact L298 kc ks (by omega)
          · skip
            refine g_swI S (tgt := 298) (k := 6) dL_act_136 (by omega) (by omega) (by omega) (by omega) rfl (by decide) ?_
            refine g_lv [1, 2, 3, 4, 5, 6, 7, 8, 0] rfl ?_
            exact L298 kc ks (by omega)
          · skip
            refine g_swI S (tgt := 387) (k := 7) dL_act_136 (by omega) (by omega) (by omega) (by omega) rfl (by decide) ?_
            refine g_lv [1, 2, 3, 4, 5, 6, 7, 8, 0] rfl ?_
            exact L387 kc ks (by omega)
          · skip
            refine g_swI S (tgt := 387) (k := 8) dL_act_136 (by omega) (by omega) (by omega) (by omega) rfl (by decide) ?_
            refine g_lv [1, 2, 3, 4, 5, 6, 7, 8, 0] rfl ?_
            exact L387 kc ks (by omega)
          · skip
            refine g_swI S (tgt := 479) (k := 9) dL_act_136 (by omega) (by omega) (by omega) (by omega) rfl (by decide) ?_
            refine g_lv [1, 2, 3, 4, 5, 6, 7, 8, 0] rfl ?_
            exact L479 kc ks (by omega)
          · skip
            refine g_swI S (tgt := 479) (k := 10) dL_act_136 (by omega) (by omega) (by omega) (by omega) rfl (by decide) ?_
            refine g_lv [1, 2, 3, 4, 5, 6, 7, 8, 0] rfl ?_
            exact L479 kc ks (by omega)
          · skip
            refine g_swI S (tgt := 479) (k := 11) dL_act_136 (by omega) (by omega) (by omega) (by omega) rfl (by decide) ?_
            refine g_lv [1, 2, 3, 4, 5, 6, 7, 8, 0] rfl ?_
            exact L479 kc ks (by omega)
          · skip
            refine g_swI S (tgt := 622) (k := 12) dL_act_136 (by omega) (by omega) (by omega) (by omega) rfl (by decide) ?_
            refine g_lv [1, 2, 3, 4, 5, 6, 7, 8, 0] rfl ?_
            exact L622 kc ks (by omega)
        refine g_lv [1, 2, 3, 4, 5, 6, 7, 0] rfl ?_
        exact L127 u_q7 o_q7 fr_q7 (fr_q7 + blw (shI xv 7) wv_q7) kc ks (by omega) (by omega) (by omega) (by omega)
      refine g_iload S dL_act_78 0 rfl ?_
      refine g_iload_n S dL_act_80 rfl 6 rfl ?_
      refine g_bipush S dL_act_81 (by decide) ?_
      refine g_ishr S (z := (iI (shI xv 7))) dL_act_83 ((iI_of _).symm) ?_
      refine g_iload_n S dL_act_84 rfl 6 rfl ?_
      refine g_bipush S dL_act_85 (by decide) ?_
      refine g_ishr S (z := (iI (shI xv 9))) dL_act_87 ((iI_of _).symm) ?_
      refine g_iconst S dL_act_88 ?_
      refine g_callS S xK (As := [.int (iI (shI xv 9)), .int (iI 3)]) (st := [.int (iI (shI xv 7)), .int (iI (1 + blw (shI xv 4) pg))]) (stk' := [.int (iI (blw (shI xv 9) 3)), .int (iI (shI xv 7)), .int (iI (1 + blw (shI xv 4) pg))]) (Wp' := fun H => H.size = z ∧ va_at E.1 vwCl (sm, .inr (2, [.int (iI pg), .ref (s3 SS), .ref (s1 SS), .ref (s2 SS)])) H ∧ (SX E zc sm SS sp se n) H ∧ (CA E ad sp se al n pg) H) (m_L_below l E (Wp := fun H => H.size = z ∧ va_at E.1 vwCl (sm, .inr (2, [.int (iI pg), .ref (s3 SS), .ref (s1 SS), .ref (s2 SS)])) H ∧ (SX E zc sm SS sp se n) H ∧ (CA E ad sp se al n pg) H) (shI xv 9) 3 (by omega)) (cwS 2 S.2.2.2.2 gL_act_L_below rfl rfl rfl (by decide +kernel) ⟨Nat.le_of_ble_eq_true rfl, Nat.le_of_ble_eq_true rfl⟩) rfl rfl rfl (Nat.le_of_ble_eq_true rfl) ⟨show 0 + 0 ≤ 1640 by omega, show 0 + 0 ≤ 26400 by omega⟩ (fun _ q => q.elim) (fun _ h => h) (fun _ _ _ h _ _ => h) dL_act_89 ?_
      have bl89_q7 := blw_r (v := shI xv 9) (n := 3) (by omega)
      refine g_if_ne S (tgt := 107) dL_act_92 (by decide) (by omega) (fun c92_q7 => ?_) (fun c92_q7 => ?_)
      · skip
        refine g_bipush S dL_act_107 (by decide) ?_
        refine g_aload_n S dL_act_109 rfl 5 rfl ?_
        refine g_get S xK (ref := "BookIndexLaw$Sim") hin2_q7 0 (by decide) (show vwCl[2]? = some (RX2, TX2, 4) from rfl) kf29 (fun _ h9 => h9) (fun _ h => h.2.1) rfl dL_act_110 ?_
        refine g_iconst S dL_act_113 ?_
        refine g_iadd S dL_act_114 ?_
        refine g_iload S dL_act_115 0 rfl ?_
        refine g_isub S dL_act_117 ?_
        refine g_mmin S km33 ksmin kiMath kcmin (Nat.le_of_ble_eq_true rfl) (Nat.le_of_ble_eq_true rfl) ⟨show 0 ≤ 1640 by omega, show 0 ≤ 26400 by omega⟩ dL_act_118 (by omega) ?_
        refine g_lv [4, 5, 6, 3, 2, 1, 0] rfl ?_
        exact L121 (1 + blw (shI xv 4) pg) (blw (shI xv 3) n) (blw (shI xv 6) n) (min 6 (pg + 1 - (1 + blw (shI xv 4) pg))) 0 0 (by omega) (by omega) (by omega) (by omega) (by omega)
      · skip
        refine g_aload_n S dL_act_95 rfl 5 rfl ?_
        refine g_get S xK (ref := "BookIndexLaw$Sim") hin2_q7 0 (by decide) (show vwCl[2]? = some (RX2, TX2, 4) from rfl) kf29 (fun _ h9 => h9) (fun _ h => h.2.1) rfl dL_act_96 ?_
        refine g_iconst S dL_act_99 ?_
        refine g_iadd S dL_act_100 ?_
        refine g_iload S dL_act_101 0 rfl ?_
        refine g_isub S dL_act_103 ?_
        refine g_goto S (tgt := 121) dL_act_104 (by decide) ?_
        refine g_lv [4, 5, 6, 3, 2, 1, 0] rfl ?_
        exact L121 (1 + blw (shI xv 4) pg) (blw (shI xv 3) n) (blw (shI xv 6) n) (pg + 1 - (1 + blw (shI xv 4) pg)) 0 0 (by omega) (by omega) (by omega) (by omega) (by omega)
    · skip
      refine g_iload_n S dL_act_19 rfl 0 rfl ?_
      refine g_bipush S dL_act_20 (by decide) ?_
      refine g_icmp_ne S (tgt := 27) dL_act_22 (by decide) (by omega) (fun c22_q7 => ?_) (fun c22_q7 => ?_)
      · skip
        refine g_aload_n S dL_act_27 rfl 2 rfl ?_
        refine g_callVS S xK xO (As := []) (st := []) (stk' := []) (Wp' := fun H => ∃ S1 : SA, (sM S1 = upI (sM SS) n 0 ∧ sV S1 = upI (sV SS) n (fun _ => 0)) ∧ H.size = z + 5 ∧ va_at E.1 vwCl (sm, .inr (2, [.int (iI pg), .ref (s3 S1), .ref (s1 S1), .ref (s2 S1)])) H ∧ (SX E zc sm S1 sp (upI se n (-1)) (n + 1)) H ∧ (CA E ad sp se al n pg) H) (r := (RX2, TX2, 4)) (m_X2_addHeading l E z zc sm SS sp se n pg (by omega) hT ⟨hz.2.1, hz.2.2⟩ (J.hre n (Int.le_refl _) (by omega)).1) (cwV 0 S.2.2.2.2 gL_act_X2_addHeading rfl rfl rfl (by decide +kernel) ⟨Nat.le_of_ble_eq_true rfl, Nat.le_of_ble_eq_true rfl⟩) rfl rfl rfl rfl (Nat.le_of_ble_eq_true rfl) ⟨show 0 + 5 ≤ 1640 by omega, show 0 + 100 ≤ 26400 by omega⟩ (fun q9_q7 (h9 : zc ≤ q9_q7) => (by show zb ≤ q9_q7; omega)) (fun _ h => h.2.1) (fun _ h => ⟨h.1, h.2.1, h.2.2.1⟩) (fun _ _ h h2 hle hq => by obtain ⟨S1, h9, h1, h3, h4⟩ := h2; exact ⟨S1, h9, h1, h3, h4, h.2.2.2.kept (fun q q1 => hq q (h.2.2.2.lt q1) (fun w9_q7 => by have w8_q7 := (hax q q1).2; have w7_q7 : zc ≤ q := w9_q7; omega))⟩) dL_act_28 ?_
        refine g_exU (fun S1 => ?_)
        refine g_preP (fun hS1 => ?_)
        refine g_aload_n S dL_act_31 rfl 1 rfl ?_
        refine g_callV S xK (As := []) (st := []) (stk' := [.int (iI n)]) (Wp' := fun H => z + 5 ≤ H.size ∧ va_at E.1 vwCl (sm, .inr (2, [.int (iI pg), .ref (s3 S1), .ref (s1 S1), .ref (s2 S1)])) H ∧ (SX E zc sm S1 sp (upI se n (-1)) (n + 1)) H ∧ (CA E ad sp (upI se n (-1)) al (n + 1) pg) H) (r := (RX1, TX1, 9)) (q_addHeading l E hj J  (by omega)) (cwV 0 S.2.2.2.2 gL_act_X1_addHeading rfl rfl rfl (by decide +kernel) ⟨Nat.le_of_ble_eq_true rfl, Nat.le_of_ble_eq_true rfl⟩) rfl rfl rfl rfl (Nat.le_of_ble_eq_true rfl) ⟨show 0 + 5 + 0 ≤ 1640 by omega, show 0 + 100 + 0 ≤ 26400 by omega⟩ (fun q9_q7 h9 => (hax q9_q7 h9).1) (fun _ h => h.2.2.2.cx) (fun _ h => h.2.2.2) (fun _ _ h h2 hle hq => ⟨Nat.le_trans (Nat.le_of_eq h.1.symm) hle, h.2.1.kept (hq _ h.2.1.lt (fun w9_q7 => by have w8_q7 := (hax _ w9_q7).2; omega)), h.2.2.1.far (fun q q1 q2 => hq q q1 (fun w9_q7 => by have w8_q7 := (hax q w9_q7).2; omega)), h2⟩) dL_act_32 ?_
        refine g_iload_n S dL_act_35 rfl 0 rfl ?_
        refine g_icmp_ne S (tgt := 43) dL_act_36 (by decide) (by omega) (fun c36_q7 => ?_) (fun c36_q7 => ?_)
        · skip
          exact absurd c36_q7 (by omega)
        · skip
          refine g_iconst S dL_act_39 ?_
          refine g_goto S (tgt := 44) dL_act_40 (by decide) ?_
          refine g_wid (k := 1640) (n := 26400) (by omega) (by omega) ?_
          exact g_zret S xr xlk (Or.inr rfl) dL_act_44 (fun _ h => ⟨S1, sp, upI se n (-1), al, n + 1, pg, ⟨jv_add J (by omega), al2_add hal (J.hre n (Int.le_refl _) (by omega)).2 hS1, by omega⟩, h.2.1, h.2.2.1, h.2.2.2⟩)
      · skip
        refine g_iconst S dL_act_25 ?_
        refine g_wid (k := 1640) (n := 26400) (by omega) (by omega) ?_
        exact g_zret S xr xlk (Or.inr rfl) dL_act_26 (fun _ h => ⟨SS, sp, se, al, n, pg, ⟨J, hal, Int.le_refl _⟩, h.2.1, h.2.2.1, h.2.2.2⟩)
