/-! build: an index by hand beside the class -/
set_option maxHeartbeats 4000000 in
set_option maxRecDepth 100000 in
theorem m_X2_init (l : Launch) (E : EN) (zc sm : Nat) (sp : Int → SpT) (se : Int → Int) (hz : zc ≤ sm) : Met l yX2_init wsX2_init ({ frames := 1, cells := 3, slots := 0, locals := 20 }) (CS E [.ref (sm)] (fun H => H.size = sm + 1 ∧ va_at E.1 vwCl (sm, .inr (2, [.int (iI 0), .null, .null, .null])) H)) (QW (none) (fun H => ∃ S1 : SA, H.size = sm + 4 ∧ va_at E.1 vwCl (sm, .inr (2, [.int (iI 100), .ref (s3 S1), .ref (s1 S1), .ref (s2 S1)])) H ∧ SX E zc sm S1 sp se 0 H) (fun q0 => sm ≤ q0)) 3 0 (fun q0 => sm ≤ q0) := by
  refine g_metS (cc := cX2_init) (maxL := 1) (ret := none) (lv := [(0, .ref (sm))]) (by decide) rfl (Nat.le_of_ble_eq_true rfl) rfl ?_
  intro xp xe xs xm xa xb xh xc S xK xO xr xlk xin
  have ko1 := S.2.2.2.2 (.methodLink RX2 1 objectInit) (by decide +kernel)
  have ko2 := S.2.2.2.2 (.instanceMethod objectInit) (by decide +kernel)
  have kf7 := S.2.2.2.2 (.fieldLink RX2 7 "BookIndexLaw$Sim" "pages" "I") (by decide +kernel)
  have kc13 := S.2.2.2.2 (.classLink RX2 13 "[[I") (by decide +kernel)
  have kf15 := S.2.2.2.2 (.fieldLink RX2 15 "BookIndexLaw$Sim" "spans" "[[[I") (by decide +kernel)
  have kaI := S.2.2.2.2 (.arrayClass .int) (by decide +kernel)
  have kf19 := S.2.2.2.2 (.fieldLink RX2 19 "BookIndexLaw$Sim" "see" "[I") (by decide +kernel)
  have kc23 := S.2.2.2.2 (.classLink RX2 23 "[I") (by decide +kernel)
  have kf24 := S.2.2.2.2 (.fieldLink RX2 24 "BookIndexLaw$Sim" "also" "[[I") (by decide +kernel)
  have hin2_q7 : ∀ w ∈ wsX20, w ∈ wsX2_init := by decide +kernel
  refine g_aload_n S dX2_init_0 rfl 0 rfl ?_
  have ko3 := S.2.2.2.2 (.code objectInit ⟨#[0xb1]⟩ 1 none) (List.mem_cons_of_mem _ (List.mem_append_left _ (List.mem_of_getElem? (i := 2) rfl)))
  refine g_objInit S ko1 ko2 ko3 dX2_init_1 ⟨Nat.le_of_ble_eq_true rfl, Nat.le_of_ble_eq_true rfl⟩ (Nat.le_of_ble_eq_true rfl) ?_
  refine g_aload_n S dX2_init_4 rfl 0 rfl ?_
  refine g_bipush S dX2_init_5 (by decide) ?_
  refine g_put S xK (Wp' := fun H => H.size = sm + 1 ∧ va_at E.1 vwCl (sm, .inr (2, [.int (iI 100), .null, .null, .null])) H) (ref := "BookIndexLaw$Sim") (ty := .int) hin2_q7 tyX2 tyX2_ok nmX2 0 (by decide) (show vwCl[2]? = some (RX2, TX2, 4) from rfl) kf7 (fun _ h9 => h9) rfl (by decide +kernel) rfl rfl (fun _ h => h.2) (Nat.le_of_ble_eq_true rfl) ((show sm ≤ sm from Nat.le_refl _)) (fun _ _ h hv z1 oq => ⟨z1.trans h.1, hv⟩) dX2_init_7 ?_
  refine g_aload_n S dX2_init_10 rfl 0 rfl ?_
  refine g_iconst S dX2_init_11 ?_
  refine g_newR S xK xO (t := 4) (by decide) (Wp' := fun H => H.size = sm + 2 ∧ va_at E.1 vwCl (sm, .inr (2, [.int (iI 100), .null, .null, .null])) H ∧ vP E 4 (sm + 1) 0 0 (fun _ => 0) H) (n := 0) (a := sm + 1) kc13 (by omega) ⟨show 0 + 1 ≤ 3 by omega, show 0 + (0 : Int).toNat ≤ 0 by omega⟩ (fun _ h => h.1) (fun _ _ h hv z1 hq => ⟨z1, h.2.kept (hq _ (by have w9_q7 := h.2.lt; have y9_q7 := h.1; omega)), hv⟩) dX2_init_12 ?_
  refine g_put S xK (Wp' := fun H => H.size = sm + 2 ∧ va_at E.1 vwCl (sm, .inr (2, [.int (iI 100), .ref (sm + 1), .null, .null])) H ∧ vP E 4 (sm + 1) 0 0 (fun _ => 0) H) (ref := "BookIndexLaw$Sim") (ty := .array (.array (.array .int))) hin2_q7 tyX2 tyX2_ok nmX2 1 (by decide) (show vwCl[2]? = some (RX2, TX2, 4) from rfl) kf15 (fun _ h9 => h9) rfl (by decide +kernel) rfl rfl (fun _ h => h.2.1) (Nat.le_of_ble_eq_true rfl) ((show sm ≤ sm from Nat.le_refl _)) (fun _ _ h hv z1 oq => ⟨z1.trans h.1, hv, h.2.2.kept (oq _ (by omega))⟩) dX2_init_15 ?_
  refine g_aload_n S dX2_init_18 rfl 0 rfl ?_
  refine g_iconst S dX2_init_19 ?_
  refine g_newIZ S xK (Wp' := fun H => H.size = sm + 3 ∧ va_at E.1 vwCl (sm, .inr (2, [.int (iI 100), .ref (sm + 1), .null, .null])) H ∧ vP E 4 (sm + 1) 0 0 (fun _ => 0) H ∧ vI E (sm + 2) 0 (fun _ => 0) H) (n := 0) (a := sm + 2) kaI (by omega) ⟨show 0 + 1 + 1 ≤ 3 by omega, show 0 + (0 : Int).toNat + (0 : Int).toNat ≤ 0 by omega⟩ (fun _ h => h.1) (fun _ _ h hv z1 hq => ⟨z1, h.2.1.kept (hq _ (by have w9_q7 := h.2.1.lt; have y9_q7 := h.1; omega)), h.2.2.kept (hq _ (by have w9_q7 := h.2.2.lt; have y9_q7 := h.1; omega)), hv⟩) dX2_init_20 ?_
  refine g_put S xK (Wp' := fun H => H.size = sm + 3 ∧ va_at E.1 vwCl (sm, .inr (2, [.int (iI 100), .ref (sm + 1), .ref (sm + 2), .null])) H ∧ vP E 4 (sm + 1) 0 0 (fun _ => 0) H ∧ vI E (sm + 2) 0 (fun _ => 0) H) (ref := "BookIndexLaw$Sim") (ty := .array .int) hin2_q7 tyX2 tyX2_ok nmX2 2 (by decide) (show vwCl[2]? = some (RX2, TX2, 4) from rfl) kf19 (fun _ h9 => h9) rfl (by decide +kernel) rfl rfl (fun _ h => h.2.1) (Nat.le_of_ble_eq_true rfl) ((show sm ≤ sm from Nat.le_refl _)) (fun _ _ h hv z1 oq => ⟨z1.trans h.1, hv, h.2.2.1.kept (oq _ (by omega)), h.2.2.2.kept (oq _ (by omega))⟩) dX2_init_22 ?_
  refine g_aload_n S dX2_init_25 rfl 0 rfl ?_
  refine g_iconst S dX2_init_26 ?_
  refine g_newR S xK xO (t := 3) (by decide) (Wp' := fun H => H.size = sm + 4 ∧ va_at E.1 vwCl (sm, .inr (2, [.int (iI 100), .ref (sm + 1), .ref (sm + 2), .null])) H ∧ vP E 4 (sm + 1) 0 0 (fun _ => 0) H ∧ vI E (sm + 2) 0 (fun _ => 0) H ∧ vP E 3 (sm + 3) 0 0 (fun _ => 0) H) (n := 0) (a := sm + 3) kc23 (by omega) ⟨show 0 + 1 + 1 + 1 ≤ 3 by omega, show 0 + (0 : Int).toNat + (0 : Int).toNat + (0 : Int).toNat ≤ 0 by omega⟩ (fun _ h => h.1) (fun _ _ h hv z1 hq => ⟨z1, h.2.1.kept (hq _ (by have w9_q7 := h.2.1.lt; have y9_q7 := h.1; omega)), h.2.2.1.kept (hq _ (by have w9_q7 := h.2.2.1.lt; have y9_q7 := h.1; omega)), h.2.2.2.kept (hq _ (by have w9_q7 := h.2.2.2.lt; have y9_q7 := h.1; omega)), hv⟩) dX2_init_27 ?_
  refine g_put S xK (Wp' := fun H => H.size = sm + 4 ∧ va_at E.1 vwCl (sm, .inr (2, [.int (iI 100), .ref (sm + 1), .ref (sm + 2), .ref (sm + 3)])) H ∧ vP E 4 (sm + 1) 0 0 (fun _ => 0) H ∧ vI E (sm + 2) 0 (fun _ => 0) H ∧ vP E 3 (sm + 3) 0 0 (fun _ => 0) H) (ref := "BookIndexLaw$Sim") (ty := .array (.array .int)) hin2_q7 tyX2 tyX2_ok nmX2 3 (by decide) (show vwCl[2]? = some (RX2, TX2, 4) from rfl) kf24 (fun _ h9 => h9) rfl (by decide +kernel) rfl rfl (fun _ h => h.2.1) (Nat.le_of_ble_eq_true rfl) ((show sm ≤ sm from Nat.le_refl _)) (fun _ _ h hv z1 oq => ⟨z1.trans h.1, hv, h.2.2.1.kept (oq _ (by omega)), h.2.2.2.1.kept (oq _ (by omega)), h.2.2.2.2.kept (oq _ (by omega))⟩) dX2_init_30 ?_
  refine g_wid (k := 3) (n := 0) (by omega) (by omega) ?_
  exact g_vret S xr xlk dX2_init_33 (fun _ h => by obtain ⟨S9, hs9, hx9⟩ := SX.none (E := E) (zc := zc) (sm := sm) (sp := sp) (se := se) (a3 := sm + 1) (a1 := sm + 2) (a2 := sm + 3) (by omega) (h.2.2.1.full (g := fun _ => 0) (by omega) (fun _ _ _ => rfl)) h.2.2.2.1 (h.2.2.2.2.full (g := fun _ => 0) (by omega) (fun _ _ _ => rfl)); exact ⟨S9, h.1, by rw [hs9.1, hs9.2.1, hs9.2.2]; exact h.2.1, hx9⟩)
set_option maxHeartbeats 4000000 in
set_option maxRecDepth 100000 in
theorem m_L_build (l : Launch) (E : EN) (hst : l.stackTraces = false) (zb zc sm : Nat) {ad : Int → Nat} (hj : INJ ad) (hax : HZ ad zb zc) (sb : Nat) (L : Int) (sc : Int → Int) (scr : Cell) (hP : SCRP scr L sc) {sp : Int → SpT} {se : Int → Int} {al : Int → Nat} (J : JV sp se al 0 100) (hz : zb ≤ zc ∧ zc ≤ sm) (hsb : sb < zb) (hL : 0 ≤ L ∧ L ≤ 1000) : Met l yL_build wsL_build ({ frames := 9, cells := 38000, slots := 612000, locals := 160 }) (CN scr E zb [.ref (ad 0), .ref (sb)] (fun H => H.size = sm ∧ (CA E ad sp se al 0 100) H ∧ (vS scr sb) H)) (QW (some (.ref sm)) (fun H => JS E ad zc sm 2 H ∧ vS scr sb H) (fun q0 => zb ≤ q0)) 38000 612000 (fun q0 => zb ≤ q0) := by
  refine g_metN (cc := cL_build) (maxL := 5) (ret := (some (.object "BookIndexLaw$Sim"))) (lv := [(0, .ref (ad 0)), (1, .ref (sb))]) (by decide) rfl (Nat.le_of_ble_eq_true rfl) rfl ?_
  intro xp xe xs xm xa xb xh xc S xK xX xO xN xr xlk
  have kc10 := S.2.2.2.2 (.classLink RL 10 RX2) (by decide +kernel)
  have kin2 := S.2.2.2.2 (.instantiable RX2 4) (by decide +kernel)
  have kini2 := S.2.2.2.2 (.initialized RX2) (by decide +kernel)
  have kim2 := S.2.2.2.2 (.instanceMethod yX2_init) (by decide +kernel)
  have hin2_q7 : ∀ w ∈ wsX20, w ∈ wsL_build := by decide +kernel
  have hAb_q7 : ∀ q9 : Nat, (fun q0 => zb ≤ q0) q9 → zb ≤ q9 := fun _ h => h
  refine g_newO S xK (a := sm) (fs := [.int (iI 0), .null, .null, .null]) (Wp' := fun H => H.size = sm + 1 ∧ (CA E ad sp se al 0 100) H ∧ (vS scr sb) H ∧ va_at E.1 vwCl (sm, .inr (2, [.int (iI 0), .null, .null, .null])) H) hin2_q7 tyX2 tyX2_ok (show vwCl[2]? = some (RX2, TX2, 4) from rfl) kc10 kin2 kini2 si_born ⟨show 0 + 1 ≤ 38000 by omega, show 0 + 4 ≤ 612000 by omega⟩ (fun _ h => h.1) (fun _ _ h hv hz hq => ⟨hz, CA.lw _ _ h.2.1 (by have y9_q7 := h.1; omega) (fun q q1 => hq q (by have y9_q7 := h.1; omega)), h.2.2.kept (hq _ (by have w9_q7 := h.2.2.lt; have y9_q7 := h.1; omega)), hv⟩) dL_build_0 ?_
  refine g_dup S dL_build_3 rfl ?_
  refine g_callNS S xK xO (As := []) (st := [.ref (sm)]) (Wp' := fun H => ∃ S1_q7 : SA, H.size = sm + 4 ∧ va_at E.1 vwCl (sm, .inr (2, [.int (iI 100), .ref (s3 S1_q7), .ref (s1 S1_q7), .ref (s2 S1_q7)])) H ∧ (SX E zc sm S1_q7 sp se 0) H ∧ (CA E ad sp se al 0 100) H ∧ (vS scr sb) H) (m_X2_init l E zc sm sp se hz.2) ⟨va_cnB 0 S.2.2.2.2 gL_build_X2_init_n96 rfl rfl rfl xN.1 kini2 (by decide +kernel) ⟨Nat.le_of_ble_eq_true rfl, Nat.le_of_ble_eq_true rfl⟩, rfl, kim2⟩ rfl rfl (Nat.le_of_ble_eq_true rfl) ⟨show 0 + 1 + 3 ≤ 38000 by omega, show 0 + 4 + 0 ≤ 612000 by omega⟩ (fun q9 (h9 : sm ≤ q9) => (by show zb ≤ q9; omega)) (fun _ h => ⟨h.1, h.2.2.2⟩) (fun _ _ h h2 hle hq => by obtain ⟨S1_q7, h1, h3, h4⟩ := h2; exact ⟨S1_q7, h1, h3, h4, h.2.1.kept (fun q q1 => hq q (h.2.1.lt q1) (fun w9_q7 => by have w8_q7 := (hax q q1).2; have w7_q7 : sm ≤ q := w9_q7; omega)), h.2.2.1.kept (hq _ h.2.2.1.lt (fun w9_q7 => by have w7_q7 : sm ≤ sb := w9_q7; omega))⟩) dL_build_4 ?_
  refine g_exU (fun S1_q7 => ?_)
  refine g_astore_n S (lv' := [(2, .ref (sm)), (0, .ref (ad 0)), (1, .ref (sb))]) dL_build_7 rfl (Nat.le_of_ble_eq_true rfl) rfl ?_
  refine g_ex (P := TG zc sm S1_q7 sp 0) (fun _ h => h.2.2.1.tg) (fun hT0 => ?_)
  refine g_iconst S dL_build_8 ?_
  refine g_aload_n S dL_build_9 rfl 2 rfl ?_
  refine g_iconst S dL_build_10 ?_
  refine g_callSY S xK xN.2 (As := [.ref (sb), .int (iI 0)]) (st := [.int (iI 2)]) (stk' := [.int (iI (cel sc L 0)), .int (iI 2)]) (Wp' := fun H => H.size = sm + 4 ∧ va_at E.1 vwCl (sm, .inr (2, [.int (iI 100), .ref (s3 S1_q7), .ref (s1 S1_q7), .ref (s2 S1_q7)])) H ∧ (SX E zc sm S1_q7 sp se 0) H ∧ (CA E ad sp se al 0 100) H ∧ (vS scr sb) H) (m_L_cell2 l E (Wp := fun H => H.size = sm + 4 ∧ va_at E.1 vwCl (sm, .inr (2, [.int (iI 100), .ref (s3 S1_q7), .ref (s1 S1_q7), .ref (s2 S1_q7)])) H ∧ (SX E zc sm S1_q7 sp se 0) H ∧ (CA E ad sp se al 0 100) H ∧ (vS scr sb) H) scr sb L sc hP 0 (fun _ h => h.2.2.2.2) hL (by omega)) (cwS 2 S.2.2.2.2 gL_build_L_cell rfl rfl rfl (by decide +kernel) ⟨Nat.le_of_ble_eq_true rfl, Nat.le_of_ble_eq_true rfl⟩) rfl rfl rfl (Nat.le_of_ble_eq_true rfl) ⟨show 0 + 1 + 3 + 0 ≤ 38000 by omega, show 0 + 4 + 0 + 0 ≤ 612000 by omega⟩ (fun _ q => q.elim) (fun _ h => h) (fun _ _ _ h _ _ => h) dL_build_11 ?_
  refine g_bipush S dL_build_14 (by decide) ?_
  refine g_callS S xK (As := [.int (iI (cel sc L 0)), .int (iI 9)]) (st := [.int (iI 2)]) (stk' := [.int (iI (blw (cel sc L 0) 9)), .int (iI 2)]) (Wp' := fun H => H.size = sm + 4 ∧ va_at E.1 vwCl (sm, .inr (2, [.int (iI 100), .ref (s3 S1_q7), .ref (s1 S1_q7), .ref (s2 S1_q7)])) H ∧ (SX E zc sm S1_q7 sp se 0) H ∧ (CA E ad sp se al 0 100) H ∧ (vS scr sb) H) (m_L_below l E (Wp := fun H => H.size = sm + 4 ∧ va_at E.1 vwCl (sm, .inr (2, [.int (iI 100), .ref (s3 S1_q7), .ref (s1 S1_q7), .ref (s2 S1_q7)])) H ∧ (SX E zc sm S1_q7 sp se 0) H ∧ (CA E ad sp se al 0 100) H ∧ (vS scr sb) H) (cel sc L 0) 9 (by omega)) (cwS 2 S.2.2.2.2 gL_build_L_below rfl rfl rfl (by decide +kernel) ⟨Nat.le_of_ble_eq_true rfl, Nat.le_of_ble_eq_true rfl⟩) rfl rfl rfl (Nat.le_of_ble_eq_true rfl) ⟨show 0 + 1 + 3 + 0 ≤ 38000 by omega, show 0 + 4 + 0 + 0 ≤ 612000 by omega⟩ (fun _ q => q.elim) (fun _ h => h) (fun _ _ _ h _ _ => h) dL_build_16 ?_
  have bl16_q7 := blw_r (v := cel sc L 0) (n := 9) (by omega)
  refine g_iadd S dL_build_19 ?_
  refine g_istore_n S (lv' := [(3, .int (iI (2 + blw (cel sc L 0) 9))), (2, .ref (sm)), (0, .ref (ad 0)), (1, .ref (sb))]) dL_build_20 rfl (Nat.le_of_ble_eq_true rfl) rfl ?_
  refine g_iconst S dL_build_21 ?_
  refine g_istore S (lv' := [(4, .int (iI 0)), (3, .int (iI (2 + blw (cel sc L 0) 9))), (2, .ref (sm)), (0, .ref (ad 0)), (1, .ref (sb))]) dL_build_22 (Nat.le_of_ble_eq_true rfl) rfl ?_
  have L24 : ∀ (nf : Nat) (o_q7 : Int) (nb_q7 : Int) (S1_q7 : SA) (se1_q7 : Int → Int) (zz_q7 : Nat) (kc : Nat) (ks : Nat), (2 ≤ nb_q7 ∧ nb_q7 ≤ 10) → (0 ≤ o_q7 ∧ o_q7 ≤ nb_q7) → (JV sp se1_q7 al o_q7 100) → (AL2 S1_q7 al o_q7) → (TG zc sm S1_q7 sp o_q7) → (sm < zz_q7) → (kc ≤ 4 + 5 * o_q7.toNat ∧ ks ≤ 4 + 100 * o_q7.toNat) → (nb_q7 - o_q7 < (nf : Int)) → G xp l xe ({ frames := 9, cells := 38000, slots := 612000, locals := 160 }) xs xm xa xb xh xc 5 (fun q0 => zb ≤ q0) kc ks (MQ xb (QW (some (.ref sm)) (fun H => JS E ad zc sm 2 H ∧ vS scr sb H) (fun q0 => zb ≤ q0)) xa xs 38000 612000 (fun q0 => zb ≤ q0)) 24 [(0, .ref (ad 0)), (1, .ref (sb)), (2, .ref (sm)), (3, .int (iI nb_q7)), (4, .int (iI o_q7))] [] (fun H => zz_q7 ≤ H.size ∧ va_at E.1 vwCl (sm, .inr (2, [.int (iI 100), .ref (s3 S1_q7), .ref (s1 S1_q7), .ref (s2 S1_q7)])) H ∧ (SX E zc sm S1_q7 sp se1_q7 o_q7) H ∧ (CA E ad sp se1_q7 al o_q7 100) H ∧ (vS scr sb) H) := by
    intro nf
    induction nf with
    | zero =>
      intro o_q7 nb_q7 S1_q7 se1_q7 zz_q7 kc ks hnb_q7 ho_q7 J1_q7 hal1_q7 hT1_q7 hzz_q7 hkc_q7 hmf
      exfalso
      omega
    | succ nf ihL24 =>
      intro o_q7 nb_q7 S1_q7 se1_q7 zz_q7 kc ks hnb_q7 ho_q7 J1_q7 hal1_q7 hT1_q7 hzz_q7 hkc_q7 hmf
      refine g_iload S dL_build_24 4 rfl ?_
      refine g_iload_n S dL_build_26 rfl 3 rfl ?_
      refine g_icmp_ge S (tgt := 51) dL_build_27 (by decide) (by omega) (fun c27_q7 => ?_) (fun c27_q7 => ?_)
      · skip
        refine g_iconst S dL_build_51 ?_
        refine g_istore S (lv' := [(4, .int (iI 0)), (0, .ref (ad 0)), (1, .ref (sb)), (2, .ref (sm)), (3, .int (iI nb_q7))]) dL_build_52 (Nat.le_of_ble_eq_true rfl) rfl ?_
        have L54 : ∀ (nf : Nat) (kv : Int) (kc : Nat) (ks : Nat), (0 ≤ kv ∧ kv ≤ 23) → (kc ≤ 54 + 1640 * kv.toNat ∧ ks ≤ 1004 + 26400 * kv.toNat) → ((24 : Int) - kv < (nf : Int)) → G xp l xe ({ frames := 9, cells := 38000, slots := 612000, locals := 160 }) xs xm xa xb xh xc 5 (fun q0 => zb ≤ q0) kc ks (MQ xb (QW (some (.ref sm)) (fun H => JS E ad zc sm 2 H ∧ vS scr sb H) (fun q0 => zb ≤ q0)) xa xs 38000 612000 (fun q0 => zb ≤ q0)) 54 [(0, .ref (ad 0)), (1, .ref (sb)), (2, .ref (sm)), (4, .int (iI kv))] [] (fun H => (JS E ad zc sm 2) H ∧ (vS scr sb) H) := by
          intro nf
          induction nf with
          | zero =>
            intro kv kc ks hkv_q7 hk2_q7 hmf
            exfalso
            omega
          | succ nf ihL54 =>
            intro kv kc ks hkv_q7 hk2_q7 hmf
            refine g_iload S dL_build_54 3 rfl ?_
            refine g_bipush S dL_build_56 (by decide) ?_
            refine g_aload_n S dL_build_58 rfl 1 rfl ?_
            refine g_iconst S dL_build_59 ?_
            refine g_callSY S xK xN.2 (As := [.ref (sb), .int (iI 0)]) (st := [.int (iI 8), .int (iI kv)]) (stk' := [.int (iI (cel sc L 0)), .int (iI 8), .int (iI kv)]) (Wp' := fun H => (JS E ad zc sm 2) H ∧ (vS scr sb) H) (m_L_cell2 l E (Wp := fun H => (JS E ad zc sm 2) H ∧ (vS scr sb) H) scr sb L sc hP 0 (fun _ h => h.2) hL (by omega)) (cwS 2 S.2.2.2.2 gL_build_L_cell rfl rfl rfl (by decide +kernel) ⟨Nat.le_of_ble_eq_true rfl, Nat.le_of_ble_eq_true rfl⟩) rfl rfl rfl (Nat.le_of_ble_eq_true rfl) ⟨show kc + 0 ≤ 38000 by omega, show ks + 0 ≤ 612000 by omega⟩ (fun _ q => q.elim) (fun _ h => h) (fun _ _ _ h _ _ => h) dL_build_60 ?_
            refine g_iconst S dL_build_63 ?_
            refine g_ishr S (z := (iI (shI (cel sc L 0) 4))) dL_build_64 ((iI_of _).symm) ?_
            refine g_bipush S dL_build_65 (by decide) ?_
            refine g_callS S xK (As := [.int (iI (shI (cel sc L 0) 4)), .int (iI 16)]) (st := [.int (iI 8), .int (iI kv)]) (stk' := [.int (iI (blw (shI (cel sc L 0) 4) 16)), .int (iI 8), .int (iI kv)]) (Wp' := fun H => (JS E ad zc sm 2) H ∧ (vS scr sb) H) (m_L_below l E (Wp := fun H => (JS E ad zc sm 2) H ∧ (vS scr sb) H) (shI (cel sc L 0) 4) 16 (by omega)) (cwS 2 S.2.2.2.2 gL_build_L_below rfl rfl rfl (by decide +kernel) ⟨Nat.le_of_ble_eq_true rfl, Nat.le_of_ble_eq_true rfl⟩) rfl rfl rfl (Nat.le_of_ble_eq_true rfl) ⟨show kc + 0 ≤ 38000 by omega, show ks + 0 ≤ 612000 by omega⟩ (fun _ q => q.elim) (fun _ h => h) (fun _ _ _ h _ _ => h) dL_build_67 ?_
            have bl67_q7 := blw_r (v := shI (cel sc L 0) 4) (n := 16) (by omega)
            refine g_iadd S dL_build_70 ?_
            refine g_icmp_ge S (tgt := 115) dL_build_71 (by decide) (by omega) (fun c71_q7 => ?_) (fun c71_q7 => ?_)
            · skip
              refine g_aload_n S dL_build_115 rfl 2 rfl ?_
              refine g_wid (k := 38000) (n := 612000) (by omega) (by omega) ?_
              exact g_aobj S xr xlk dL_build_116 (fun _ h => h)
            · skip
              refine g_aload_n S dL_build_74 rfl 0 rfl ?_
              refine g_aload_n S dL_build_75 rfl 2 rfl ?_
              refine g_aload_n S dL_build_76 rfl 1 rfl ?_
              refine g_iconst S dL_build_77 ?_
              refine g_iload S dL_build_78 3 rfl ?_
              refine g_bipush S dL_build_80 (by decide) ?_
              refine g_irem S (z := iI (kv % 15)) dL_build_82 (iI_ne0 (by omega)) (irem_nn (by omega) (by omega)) ?_
              refine g_iadd S dL_build_83 ?_
              refine g_callSY S xK xN.2 (As := [.ref (sb), .int (iI (1 + kv % 15))]) (st := [.ref (sm), .ref (ad 0)]) (stk' := [.int (iI (cel sc L (1 + kv % 15))), .ref (sm), .ref (ad 0)]) (Wp' := fun H => (JS E ad zc sm 2) H ∧ (vS scr sb) H) (m_L_cell2 l E (Wp := fun H => (JS E ad zc sm 2) H ∧ (vS scr sb) H) scr sb L sc hP (1 + kv % 15) (fun _ h => h.2) hL (by omega)) (cwS 2 S.2.2.2.2 gL_build_L_cell rfl rfl rfl (by decide +kernel) ⟨Nat.le_of_ble_eq_true rfl, Nat.le_of_ble_eq_true rfl⟩) rfl rfl rfl (Nat.le_of_ble_eq_true rfl) ⟨show kc + 0 ≤ 38000 by omega, show ks + 0 ≤ 612000 by omega⟩ (fun _ q => q.elim) (fun _ h => h) (fun _ _ _ h _ _ => h) dL_build_84 ?_
              refine g_iload S dL_build_87 3 rfl ?_
              refine g_bipush S dL_build_89 (by decide) ?_
              refine g_idiv S (z := iI (kv / 15)) dL_build_91 (iI_ne0 (by omega)) (idiv_nn (by omega) (by omega)) ?_
              refine g_iconst S dL_build_92 ?_
              refine g_imul S dL_build_93 ?_
              refine g_ishr S (z := (iI (shI (cel sc L (1 + kv % 15)) (kv / 15 * 3)))) dL_build_94 ((iI_of _).symm) ?_
              refine g_bipush S dL_build_95 (by decide) ?_
              refine g_iload S dL_build_97 3 rfl ?_
              refine g_imul S dL_build_99 ?_
              refine g_iadd S dL_build_100 ?_
              refine g_js (fun zq1 Sq1 spq1 seq1 alq1 nq1 pgq1 hzq1 hTq1 Jq1 haq1 hnq1 => ?_)
              have ghTq1_q7 := hTq1.sge
              refine g_callSU S xK xX xO hAb_q7 (As := [.ref (ad 0), .ref (sm), .int (iI (shI (cel sc L (1 + kv % 15)) (kv / 15 * 3) + 41 * kv))]) (st := []) (stk' := [.int (iI 1)]) (Wp' := fun H => (JS E ad zc sm 2) H ∧ (vS scr sb) H) (m_L_act l E hst zq1 zb zc sm hj hax Sq1 Jq1 (shI (cel sc L (1 + kv % 15)) (kv / 15 * 3) + 41 * kv) hTq1 (by omega) haq1) (vx_cwSW 3 S.2.2.2.2 gL_build_L_act rfl rfl rfl (by decide +kernel) ⟨Nat.le_of_ble_eq_true rfl, Nat.le_of_ble_eq_true rfl⟩) rfl rfl rfl (Nat.le_of_ble_eq_true rfl) ⟨show kc + 1640 ≤ 38000 by omega, show ks + 26400 ≤ 612000 by omega⟩ (fun _ h9 => h9) (fun _ h => ⟨h.1, h.2.1, h.2.2.1, h.2.2.2.1⟩) (fun _ _ h h2 hle hq => ⟨h2.mono hnq1, h.2.2.2.2.kept (hq _ h.2.2.2.2.lt (fun w9_q7 => by have w8_q7 : zb ≤ sb := w9_q7; omega))⟩) dL_build_101 ?_
              refine g_if_ne S (tgt := 109) dL_build_104 (by decide) (by omega) (fun c104_q7 => ?_) (fun c104_q7 => ?_)
              · skip
                refine g_iinc S (lv' := [(4, .int (iI (kv + 1))), (0, .ref (ad 0)), (1, .ref (sb)), (2, .ref (sm))]) dL_build_109 3 rfl (Nat.le_of_ble_eq_true rfl) rfl ?_
                refine g_goto S (tgt := 54) dL_build_112 (by decide) ?_
                refine g_lv [1, 2, 3, 0] rfl ?_
                exact ihL54 (kv + 1) (kc + 1640) (ks + 26400) (by omega) (by omega) (by omega)
              · skip
                exact absurd c104_q7 (by decide)
        refine g_lv [1, 2, 3, 0] rfl ?_
        refine g_w (Wp' := fun H => (JS E ad zc sm 2) H ∧ (vS scr sb) H) (fun _ h => ⟨⟨S1_q7, sp, se1_q7, al, o_q7, 100, ⟨J1_q7, hal1_q7, by omega⟩, h.2.1, h.2.2.1, h.2.2.2.1⟩, h.2.2.2.2⟩) ?_
        exact L54 (((24 : Int) - 0) + 1).toNat 0 kc ks (by omega) (by omega) (by omega)
      · skip
        refine g_aload_n S dL_build_30 rfl 2 rfl ?_
        refine g_sz (fun zs2 _ => ?_)
        refine g_ex (P := zz_q7 ≤ zs2) (fun _ h => by have y1_q7 := h.1; have y2_q7 := h.2.1; omega) (fun hzs2 => ?_)
        refine g_w (Wp' := fun H => H.size = zs2 ∧ va_at E.1 vwCl (sm, .inr (2, [.int (iI 100), .ref (s3 S1_q7), .ref (s1 S1_q7), .ref (s2 S1_q7)])) H ∧ (SX E zc sm S1_q7 sp se1_q7 o_q7) H ∧ (CA E ad sp se1_q7 al o_q7 100) H ∧ (vS scr sb) H) (fun _ h => ⟨h.1, h.2.2⟩) ?_
        refine g_callVS S xK xO (As := []) (st := []) (stk' := []) (Wp' := fun H => ∃ S2 : SA, (sM S2 = upI (sM S1_q7) o_q7 0 ∧ sV S2 = upI (sV S1_q7) o_q7 (fun _ => 0)) ∧ H.size = zs2 + 5 ∧ va_at E.1 vwCl (sm, .inr (2, [.int (iI 100), .ref (s3 S2), .ref (s1 S2), .ref (s2 S2)])) H ∧ (SX E zc sm S2 sp (upI se1_q7 o_q7 (-1)) (o_q7 + 1)) H ∧ (CA E ad sp se1_q7 al o_q7 100) H ∧ (vS scr sb) H) (r := (RX2, TX2, 4)) (m_X2_addHeading l E zs2 zc sm S1_q7 sp se1_q7 o_q7 100 (by omega) hT1_q7 (by omega) (J1_q7.hre o_q7 (Int.le_refl _) (by omega)).1) (cwV 0 S.2.2.2.2 gL_build_X2_addHeading rfl rfl rfl (by decide +kernel) ⟨Nat.le_of_ble_eq_true rfl, Nat.le_of_ble_eq_true rfl⟩) rfl rfl rfl rfl (Nat.le_of_ble_eq_true rfl) ⟨show kc + 5 ≤ 38000 by omega, show ks + 100 ≤ 612000 by omega⟩ (fun q9 (h9 : zc ≤ q9) => (by show zb ≤ q9; omega)) (fun _ h => h.2.1) (fun _ h => ⟨h.1, h.2.1, h.2.2.1⟩) (fun _ _ h h2 hle hq => by obtain ⟨S2, h9, h1, h3, h4⟩ := h2; exact ⟨S2, h9, h1, h3, h4, h.2.2.2.1.kept (fun q q1 => hq q (h.2.2.2.1.lt q1) (fun w9_q7 => by have w8_q7 := (hax q q1).2; have w7_q7 : zc ≤ q := w9_q7; omega)), h.2.2.2.2.kept (hq _ h.2.2.2.2.lt (fun w9_q7 => by have w7_q7 : zc ≤ sb := w9_q7; omega))⟩) dL_build_31 ?_
        refine g_exU (fun S2 => ?_)
        refine g_preP (fun hS2 => ?_)
        refine g_ex (P := TG zc sm S2 sp (o_q7 + 1)) (fun _ h => h.2.2.1.tg) (fun hT2 => ?_)
        refine g_aload_n S dL_build_34 rfl 0 rfl ?_
        refine g_callV S xK (As := []) (st := []) (stk' := [.int (iI o_q7)]) (Wp' := fun H => zs2 + 5 ≤ H.size ∧ va_at E.1 vwCl (sm, .inr (2, [.int (iI 100), .ref (s3 S2), .ref (s1 S2), .ref (s2 S2)])) H ∧ (SX E zc sm S2 sp (upI se1_q7 o_q7 (-1)) (o_q7 + 1)) H ∧ (CA E ad sp (upI se1_q7 o_q7 (-1)) al (o_q7 + 1) 100) H ∧ (vS scr sb) H) (r := (RX1, TX1, 9)) (q_addHeading l E hj J1_q7  (by omega)) (cwV 0 S.2.2.2.2 gL_build_X1_addHeading rfl rfl rfl (by decide +kernel) ⟨Nat.le_of_ble_eq_true rfl, Nat.le_of_ble_eq_true rfl⟩) rfl rfl rfl rfl (Nat.le_of_ble_eq_true rfl) ⟨show kc + 5 + 0 ≤ 38000 by omega, show ks + 100 + 0 ≤ 612000 by omega⟩ (fun q9 h9 => (hax q9 h9).1) (fun _ h => h.2.2.2.1.cx) (fun _ h => h.2.2.2.1) (fun _ _ h h2 hle hq => ⟨Nat.le_trans (Nat.le_of_eq h.1.symm) hle, h.2.1.kept (hq _ h.2.1.lt (fun w9_q7 => by have w8_q7 := hax _ w9_q7; omega)), h.2.2.1.far (fun q q1 q2 => hq q q1 (fun w9_q7 => by have w8_q7 := (hax q w9_q7).2; omega)), h2, h.2.2.2.2.kept (hq _ h.2.2.2.2.lt (fun w9_q7 => by have w8_q7 := hax _ w9_q7; omega))⟩) dL_build_35 ?_
        refine g_iload S dL_build_38 4 rfl ?_
        refine g_icmp_eq S (tgt := 45) dL_build_40 (by decide) (by omega) (fun c40_q7 => ?_) (fun c40_q7 => ?_)
        · skip
          refine g_iinc S (lv' := [(4, .int (iI (o_q7 + 1))), (0, .ref (ad 0)), (1, .ref (sb)), (2, .ref (sm)), (3, .int (iI nb_q7))]) dL_build_45 4 rfl (Nat.le_of_ble_eq_true rfl) rfl ?_
          refine g_goto S (tgt := 24) dL_build_48 (by decide) ?_
          refine g_lv [1, 2, 3, 4, 0] rfl ?_
          exact ihL24 (o_q7 + 1) nb_q7 S2 (upI se1_q7 o_q7 (-1)) (zs2 + 5) (kc + 5) (ks + 100) (by omega) (by omega) (jv_add J1_q7 (by omega)) (al2_add hal1_q7 (J1_q7.hre o_q7 (Int.le_refl _) (by omega)).2 hS2) (hT2) (by omega) (by omega) (by omega)
        · skip
          exact absurd c40_q7 (by omega)
  refine g_lv [3, 4, 2, 1, 0] rfl ?_
  refine g_w (Wp' := fun H => sm + 4 ≤ H.size ∧ va_at E.1 vwCl (sm, .inr (2, [.int (iI 100), .ref (s3 S1_q7), .ref (s1 S1_q7), .ref (s2 S1_q7)])) H ∧ (SX E zc sm S1_q7 sp se 0) H ∧ (CA E ad sp se al 0 100) H ∧ (vS scr sb) H) (fun _ h => ⟨Nat.le_of_eq h.1.symm, h.2⟩) ?_
  exact L24 (((2 + blw (cel sc L 0) 9) - 0) + 1).toNat 0 (2 + blw (cel sc L 0) 9) S1_q7 se (sm + 4) (0 + 1 + 3) (0 + 4 + 0) (by omega) (by omega) (J) (fun u u0 u1 => by omega) (hT0) (by omega) (by omega) (by omega)
