/-! IN THE END ALL IS AS BY HAND -/
noncomputable abbrev COM (sp : Int → SpT) (pg u o : Int) : Int := smI (fun r => pI (cov (sp u) (r + 1) ∧ cov (sp o) (r + 1))) pg.toNat
noncomputable abbrev TOG (sp : Int → SpT) (pg u o : Int) : Int := (spS (fun q => cov (sp u) q ∨ cov (sp o) q) 0 pg.toNat).1
abbrev FAR (se : Int → Int) (al : Int → Nat) (n u o : Int) : Int := fsS se al n o.toNat 24 (2 ^ u.toNat) 0
set_option maxHeartbeats 4000000 in
set_option maxRecDepth 100000 in
theorem m_X2_isSame (l : Launch) (E : EN) (z zb zc sm : Nat) {ad : Int → Nat} (hj : INJ ad) (hax : HZ ad zb zc) (SS : SA) {sp : Int → SpT} {se : Int → Int} {al : Int → Nat} {n pg : Int} (J : JV sp se al n pg) (hT : TG zc sm SS sp n) (hz : zb ≤ zc ∧ zc ≤ z ∧ sm < z) (hal : AL2 SS al n) : Met l yX2_isSame wsX2_isSame ({ frames := 4, cells := 73, slots := 1752, locals := 88 }) (CS E [.ref (sm), .ref (ad 0)] (fun H => H.size = z ∧ va_at E.1 vwCl (sm, .inr (2, [.int (iI pg), .ref (s3 SS), .ref (s1 SS), .ref (s2 SS)])) H ∧ (SX E zc sm SS sp se n) H ∧ (CA E ad sp se al n pg) H)) (QW (some (.int (iI 1))) (fun _ => True) (fun q0 => zb ≤ q0)) 73 1752 (fun q0 => zb ≤ q0) := by
  refine g_metS (cc := cX2_isSame) (maxL := 14) (ret := (some .boolean)) (lv := [(0, .ref (sm)), (1, .ref (ad 0))]) (by decide) rfl (Nat.le_of_ble_eq_true rfl) rfl ?_
  intro xp xe xs xm xa xb xh xc S xK xO xr xlk xin
  have kf19 := S.2.2.2.2 (.fieldLink RX2 19 "BookIndexLaw$Sim" "see" "[I") (by decide +kernel)
  have kaZ := S.2.2.2.2 (.arrayClass .boolean) (by decide +kernel)
  have kf7 := S.2.2.2.2 (.fieldLink RX2 7 "BookIndexLaw$Sim" "pages" "I") (by decide +kernel)
  have kf15 := S.2.2.2.2 (.fieldLink RX2 15 "BookIndexLaw$Sim" "spans" "[[[I") (by decide +kernel)
  have kf24 := S.2.2.2.2 (.fieldLink RX2 24 "BookIndexLaw$Sim" "also" "[[I") (by decide +kernel)
  have hin2_q7 : ∀ w ∈ wsX20, w ∈ wsX2_isSame := by decide +kernel
  have hn_q7 := J.hn
  have hpg_q7 := J.hpg
  have hsm_q7 := hT.sge
  refine g_ex (P := LTS z SS sp n) (fun _ h => SX.lts (FZ.mk h.1 h.2.2.1)) (fun hlt => ?_)
  refine g_aload_n S dX2_isSame_0 rfl 0 rfl ?_
  refine g_get S xK (ref := "BookIndexLaw$Sim") hin2_q7 2 (by decide) (show vwCl[2]? = some (RX2, TX2, 4) from rfl) kf19 (fun _ h9 => h9) (fun _ h => h.2.1) rfl dX2_isSame_1 ?_
  refine g_lenI S xK (n := n) (F := se) (fun _ h => h.2.2.1.a1) (by omega) dX2_isSame_4 ?_
  refine g_istore_n S (lv' := [(2, .int (iI n)), (0, .ref (sm)), (1, .ref (ad 0))]) dX2_isSame_5 rfl (Nat.le_of_ble_eq_true rfl) rfl ?_
  refine g_iconst S dX2_isSame_6 ?_
  refine g_istore_n S (lv' := [(3, .int (iI 0)), (2, .int (iI n)), (0, .ref (sm)), (1, .ref (ad 0))]) dX2_isSame_7 rfl (Nat.le_of_ble_eq_true rfl) rfl ?_
  refine g_iconst S dX2_isSame_8 ?_
  refine g_istore S (lv' := [(4, .int (iI 0)), (3, .int (iI 0)), (2, .int (iI n)), (0, .ref (sm)), (1, .ref (ad 0))]) dX2_isSame_9 (Nat.le_of_ble_eq_true rfl) rfl ?_
  refine g_iconst S dX2_isSame_11 ?_
  refine g_istore S (lv' := [(5, .int (iI 0)), (4, .int (iI 0)), (3, .int (iI 0)), (2, .int (iI n)), (0, .ref (sm)), (1, .ref (ad 0))]) dX2_isSame_12 (Nat.le_of_ble_eq_true rfl) rfl ?_
  refine g_iload_n S dX2_isSame_14 rfl 3 rfl ?_
  refine g_newZZ S xK (Wp' := fun H => H.size = z + 1 ∧ va_at E.1 vwCl (sm, .inr (2, [.int (iI pg), .ref (s3 SS), .ref (s1 SS), .ref (s2 SS)])) H ∧ (SX E zc sm SS sp se n) H ∧ (CA E ad sp se al n pg) H ∧ vZ E z n (fun _ => 0) H) (n := n) (a := z) kaZ (by omega) ⟨show 0 + 1 ≤ 73 by omega, show 0 + (n : Int).toNat ≤ 1752 by omega⟩ (fun _ h => h.1) (fun _ _ h hv_q7 z1 hq => ⟨z1, h.2.1.kept (hq _ (by have w9_q7 := h.2.1.lt; have y9_q7 := h.1; omega)), SX.lw _ _ h.2.2.1 (by have y9_q7 := h.1; omega) (fun q q1 => hq q (by have y9_q7 := h.1; omega)), CA.lw _ _ h.2.2.2 (by have y9_q7 := h.1; omega) (fun q q1 => hq q (by have y9_q7 := h.1; omega)), hv_q7⟩) dX2_isSame_15 ?_
  refine g_astore S (lv' := [(6, .ref (z)), (5, .int (iI 0)), (4, .int (iI 0)), (3, .int (iI 0)), (2, .int (iI n)), (0, .ref (sm)), (1, .ref (ad 0))]) dX2_isSame_17 (Nat.le_of_ble_eq_true rfl) rfl ?_
  refine g_iconst S dX2_isSame_19 ?_
  refine g_istore S (lv' := [(7, .int (iI 0)), (6, .ref (z)), (5, .int (iI 0)), (4, .int (iI 0)), (3, .int (iI 0)), (2, .int (iI n)), (0, .ref (sm)), (1, .ref (ad 0))]) dX2_isSame_20 (Nat.le_of_ble_eq_true rfl) rfl ?_
  have L22 : ∀ (nf : Nat) (o_q7 : Int) (vn_q7 : Int) (tt_q7 : Int) (ss_q7 : Int) (wf_q7 : Int → Int) (zz_q7 : Nat) (kc : Nat) (ks : Nat), (0 ≤ o_q7 ∧ o_q7 ≤ n) → (vn_q7 = smI (fun h => pI (se h ≠ -1 ∧ (eS se n.toNat h = -1 ∨ (sp (eS se n.toNat h)).1 = 0))) o_q7.toNat) → (tt_q7 = smI (fun i => PGS (sp i)) o_q7.toNat) → (ss_q7 = smI (fun i => pI (0 < PGS (sp i))) o_q7.toNat) → (TRU wf_q7 n (LED se al o_q7)) → (z + 1 ≤ zz_q7) → (kc ≤ 1 + 3 * o_q7.toNat ∧ ks ≤ 24 + 72 * o_q7.toNat) → (n - o_q7 < (nf : Int)) → G xp l xe ({ frames := 4, cells := 73, slots := 1752, locals := 88 }) xs xm xa xb xh xc 14 (fun q0 => zb ≤ q0) kc ks (MQ xb (QW (some (.int (iI 1))) (fun _ => True) (fun q0 => zb ≤ q0)) xa xs 73 1752 (fun q0 => zb ≤ q0)) 22 [(0, .ref (sm)), (1, .ref (ad 0)), (2, .int (iI n)), (3, .int (iI vn_q7)), (4, .int (iI tt_q7)), (5, .int (iI ss_q7)), (6, .ref (z)), (7, .int (iI o_q7))] [] (fun H => zz_q7 ≤ H.size ∧ va_at E.1 vwCl (sm, .inr (2, [.int (iI pg), .ref (s3 SS), .ref (s1 SS), .ref (s2 SS)])) H ∧ (SX E zc sm SS sp se n) H ∧ (CA E ad sp se al n pg) H ∧ vZ E z n wf_q7 H) := by
    intro nf
    induction nf with
    | zero =>
      intro o_q7 vn_q7 tt_q7 ss_q7 wf_q7 zz_q7 kc ks ho_q7 hvn_q7 htt_q7 hss_q7 htr_q7 hzz_q7 hkc_q7 hmf
      exfalso
      omega
    | succ nf ihL22 =>
      intro o_q7 vn_q7 tt_q7 ss_q7 wf_q7 zz_q7 kc ks ho_q7 hvn_q7 htt_q7 hss_q7 htr_q7 hzz_q7 hkc_q7 hmf
      refine g_iload S dX2_isSame_22 7 rfl ?_
      refine g_iload_n S dX2_isSame_24 rfl 2 rfl ?_
      refine g_icmp_ge S (tgt := 306) dX2_isSame_25 (by decide) (by omega) (fun c25_q7 => ?_) (fun c25_q7 => ?_)
      · skip
        have eo_q7 : n = o_q7 := by omega
        subst eo_q7
        refine g_iconst S dX2_isSame_306 ?_
        refine g_istore S (lv' := [(7, .int (iI 0)), (0, .ref (sm)), (1, .ref (ad 0)), (2, .int (iI n)), (3, .int (iI vn_q7)), (4, .int (iI tt_q7)), (5, .int (iI ss_q7)), (6, .ref (z))]) dX2_isSame_307 (Nat.le_of_ble_eq_true rfl) rfl ?_
        refine g_aload_n S dX2_isSame_309 rfl 1 rfl ?_
        refine g_get S xK (ref := "BookIndexLaw$Sim") hin2_q7 0 (by decide) (show vwCl[2]? = some (RX2, TX2, 4) from rfl) kf7 (fun _ h9 => h9) (fun _ h => h.2.1) rfl dX2_isSame_310 ?_
        refine g_istore S (lv' := [(8, .int (iI pg)), (7, .int (iI 0)), (0, .ref (sm)), (1, .ref (ad 0)), (2, .int (iI n)), (3, .int (iI vn_q7)), (4, .int (iI tt_q7)), (5, .int (iI ss_q7)), (6, .ref (z))]) dX2_isSame_313 (Nat.le_of_ble_eq_true rfl) rfl ?_
        refine g_aload_n S dX2_isSame_315 rfl 2 rfl ?_
        refine g_get S xK (ref := "BookIndexLaw$Sim") hin2_q7 0 (by decide) (show vwCl[2]? = some (RX2, TX2, 4) from rfl) kf7 (fun _ h9 => h9) (fun _ h => h.2.1) rfl dX2_isSame_316 ?_
        refine g_istore S (lv' := [(9, .int (iI pg)), (8, .int (iI pg)), (7, .int (iI 0)), (0, .ref (sm)), (1, .ref (ad 0)), (2, .int (iI n)), (3, .int (iI vn_q7)), (4, .int (iI tt_q7)), (5, .int (iI ss_q7)), (6, .ref (z))]) dX2_isSame_319 (Nat.le_of_ble_eq_true rfl) rfl ?_
        have L321 : ∀ (nf : Nat) (bb_q7 : Int) (ff_q7 : Int) (pv_q7 : Int) (zz_q7 : Nat) (kc : Nat) (ks : Nat), (0 ≤ pv_q7 ∧ pv_q7 ≤ pg) → (bb_q7 + smI (fun k => pI (CHN sp n (k + 1) = 0)) pv_q7.toNat = BARE sp n pg) → (FLP (CHN sp n) pg pv_q7 ff_q7) → (z + 1 ≤ zz_q7) → (kc ≤ 73 ∧ ks ≤ 1752) → (pv_q7 < (nf : Int)) → G xp l xe ({ frames := 4, cells := 73, slots := 1752, locals := 88 }) xs xm xa xb xh xc 14 (fun q0 => zb ≤ q0) kc ks (MQ xb (QW (some (.int (iI 1))) (fun _ => True) (fun q0 => zb ≤ q0)) xa xs 73 1752 (fun q0 => zb ≤ q0)) 321 [(0, .ref (sm)), (1, .ref (ad 0)), (2, .int (iI n)), (3, .int (iI vn_q7)), (4, .int (iI tt_q7)), (5, .int (iI ss_q7)), (6, .ref (z)), (7, .int (iI bb_q7)), (8, .int (iI ff_q7)), (9, .int (iI pv_q7))] [] (fun H => zz_q7 ≤ H.size ∧ va_at E.1 vwCl (sm, .inr (2, [.int (iI pg), .ref (s3 SS), .ref (s1 SS), .ref (s2 SS)])) H ∧ (SX E zc sm SS sp se n) H ∧ (CA E ad sp se al n pg) H ∧ vZ E z n wf_q7 H) := by
          intro nf
          induction nf with
          | zero =>
            intro bb_q7 ff_q7 pv_q7 zz_q7 kc ks hp_q7 hbb_q7 hfl_q7 hz9_q7 hk9_q7 hmf
            exfalso
            omega
          | succ nf ihL321 =>
            intro bb_q7 ff_q7 pv_q7 zz_q7 kc ks hp_q7 hbb_q7 hfl_q7 hz9_q7 hk9_q7 hmf
            refine g_iload S dX2_isSame_321 9 rfl ?_
            refine g_if_le S (tgt := 395) dX2_isSame_323 (by decide) (by omega) (fun c323_q7 => ?_) (fun c323_q7 => ?_)
            · skip
              refine g_iconst S dX2_isSame_395 ?_
              refine g_istore S (lv' := [(9, .int (iI 0)), (0, .ref (sm)), (1, .ref (ad 0)), (2, .int (iI n)), (3, .int (iI vn_q7)), (4, .int (iI tt_q7)), (5, .int (iI ss_q7)), (6, .ref (z)), (7, .int (iI bb_q7)), (8, .int (iI ff_q7))]) dX2_isSame_396 (Nat.le_of_ble_eq_true rfl) rfl ?_
              refine g_iconst S dX2_isSame_398 ?_
              refine g_istore S (lv' := [(10, .int (iI 0)), (9, .int (iI 0)), (0, .ref (sm)), (1, .ref (ad 0)), (2, .int (iI n)), (3, .int (iI vn_q7)), (4, .int (iI tt_q7)), (5, .int (iI ss_q7)), (6, .ref (z)), (7, .int (iI bb_q7)), (8, .int (iI ff_q7))]) dX2_isSame_399 (Nat.le_of_ble_eq_true rfl) rfl ?_
              have L401 : ∀ (nf : Nat) (uu_q7 : Int) (iv_q7 : Int) (zz_q7 : Nat) (kc : Nat) (ks : Nat), (0 ≤ iv_q7 ∧ iv_q7 ≤ n) → (uu_q7 = smI (fun i => pI (¬ wf_q7 i = 1)) iv_q7.toNat) → (z + 1 ≤ zz_q7) → (kc ≤ 73 ∧ ks ≤ 1752) → (n - iv_q7 < (nf : Int)) → G xp l xe ({ frames := 4, cells := 73, slots := 1752, locals := 88 }) xs xm xa xb xh xc 14 (fun q0 => zb ≤ q0) kc ks (MQ xb (QW (some (.int (iI 1))) (fun _ => True) (fun q0 => zb ≤ q0)) xa xs 73 1752 (fun q0 => zb ≤ q0)) 401 [(0, .ref (sm)), (1, .ref (ad 0)), (2, .int (iI n)), (3, .int (iI vn_q7)), (4, .int (iI tt_q7)), (5, .int (iI ss_q7)), (6, .ref (z)), (7, .int (iI bb_q7)), (8, .int (iI ff_q7)), (9, .int (iI uu_q7)), (10, .int (iI iv_q7))] [] (fun H => zz_q7 ≤ H.size ∧ va_at E.1 vwCl (sm, .inr (2, [.int (iI pg), .ref (s3 SS), .ref (s1 SS), .ref (s2 SS)])) H ∧ (SX E zc sm SS sp se n) H ∧ (CA E ad sp se al n pg) H ∧ vZ E z n wf_q7 H) := by
                intro nf
                induction nf with
                | zero =>
                  intro uu_q7 iv_q7 zz_q7 kc ks hi_q7 huu_q7 hzb_q7 hkb_q7 hmf
                  exfalso
                  omega
                | succ nf ihL401 =>
                  intro uu_q7 iv_q7 zz_q7 kc ks hi_q7 huu_q7 hzb_q7 hkb_q7 hmf
                  refine g_iload S dX2_isSame_401 10 rfl ?_
                  refine g_iload_n S dX2_isSame_403 rfl 2 rfl ?_
                  refine g_icmp_ge S (tgt := 431) dX2_isSame_404 (by decide) (by omega) (fun c404_q7 => ?_) (fun c404_q7 => ?_)
                  · skip
                    have ei_q7 : n = iv_q7 := by omega
                    subst ei_q7
                    have ep_q7 : pv_q7 = 0 := by omega
                    subst ep_q7
                    have hB_q7 : BARE sp n pg = bb_q7 := by rw [← hbb_q7]; show bb_q7 + 0 = bb_q7; omega
                    have hFu_q7 : FULL sp n pg = ff_q7 := (flp_e hfl_q7 hpg_q7.1).symm
                    have hVa_q7 : VAIN sp se n = vn_q7 := hvn_q7.symm
                    have hUn_q7 : UNL se al n = uu_q7 := by rw [huu_q7]; exact (unl_eq J.hgr hn_q7 htr_q7.2).symm
                    have hrB_q7 := smI_01 (f := fun k => pI (CHN sp n (k + 1) = 0)) (z := pg) (by omega) (fun _ _ _ => pI_b _)
                    have hrV_q7 := smI_01 (f := fun h => pI (se h ≠ -1 ∧ (eS se n.toNat h = -1 ∨ (sp (eS se n.toNat h)).1 = 0))) (z := n) hn_q7.1 (fun _ _ _ => pI_b _)
                    have hrU_q7 := smI_01 (f := fun i => pI (¬ wf_q7 i = 1)) (z := n) hn_q7.1 (fun _ _ _ => pI_b _)
                    have hrF_q7 := hfl_q7.1
                    have hrB_q7 : 0 ≤ BARE sp n pg ∧ BARE sp n pg ≤ pg := hrB_q7
                    have hrV_q7 : 0 ≤ VAIN sp se n ∧ VAIN sp se n ≤ n := hrV_q7
                    rw [← huu_q7] at hrU_q7
                    refine g_aload_n S dX2_isSame_431 rfl 1 rfl ?_
                    refine g_callV S xK (As := []) (st := []) (stk' := [.int (iI pg)]) (Wp' := fun H => zz_q7 ≤ H.size ∧ va_at E.1 vwCl (sm, .inr (2, [.int (iI pg), .ref (s3 SS), .ref (s1 SS), .ref (s2 SS)])) H ∧ (SX E zc sm SS sp se n) H ∧ (CA E ad sp se al n pg) H ∧ vZ E z n wf_q7 H) (r := (RX1, TX1, 9)) (q_bookPages l E hj J  ) (cwV 0 S.2.2.2.2 gX2_isSame_X1_bookPages rfl rfl rfl (by decide +kernel) ⟨Nat.le_of_ble_eq_true rfl, Nat.le_of_ble_eq_true rfl⟩) rfl rfl rfl rfl (Nat.le_of_ble_eq_true rfl) ⟨show kc + 0 ≤ 73 by omega, show ks + 0 ≤ 1752 by omega⟩ (fun q9 h9 => (hax q9 h9).1) (fun _ h => h.2.2.2.1.cx) (fun _ h => h.2.2.2.1) (fun _ _ h h2 hle hq => ⟨Nat.le_trans h.1 hle, h.2.1.kept (hq _ h.2.1.lt (fun w9_q7 => by have w8_q7 := (hax _ w9_q7).2; omega)), h.2.2.1.far (fun q q1 q2 => hq q q1 (fun w9_q7 => by have w8_q7 := (hax q w9_q7).2; omega)), h2, h.2.2.2.2.kept (hq _ h.2.2.2.2.lt (fun w9_q7 => by have w8_q7 := (hax _ w9_q7).2; omega))⟩) dX2_isSame_432 ?_
                    refine g_aload_n S dX2_isSame_435 rfl 0 rfl ?_
                    refine g_get S xK (ref := "BookIndexLaw$Sim") hin2_q7 0 (by decide) (show vwCl[2]? = some (RX2, TX2, 4) from rfl) kf7 (fun _ h9 => h9) (fun _ h => h.2.1) rfl dX2_isSame_436 ?_
                    refine g_icmp_ne S (tgt := 513) dX2_isSame_439 (by decide) (by omega) (fun c439_q7 => ?_) (fun c439_q7 => ?_)
                    · skip
                      exact absurd c439_q7 (by omega)
                    · skip
                      refine g_aload_n S dX2_isSame_442 rfl 1 rfl ?_
                      refine g_callV S xK (As := []) (st := []) (stk' := [.int (iI n)]) (Wp' := fun H => zz_q7 ≤ H.size ∧ va_at E.1 vwCl (sm, .inr (2, [.int (iI pg), .ref (s3 SS), .ref (s1 SS), .ref (s2 SS)])) H ∧ (SX E zc sm SS sp se n) H ∧ (CA E ad sp se al n pg) H ∧ vZ E z n wf_q7 H) (r := (RX1, TX1, 9)) (q_headings l E hj J  ) (cwV 0 S.2.2.2.2 gX2_isSame_X1_headings rfl rfl rfl (by decide +kernel) ⟨Nat.le_of_ble_eq_true rfl, Nat.le_of_ble_eq_true rfl⟩) rfl rfl rfl rfl (Nat.le_of_ble_eq_true rfl) ⟨show kc + 0 ≤ 73 by omega, show ks + 0 ≤ 1752 by omega⟩ (fun q9 h9 => (hax q9 h9).1) (fun _ h => h.2.2.2.1.cx) (fun _ h => h.2.2.2.1) (fun _ _ h h2 hle hq => ⟨Nat.le_trans h.1 hle, h.2.1.kept (hq _ h.2.1.lt (fun w9_q7 => by have w8_q7 := (hax _ w9_q7).2; omega)), h.2.2.1.far (fun q q1 q2 => hq q q1 (fun w9_q7 => by have w8_q7 := (hax q w9_q7).2; omega)), h2, h.2.2.2.2.kept (hq _ h.2.2.2.2.lt (fun w9_q7 => by have w8_q7 := (hax _ w9_q7).2; omega))⟩) dX2_isSame_443 ?_
                      refine g_iload_n S dX2_isSame_446 rfl 2 rfl ?_
                      refine g_icmp_ne S (tgt := 513) dX2_isSame_447 (by decide) (by omega) (fun c447_q7 => ?_) (fun c447_q7 => ?_)
                      · skip
                        exact absurd c447_q7 (by omega)
                      · skip
                        refine g_aload_n S dX2_isSame_450 rfl 1 rfl ?_
                        refine g_callV S xK (As := []) (st := []) (stk' := [.int (iI (BARE sp n pg))]) (Wp' := fun H => zz_q7 ≤ H.size ∧ va_at E.1 vwCl (sm, .inr (2, [.int (iI pg), .ref (s3 SS), .ref (s1 SS), .ref (s2 SS)])) H ∧ (SX E zc sm SS sp se n) H ∧ (CA E ad sp se al n pg) H ∧ vZ E z n wf_q7 H) (r := (RX1, TX1, 9)) (q_barePages l E hj J  ) (cwV 0 S.2.2.2.2 gX2_isSame_X1_barePages rfl rfl rfl (by decide +kernel) ⟨Nat.le_of_ble_eq_true rfl, Nat.le_of_ble_eq_true rfl⟩) rfl rfl rfl rfl (Nat.le_of_ble_eq_true rfl) ⟨show kc + 0 ≤ 73 by omega, show ks + 0 ≤ 1752 by omega⟩ (fun q9 h9 => (hax q9 h9).1) (fun _ h => h.2.2.2.1.cx) (fun _ h => h.2.2.2.1) (fun _ _ h h2 hle hq => ⟨Nat.le_trans h.1 hle, h.2.1.kept (hq _ h.2.1.lt (fun w9_q7 => by have w8_q7 := (hax _ w9_q7).2; omega)), h.2.2.1.far (fun q q1 q2 => hq q q1 (fun w9_q7 => by have w8_q7 := (hax q w9_q7).2; omega)), h2, h.2.2.2.2.kept (hq _ h.2.2.2.2.lt (fun w9_q7 => by have w8_q7 := (hax _ w9_q7).2; omega))⟩) dX2_isSame_451 ?_
                        refine g_iload S dX2_isSame_454 7 rfl ?_
                        refine g_icmp_ne S (tgt := 513) dX2_isSame_456 (by decide) (by omega) (fun c456_q7 => ?_) (fun c456_q7 => ?_)
                        · skip
                          exact absurd c456_q7 (by omega)
                        · skip
                          refine g_aload_n S dX2_isSame_459 rfl 1 rfl ?_
                          refine g_callV S xK (As := []) (st := []) (stk' := [.int (iI (FULL sp n pg))]) (Wp' := fun H => zz_q7 ≤ H.size ∧ va_at E.1 vwCl (sm, .inr (2, [.int (iI pg), .ref (s3 SS), .ref (s1 SS), .ref (s2 SS)])) H ∧ (SX E zc sm SS sp se n) H ∧ (CA E ad sp se al n pg) H ∧ vZ E z n wf_q7 H) (r := (RX1, TX1, 9)) (q_fullestPage l E hj J  ) (cwV 0 S.2.2.2.2 gX2_isSame_X1_fullestPage rfl rfl rfl (by decide +kernel) ⟨Nat.le_of_ble_eq_true rfl, Nat.le_of_ble_eq_true rfl⟩) rfl rfl rfl rfl (Nat.le_of_ble_eq_true rfl) ⟨show kc + 0 ≤ 73 by omega, show ks + 0 ≤ 1752 by omega⟩ (fun q9 h9 => (hax q9 h9).1) (fun _ h => h.2.2.2.1.cx) (fun _ h => h.2.2.2.1) (fun _ _ h h2 hle hq => ⟨Nat.le_trans h.1 hle, h.2.1.kept (hq _ h.2.1.lt (fun w9_q7 => by have w8_q7 := (hax _ w9_q7).2; omega)), h.2.2.1.far (fun q q1 q2 => hq q q1 (fun w9_q7 => by have w8_q7 := (hax q w9_q7).2; omega)), h2, h.2.2.2.2.kept (hq _ h.2.2.2.2.lt (fun w9_q7 => by have w8_q7 := (hax _ w9_q7).2; omega))⟩) dX2_isSame_460 ?_
                          refine g_iload S dX2_isSame_463 8 rfl ?_
                          refine g_icmp_ne S (tgt := 513) dX2_isSame_465 (by decide) (by omega) (fun c465_q7 => ?_) (fun c465_q7 => ?_)
                          · skip
                            exact absurd c465_q7 (by omega)
                          · skip
                            refine g_aload_n S dX2_isSame_468 rfl 1 rfl ?_
                            refine g_callV S xK (As := []) (st := []) (stk' := [.int (iI (VAIN sp se n))]) (Wp' := fun H => zz_q7 ≤ H.size ∧ va_at E.1 vwCl (sm, .inr (2, [.int (iI pg), .ref (s3 SS), .ref (s1 SS), .ref (s2 SS)])) H ∧ (SX E zc sm SS sp se n) H ∧ (CA E ad sp se al n pg) H ∧ vZ E z n wf_q7 H) (r := (RX1, TX1, 9)) (q_vainSees l E hj J  ) (cwV 0 S.2.2.2.2 gX2_isSame_X1_vainSees rfl rfl rfl (by decide +kernel) ⟨Nat.le_of_ble_eq_true rfl, Nat.le_of_ble_eq_true rfl⟩) rfl rfl rfl rfl (Nat.le_of_ble_eq_true rfl) ⟨show kc + 0 ≤ 73 by omega, show ks + 0 ≤ 1752 by omega⟩ (fun q9 h9 => (hax q9 h9).1) (fun _ h => h.2.2.2.1.cx) (fun _ h => h.2.2.2.1) (fun _ _ h h2 hle hq => ⟨Nat.le_trans h.1 hle, h.2.1.kept (hq _ h.2.1.lt (fun w9_q7 => by have w8_q7 := (hax _ w9_q7).2; omega)), h.2.2.1.far (fun q q1 q2 => hq q q1 (fun w9_q7 => by have w8_q7 := (hax q w9_q7).2; omega)), h2, h.2.2.2.2.kept (hq _ h.2.2.2.2.lt (fun w9_q7 => by have w8_q7 := (hax _ w9_q7).2; omega))⟩) dX2_isSame_469 ?_
                            refine g_iload_n S dX2_isSame_472 rfl 3 rfl ?_
                            refine g_icmp_ne S (tgt := 513) dX2_isSame_473 (by decide) (by omega) (fun c473_q7 => ?_) (fun c473_q7 => ?_)
                            · skip
                              exact absurd c473_q7 (by omega)
                            · skip
                              refine g_aload_n S dX2_isSame_476 rfl 1 rfl ?_
                              refine g_callV S xK (As := []) (st := []) (stk' := [.int (iI (UNL se al n))]) (Wp' := fun H => zz_q7 ≤ H.size ∧ va_at E.1 vwCl (sm, .inr (2, [.int (iI pg), .ref (s3 SS), .ref (s1 SS), .ref (s2 SS)])) H ∧ (SX E zc sm SS sp se n) H ∧ (CA E ad sp se al n pg) H ∧ vZ E z n wf_q7 H) (r := (RX1, TX1, 9)) (q_unled l E hj J  ) (cwV 0 S.2.2.2.2 gX2_isSame_X1_unled rfl rfl rfl (by decide +kernel) ⟨Nat.le_of_ble_eq_true rfl, Nat.le_of_ble_eq_true rfl⟩) rfl rfl rfl rfl (Nat.le_of_ble_eq_true rfl) ⟨show kc + 0 ≤ 73 by omega, show ks + 0 ≤ 1752 by omega⟩ (fun q9 h9 => (hax q9 h9).1) (fun _ h => h.2.2.2.1.cx) (fun _ h => h.2.2.2.1) (fun _ _ h h2 hle hq => ⟨Nat.le_trans h.1 hle, h.2.1.kept (hq _ h.2.1.lt (fun w9_q7 => by have w8_q7 := (hax _ w9_q7).2; omega)), h.2.2.1.far (fun q q1 q2 => hq q q1 (fun w9_q7 => by have w8_q7 := (hax q w9_q7).2; omega)), h2, h.2.2.2.2.kept (hq _ h.2.2.2.2.lt (fun w9_q7 => by have w8_q7 := (hax _ w9_q7).2; omega))⟩) dX2_isSame_477 ?_
                              refine g_iload S dX2_isSame_480 9 rfl ?_
                              refine g_icmp_ne S (tgt := 513) dX2_isSame_482 (by decide) (by omega) (fun c482_q7 => ?_) (fun c482_q7 => ?_)
                              · skip
                                exact absurd c482_q7 (by omega)
                              · skip
                                refine g_aload_n S dX2_isSame_485 rfl 1 rfl ?_
                                refine g_callV S xK (As := []) (st := []) (stk' := [.double (MEANV sp n)]) (Wp' := fun H => zz_q7 ≤ H.size ∧ va_at E.1 vwCl (sm, .inr (2, [.int (iI pg), .ref (s3 SS), .ref (s1 SS), .ref (s2 SS)])) H ∧ (SX E zc sm SS sp se n) H ∧ (CA E ad sp se al n pg) H ∧ vZ E z n wf_q7 H) (r := (RX1, TX1, 9)) (q_meanPages l E hj J  ) (cwV 0 S.2.2.2.2 gX2_isSame_X1_meanPages rfl rfl rfl (by decide +kernel) ⟨Nat.le_of_ble_eq_true rfl, Nat.le_of_ble_eq_true rfl⟩) rfl rfl rfl rfl (Nat.le_of_ble_eq_true rfl) ⟨show kc + 0 ≤ 73 by omega, show ks + 0 ≤ 1752 by omega⟩ (fun q9 h9 => (hax q9 h9).1) (fun _ h => h.2.2.2.1.cx) (fun _ h => h.2.2.2.1) (fun _ _ h h2 hle hq => ⟨Nat.le_trans h.1 hle, h.2.1.kept (hq _ h.2.1.lt (fun w9_q7 => by have w8_q7 := (hax _ w9_q7).2; omega)), h.2.2.1.far (fun q q1 q2 => hq q q1 (fun w9_q7 => by have w8_q7 := (hax q w9_q7).2; omega)), h2, h.2.2.2.2.kept (hq _ h.2.2.2.2.lt (fun w9_q7 => by have w8_q7 := (hax _ w9_q7).2; omega))⟩) dX2_isSame_486 ?_
                                refine g_iload S dX2_isSame_489 5 rfl ?_
                                have rss_q7 := smI_01 (f := fun i => pI (0 < PGS (sp i))) (z := n) hn_q7.1 (fun _ _ _ => pI_b _)
                                rw [← hss_q7] at rss_q7
                                refine g_if_ne S (tgt := 498) dX2_isSame_491 (by decide) (by omega) (fun c491_q7 => ?_) (fun c491_q7 => ?_)
                                · skip
                                  refine g_iload S dX2_isSame_498 4 rfl ?_
                                  refine g_i2d S dX2_isSame_500 ?_
                                  refine g_iload S dX2_isSame_501 5 rfl ?_
                                  refine g_i2d S dX2_isSame_503 ?_
                                  refine g_ddivX S (dd_num (by rw [← iI_0]; exact fun w9_q7 => c491_q7 ((iI_eq (by have := smI_01 (f := fun i => pI (0 < PGS (sp i))) (z := n) hn_q7.1 (fun _ _ _ => pI_b _); omega)).mp w9_q7))) dX2_isSame_504 ?_
                                  have hss2_q7 : ss_q7 = CNTP sp n := hss_q7
                                  have htt2_q7 : tt_q7 = SUMP sp n := htt_q7
                                  have hME_q7 : MEANV sp n = FP.ddiv (FP.i2d ((iI tt_q7))) (FP.i2d ((iI ss_q7))) := by unfold MEANV; rw [if_neg (by rw [← hss2_q7]; omega), ← hss2_q7, ← htt2_q7]
                                  have hMC_q7 := mean_cmp (sp := sp) hn_q7
                                  rw [hME_q7] at hMC_q7
                                  refine g_dcmpE S hME_q7 hMC_q7 dX2_isSame_505 ?_
                                  refine g_if_ne S (tgt := 513) dX2_isSame_506 (by decide) (by omega) (fun c506_q7 => ?_) (fun c506_q7 => ?_)
                                  · skip
                                    exact absurd c506_q7 (by decide)
                                  · skip
                                    refine g_iconst S dX2_isSame_509 ?_
                                    refine g_goto S (tgt := 514) dX2_isSame_510 (by decide) ?_
                                    refine g_wid (k := 73) (n := 1752) (by omega) (by omega) ?_
                                    exact g_zret S xr xlk (Or.inr rfl) dX2_isSame_514 (fun _ _ => trivial)
                                · skip
                                  refine g_dconst0 S dX2_isSame_494 ?_
                                  refine g_goto S (tgt := 505) dX2_isSame_495 (by decide) ?_
                                  have hss2_q7 : ss_q7 = CNTP sp n := hss_q7
                                  have htt2_q7 : tt_q7 = SUMP sp n := htt_q7
                                  have hME_q7 : MEANV sp n = 0 := by unfold MEANV; rw [if_pos (by rw [← hss2_q7]; omega)]
                                  have hMC_q7 := mean_cmp (sp := sp) hn_q7
                                  rw [hME_q7] at hMC_q7
                                  refine g_dcmpE S hME_q7 hMC_q7 dX2_isSame_505 ?_
                                  refine g_if_ne S (tgt := 513) dX2_isSame_506 (by decide) (by omega) (fun c506_q7 => ?_) (fun c506_q7 => ?_)
                                  · skip
                                    exact absurd c506_q7 (by decide)
                                  · skip
                                    refine g_iconst S dX2_isSame_509 ?_
                                    refine g_goto S (tgt := 514) dX2_isSame_510 (by decide) ?_
                                    refine g_wid (k := 73) (n := 1752) (by omega) (by omega) ?_
                                    exact g_zret S xr xlk (Or.inr rfl) dX2_isSame_514 (fun _ _ => trivial)
                  · skip
                    have h01_q7 := htr_q7.1 iv_q7
                    have L422 : ∀ (v4_q7 : Int) (zz_q7 : Nat) (kc : Nat) (ks : Nat), (v4_q7 = pI (¬ wf_q7 iv_q7 = 1)) → (z + 1 ≤ zz_q7) → (kc ≤ 73 ∧ ks ≤ 1752) → G xp l xe ({ frames := 4, cells := 73, slots := 1752, locals := 88 }) xs xm xa xb xh xc 14 (fun q0 => zb ≤ q0) kc ks (MQ xb (QW (some (.int (iI 1))) (fun _ => True) (fun q0 => zb ≤ q0)) xa xs 73 1752 (fun q0 => zb ≤ q0)) 422 [(0, .ref (sm)), (1, .ref (ad 0)), (2, .int (iI n)), (3, .int (iI vn_q7)), (4, .int (iI tt_q7)), (5, .int (iI ss_q7)), (6, .ref (z)), (7, .int (iI bb_q7)), (8, .int (iI ff_q7)), (10, .int (iI iv_q7))] [.int (iI v4_q7), .int (iI uu_q7)] (fun H => zz_q7 ≤ H.size ∧ va_at E.1 vwCl (sm, .inr (2, [.int (iI pg), .ref (s3 SS), .ref (s1 SS), .ref (s2 SS)])) H ∧ (SX E zc sm SS sp se n) H ∧ (CA E ad sp se al n pg) H ∧ vZ E z n wf_q7 H) := by
                      intro v4_q7 zz_q7 kc ks hv4_q7 hza_q7 hka_q7
                      refine g_iadd S dX2_isSame_422 ?_
                      refine g_istore S (lv' := [(9, .int (iI (uu_q7 + v4_q7))), (0, .ref (sm)), (1, .ref (ad 0)), (2, .int (iI n)), (3, .int (iI vn_q7)), (4, .int (iI tt_q7)), (5, .int (iI ss_q7)), (6, .ref (z)), (7, .int (iI bb_q7)), (8, .int (iI ff_q7)), (10, .int (iI iv_q7))]) dX2_isSame_423 (Nat.le_of_ble_eq_true rfl) rfl ?_
                      refine g_iinc S (lv' := [(10, .int (iI (iv_q7 + 1))), (9, .int (iI (uu_q7 + v4_q7))), (0, .ref (sm)), (1, .ref (ad 0)), (2, .int (iI n)), (3, .int (iI vn_q7)), (4, .int (iI tt_q7)), (5, .int (iI ss_q7)), (6, .ref (z)), (7, .int (iI bb_q7)), (8, .int (iI ff_q7))]) dX2_isSame_425 10 rfl (Nat.le_of_ble_eq_true rfl) rfl ?_
                      refine g_goto S (tgt := 401) dX2_isSame_428 (by decide) ?_
                      refine g_lv [2, 3, 4, 5, 6, 7, 8, 9, 10, 1, 0] rfl ?_
                      exact ihL401 (uu_q7 + v4_q7) (iv_q7 + 1) zz_q7 kc ks (by omega) (by rw [smI_s _ hi_q7.1, ← huu_q7, hv4_q7]) (by omega) (by omega) (by omega)
                    refine g_iload S dX2_isSame_407 9 rfl ?_
                    refine g_aload S dX2_isSame_409 6 rfl ?_
                    refine g_iload S dX2_isSame_411 10 rfl ?_
                    refine g_zald S xK (n := (n : Int).toNat) (F := wf_q7) (fun _ h => h.2.2.2.2) (by omega) (by omega) dX2_isSame_413 ?_
                    refine g_if_eq S (tgt := 421) dX2_isSame_414 (by decide) (by omega) (fun c414_q7 => ?_) (fun c414_q7 => ?_)
                    · skip
                      refine g_iconst S dX2_isSame_421 ?_
                      refine g_lv [0, 1, 2, 3, 4, 5, 6, 7, 8, 10] rfl ?_
                      exact L422 1 zz_q7 kc ks ((pI_t (by omega)).symm) (by omega) (by omega)
                    · skip
                      refine g_iconst S dX2_isSame_417 ?_
                      refine g_goto S (tgt := 422) dX2_isSame_418 (by decide) ?_
                      refine g_lv [0, 1, 2, 3, 4, 5, 6, 7, 8, 10] rfl ?_
                      exact L422 0 zz_q7 kc ks ((pI_f (by omega)).symm) (by omega) (by omega)
              refine g_lv [2, 3, 4, 5, 6, 7, 8, 9, 10, 1, 0] rfl ?_
              exact L401 ((n - 0) + 1).toNat 0 0 zz_q7 kc ks (by omega) (rfl) (by omega) (by omega) (by omega)
            · skip
              have hcb_q7 := CHN_b sp pv_q7 hn_q7.1
              have hcf_q7 := CHN_b sp ff_q7 hn_q7.1
              have hff_q7 := hfl_q7.1
              refine g_aload_n S dX2_isSame_326 rfl 0 rfl ?_
              refine g_iload S dX2_isSame_327 9 rfl ?_
              refine g_callV S xK (As := [.int (iI pv_q7)]) (st := []) (stk' := [.int (iI (CHN sp n pv_q7))]) (Wp' := fun H => zz_q7 ≤ H.size ∧ va_at E.1 vwCl (sm, .inr (2, [.int (iI pg), .ref (s3 SS), .ref (s1 SS), .ref (s2 SS)])) H ∧ (SX E zc sm SS sp se n) H ∧ (CA E ad sp se al n pg) H ∧ vZ E z n wf_q7 H) (r := (RX2, TX2, 4)) (m_X2_onPage l E (Wp := fun H => zz_q7 ≤ H.size ∧ va_at E.1 vwCl (sm, .inr (2, [.int (iI pg), .ref (s3 SS), .ref (s1 SS), .ref (s2 SS)])) H ∧ (SX E zc sm SS sp se n) H ∧ (CA E ad sp se al n pg) H ∧ vZ E z n wf_q7 H) zc sm SS sp se n pg pv_q7 (fun _ h => h.2.1) (fun _ h => h.2.2.1) J.hn J.hpg J.hsp (by omega)) (cwV 1 S.2.2.2.2 gX2_isSame_X2_onPage rfl rfl rfl (by decide +kernel) ⟨Nat.le_of_ble_eq_true rfl, Nat.le_of_ble_eq_true rfl⟩) rfl rfl rfl rfl (Nat.le_of_ble_eq_true rfl) ⟨show kc + 0 ≤ 73 by omega, show ks + 0 ≤ 1752 by omega⟩ (fun _ q => q.elim) (fun _ h => h.2.1) (fun _ h => h) (fun _ _ _ h _ _ => h) dX2_isSame_329 ?_
              refine g_istore S (lv' := [(10, .int (iI (CHN sp n pv_q7))), (0, .ref (sm)), (1, .ref (ad 0)), (2, .int (iI n)), (3, .int (iI vn_q7)), (4, .int (iI tt_q7)), (5, .int (iI ss_q7)), (6, .ref (z)), (7, .int (iI bb_q7)), (8, .int (iI ff_q7)), (9, .int (iI pv_q7))]) dX2_isSame_332 (Nat.le_of_ble_eq_true rfl) rfl ?_
              have L346 : ∀ (v3_q7 : Int) (zz_q7 : Nat) (kc : Nat) (ks : Nat), (v3_q7 = pI (CHN sp n pv_q7 = 0)) → (z + 1 ≤ zz_q7) → (kc ≤ 73 ∧ ks ≤ 1752) → G xp l xe ({ frames := 4, cells := 73, slots := 1752, locals := 88 }) xs xm xa xb xh xc 14 (fun q0 => zb ≤ q0) kc ks (MQ xb (QW (some (.int (iI 1))) (fun _ => True) (fun q0 => zb ≤ q0)) xa xs 73 1752 (fun q0 => zb ≤ q0)) 346 [(0, .ref (sm)), (1, .ref (ad 0)), (2, .int (iI n)), (3, .int (iI vn_q7)), (4, .int (iI tt_q7)), (5, .int (iI ss_q7)), (6, .ref (z)), (8, .int (iI ff_q7)), (9, .int (iI pv_q7)), (10, .int (iI (CHN sp n pv_q7)))] [.int (iI v3_q7), .int (iI bb_q7)] (fun H => zz_q7 ≤ H.size ∧ va_at E.1 vwCl (sm, .inr (2, [.int (iI pg), .ref (s3 SS), .ref (s1 SS), .ref (s2 SS)])) H ∧ (SX E zc sm SS sp se n) H ∧ (CA E ad sp se al n pg) H ∧ vZ E z n wf_q7 H) := by
                intro v3_q7 zz_q7 kc ks hv3_q7 hz7_q7 hk7_q7
                refine g_iadd S dX2_isSame_346 ?_
                refine g_istore S (lv' := [(7, .int (iI (bb_q7 + v3_q7))), (0, .ref (sm)), (1, .ref (ad 0)), (2, .int (iI n)), (3, .int (iI vn_q7)), (4, .int (iI tt_q7)), (5, .int (iI ss_q7)), (6, .ref (z)), (8, .int (iI ff_q7)), (9, .int (iI pv_q7)), (10, .int (iI (CHN sp n pv_q7)))]) dX2_isSame_347 (Nat.le_of_ble_eq_true rfl) rfl ?_
                have L364 : ∀ (fg_q7 : Int) (zz_q7 : Nat) (kc : Nat) (ks : Nat), (FLP (CHN sp n) pg (pv_q7 - 1) fg_q7) → (z + 1 ≤ zz_q7) → (kc ≤ 73 ∧ ks ≤ 1752) → G xp l xe ({ frames := 4, cells := 73, slots := 1752, locals := 88 }) xs xm xa xb xh xc 14 (fun q0 => zb ≤ q0) kc ks (MQ xb (QW (some (.int (iI 1))) (fun _ => True) (fun q0 => zb ≤ q0)) xa xs 73 1752 (fun q0 => zb ≤ q0)) 364 [(0, .ref (sm)), (1, .ref (ad 0)), (2, .int (iI n)), (3, .int (iI vn_q7)), (4, .int (iI tt_q7)), (5, .int (iI ss_q7)), (6, .ref (z)), (7, .int (iI (bb_q7 + v3_q7))), (8, .int (iI fg_q7)), (9, .int (iI pv_q7)), (10, .int (iI (CHN sp n pv_q7)))] [] (fun H => zz_q7 ≤ H.size ∧ va_at E.1 vwCl (sm, .inr (2, [.int (iI pg), .ref (s3 SS), .ref (s1 SS), .ref (s2 SS)])) H ∧ (SX E zc sm SS sp se n) H ∧ (CA E ad sp se al n pg) H ∧ vZ E z n wf_q7 H) := by
                  intro fg_q7 zz_q7 kc ks hfg_q7 hz8_q7 hk8_q7
                  refine g_iload S dX2_isSame_364 9 rfl ?_
                  refine g_bipush S dX2_isSame_366 (by decide) ?_
                  refine g_irem S (z := iI (pv_q7 % 9)) dX2_isSame_368 (iI_ne0 (by omega)) (irem_nn (by omega) (by omega)) ?_
                  refine g_iload_n S dX2_isSame_369 rfl 2 rfl ?_
                  refine g_bipush S dX2_isSame_370 (by decide) ?_
                  refine g_irem S (z := iI (n % 9)) dX2_isSame_372 (iI_ne0 (by omega)) (irem_nn (by omega) (by omega)) ?_
                  refine g_icmp_ne S (tgt := 389) dX2_isSame_373 (by decide) (by omega) (fun c373_q7 => ?_) (fun c373_q7 => ?_)
                  · skip
                    refine g_iinc S (lv' := [(9, .int (iI (pv_q7 + (-1)))), (0, .ref (sm)), (1, .ref (ad 0)), (2, .int (iI n)), (3, .int (iI vn_q7)), (4, .int (iI tt_q7)), (5, .int (iI ss_q7)), (6, .ref (z)), (7, .int (iI (bb_q7 + v3_q7))), (8, .int (iI fg_q7)), (10, .int (iI (CHN sp n pv_q7)))]) dX2_isSame_389 9 rfl (Nat.le_of_ble_eq_true rfl) rfl ?_
                    refine g_goto S (tgt := 321) dX2_isSame_392 (by decide) ?_
                    refine g_lv [1, 2, 3, 4, 5, 6, 7, 8, 9, 0] rfl ?_
                    exact ihL321 (bb_q7 + v3_q7) fg_q7 (pv_q7 + (-1)) zz_q7 kc ks (by omega) (bare_s hbb_q7 (by omega) (by rw [hv3_q7, show pv_q7 - 1 + 1 = pv_q7 by omega])) (by rw [show pv_q7 + -1 = pv_q7 - 1 by omega]; exact hfg_q7) (by omega) (by omega) (by omega)
                  · skip
                    refine g_aload_n S dX2_isSame_376 rfl 1 rfl ?_
                    refine g_iload S dX2_isSame_377 9 rfl ?_
                    refine g_callV S xK (As := [.int (iI pv_q7)]) (st := []) (stk' := [.int (iI (CHN sp n pv_q7))]) (Wp' := fun H => zz_q7 ≤ H.size ∧ va_at E.1 vwCl (sm, .inr (2, [.int (iI pg), .ref (s3 SS), .ref (s1 SS), .ref (s2 SS)])) H ∧ (SX E zc sm SS sp se n) H ∧ (CA E ad sp se al n pg) H ∧ vZ E z n wf_q7 H) (r := (RX1, TX1, 9)) (q_headingsOn l E hj J pv_q7 (by omega)) (cwV 1 S.2.2.2.2 gX2_isSame_X1_headingsOn rfl rfl rfl (by decide +kernel) ⟨Nat.le_of_ble_eq_true rfl, Nat.le_of_ble_eq_true rfl⟩) rfl rfl rfl rfl (Nat.le_of_ble_eq_true rfl) ⟨show kc + 0 ≤ 73 by omega, show ks + 0 ≤ 1752 by omega⟩ (fun q9 h9 => (hax q9 h9).1) (fun _ h => h.2.2.2.1.cx) (fun _ h => h.2.2.2.1) (fun _ _ h h2 hle hq => ⟨Nat.le_trans h.1 hle, h.2.1.kept (hq _ h.2.1.lt (fun w9_q7 => by have w8_q7 := (hax _ w9_q7).2; omega)), h.2.2.1.far (fun q q1 q2 => hq q q1 (fun w9_q7 => by have w8_q7 := (hax q w9_q7).2; omega)), h2, h.2.2.2.2.kept (hq _ h.2.2.2.2.lt (fun w9_q7 => by have w8_q7 := (hax _ w9_q7).2; omega))⟩) dX2_isSame_379 ?_
                    refine g_iload S dX2_isSame_382 10 rfl ?_
                    refine g_icmp_eq S (tgt := 389) dX2_isSame_384 (by decide) (by omega) (fun c384_q7 => ?_) (fun c384_q7 => ?_)
                    · skip
                      refine g_iinc S (lv' := [(9, .int (iI (pv_q7 + (-1)))), (0, .ref (sm)), (1, .ref (ad 0)), (2, .int (iI n)), (3, .int (iI vn_q7)), (4, .int (iI tt_q7)), (5, .int (iI ss_q7)), (6, .ref (z)), (7, .int (iI (bb_q7 + v3_q7))), (8, .int (iI fg_q7)), (10, .int (iI (CHN sp n pv_q7)))]) dX2_isSame_389 9 rfl (Nat.le_of_ble_eq_true rfl) rfl ?_
                      refine g_goto S (tgt := 321) dX2_isSame_392 (by decide) ?_
                      refine g_lv [1, 2, 3, 4, 5, 6, 7, 8, 9, 0] rfl ?_
                      exact ihL321 (bb_q7 + v3_q7) fg_q7 (pv_q7 + (-1)) zz_q7 kc ks (by omega) (bare_s hbb_q7 (by omega) (by rw [hv3_q7, show pv_q7 - 1 + 1 = pv_q7 by omega])) (by rw [show pv_q7 + -1 = pv_q7 - 1 by omega]; exact hfg_q7) (by omega) (by omega) (by omega)
                    · skip
                      exact absurd c384_q7 (by omega)
                refine g_iload S dX2_isSame_349 10 rfl ?_
                refine g_aload_n S dX2_isSame_351 rfl 1 rfl ?_
                refine g_iload S dX2_isSame_352 8 rfl ?_
                refine g_callV S xK (As := [.int (iI ff_q7)]) (st := [.int (iI (CHN sp n pv_q7))]) (stk' := [.int (iI (CHN sp n ff_q7)), .int (iI (CHN sp n pv_q7))]) (Wp' := fun H => zz_q7 ≤ H.size ∧ va_at E.1 vwCl (sm, .inr (2, [.int (iI pg), .ref (s3 SS), .ref (s1 SS), .ref (s2 SS)])) H ∧ (SX E zc sm SS sp se n) H ∧ (CA E ad sp se al n pg) H ∧ vZ E z n wf_q7 H) (r := (RX2, TX2, 4)) (m_X2_onPage l E (Wp := fun H => zz_q7 ≤ H.size ∧ va_at E.1 vwCl (sm, .inr (2, [.int (iI pg), .ref (s3 SS), .ref (s1 SS), .ref (s2 SS)])) H ∧ (SX E zc sm SS sp se n) H ∧ (CA E ad sp se al n pg) H ∧ vZ E z n wf_q7 H) zc sm SS sp se n pg ff_q7 (fun _ h => h.2.1) (fun _ h => h.2.2.1) J.hn J.hpg J.hsp (by omega)) (cwV 1 S.2.2.2.2 gX2_isSame_X2_onPage rfl rfl rfl (by decide +kernel) ⟨Nat.le_of_ble_eq_true rfl, Nat.le_of_ble_eq_true rfl⟩) rfl rfl rfl rfl (Nat.le_of_ble_eq_true rfl) ⟨show kc + 0 ≤ 73 by omega, show ks + 0 ≤ 1752 by omega⟩ (fun _ q => q.elim) (fun _ h => h.2.1) (fun _ h => h) (fun _ _ _ h _ _ => h) dX2_isSame_354 ?_
                refine g_icmp_lt S (tgt := 364) dX2_isSame_357 (by decide) (by omega) (fun c357_q7 => ?_) (fun c357_q7 => ?_)
                · skip
                  refine g_lv [1, 2, 3, 4, 5, 6, 7, 0, 8, 9, 10] rfl ?_
                  exact L364 ff_q7 zz_q7 kc ks (flp_n hfl_q7 (by omega) (by omega)) (by omega) (by omega)
                · skip
                  refine g_iload S dX2_isSame_360 9 rfl ?_
                  refine g_istore S (lv' := [(8, .int (iI pv_q7)), (7, .int (iI (bb_q7 + v3_q7))), (0, .ref (sm)), (1, .ref (ad 0)), (2, .int (iI n)), (3, .int (iI vn_q7)), (4, .int (iI tt_q7)), (5, .int (iI ss_q7)), (6, .ref (z)), (9, .int (iI pv_q7)), (10, .int (iI (CHN sp n pv_q7)))]) dX2_isSame_362 (Nat.le_of_ble_eq_true rfl) rfl ?_
                  refine g_lv [2, 3, 4, 5, 6, 7, 8, 1, 0, 9, 10] rfl ?_
                  exact L364 pv_q7 zz_q7 kc ks (flp_y hfl_q7 (by omega) (by omega)) (by omega) (by omega)
              refine g_iload S dX2_isSame_334 8 rfl ?_
              refine g_iload S dX2_isSame_336 0 rfl ?_
              refine g_if_ne S (tgt := 345) dX2_isSame_338 (by decide) (by omega) (fun c338_q7 => ?_) (fun c338_q7 => ?_)
              · skip
                refine g_iconst S dX2_isSame_345 ?_
                refine g_lv [1, 2, 3, 4, 5, 6, 7, 9, 10, 0] rfl ?_
                exact L346 0 zz_q7 kc ks ((pI_f (by omega)).symm) (by omega) (by omega)
              · skip
                refine g_iconst S dX2_isSame_341 ?_
                refine g_goto S (tgt := 346) dX2_isSame_342 (by decide) ?_
                refine g_lv [1, 2, 3, 4, 5, 6, 7, 9, 10, 0] rfl ?_
                exact L346 1 zz_q7 kc ks ((pI_t (by omega)).symm) (by omega) (by omega)
        refine g_lv [3, 4, 5, 6, 7, 8, 9, 2, 1, 0] rfl ?_
        exact L321 ((pg) + 1).toNat 0 pg pg zz_q7 kc ks (by omega) (by rw [Int.zero_add]) (flp_0 hpg_q7.1) (by omega) (by omega) (by omega)
      · skip
        have v9_q7 := J.hsp o_q7 (by omega) (by omega)
        have y9_q7 := v9_q7.1.1
        have pg9_q7 := pgs_b v9_q7.1 (by omega)
        have s9_q7 := J.hgr.1 o_q7 (by omega) (by omega)
        have p9_q7 := J.hp4 o_q7 (by omega) (by omega)
        have a9_q7 := (hal o_q7 (by omega) (by omega)).1
        have e9_q7 := eS_rng J.hgr.1 n.toNat o_q7 (by omega) (by omega)
        refine g_aload_n S dX2_isSame_28 rfl 0 rfl ?_
        refine g_get S xK (ref := "BookIndexLaw$Sim") hin2_q7 1 (by decide) (show vwCl[2]? = some (RX2, TX2, 4) from rfl) kf15 (fun _ h9 => h9) (fun _ h => h.2.1) rfl dX2_isSame_29 ?_
        refine g_iload S dX2_isSame_32 7 rfl ?_
        refine g_ldR S xK (t := 4) (by decide) (n := n) (f := sB SS) (fun _ h => h.2.2.1.a3) (by omega) dX2_isSame_34 ?_
        refine g_astore S (lv' := [(8, .ref (sB SS o_q7)), (0, .ref (sm)), (1, .ref (ad 0)), (2, .int (iI n)), (3, .int (iI vn_q7)), (4, .int (iI tt_q7)), (5, .int (iI ss_q7)), (6, .ref (z)), (7, .int (iI o_q7))]) dX2_isSame_35 (Nat.le_of_ble_eq_true rfl) rfl ?_
        refine g_aload S dX2_isSame_37 0 rfl ?_
        refine g_callS S xK (As := [.ref (sB SS o_q7)]) (st := []) (stk' := [.int (iI (PGS (sp o_q7)))]) (Wp' := fun H => zz_q7 ≤ H.size ∧ va_at E.1 vwCl (sm, .inr (2, [.int (iI pg), .ref (s3 SS), .ref (s1 SS), .ref (s2 SS)])) H ∧ (SX E zc sm SS sp se n) H ∧ (CA E ad sp se al n pg) H ∧ vZ E z n wf_q7 H) (m_X2_pagesOf l E (Wp := fun H => zz_q7 ≤ H.size ∧ va_at E.1 vwCl (sm, .inr (2, [.int (iI pg), .ref (s3 SS), .ref (s1 SS), .ref (s2 SS)])) H ∧ (SX E zc sm SS sp se n) H ∧ (CA E ad sp se al n pg) H ∧ vZ E z n wf_q7 H) (sB SS o_q7) (sp o_q7) (sR SS o_q7) (fun _ h => h.2.2.1.rw (u := o_q7) (by omega)) (by omega)) (cwS 1 S.2.2.2.2 gX2_isSame_X2_pagesOf rfl rfl rfl (by decide +kernel) ⟨Nat.le_of_ble_eq_true rfl, Nat.le_of_ble_eq_true rfl⟩) rfl rfl rfl (Nat.le_of_ble_eq_true rfl) ⟨show kc + 0 ≤ 73 by omega, show ks + 0 ≤ 1752 by omega⟩ (fun _ q => q.elim) (fun _ h => h) (fun _ _ _ h _ _ => h) dX2_isSame_39 ?_
        refine g_istore S (lv' := [(9, .int (iI (PGS (sp o_q7)))), (8, .ref (sB SS o_q7)), (0, .ref (sm)), (1, .ref (ad 0)), (2, .int (iI n)), (3, .int (iI vn_q7)), (4, .int (iI tt_q7)), (5, .int (iI ss_q7)), (6, .ref (z)), (7, .int (iI o_q7))]) dX2_isSame_42 (Nat.le_of_ble_eq_true rfl) rfl ?_
        refine g_aload_n S dX2_isSame_44 rfl 3 rfl ?_
        refine g_iload S dX2_isSame_45 9 rfl ?_
        refine g_callV S xK (As := [.int (iI o_q7)]) (st := []) (stk' := [.int (iI ((sp o_q7).1))]) (Wp' := fun H => zz_q7 ≤ H.size ∧ va_at E.1 vwCl (sm, .inr (2, [.int (iI pg), .ref (s3 SS), .ref (s1 SS), .ref (s2 SS)])) H ∧ (SX E zc sm SS sp se n) H ∧ (CA E ad sp se al n pg) H ∧ vZ E z n wf_q7 H) (r := (RX1, TX1, 9)) (q_spansOf l E hj J o_q7 (by omega)) (cwV 1 S.2.2.2.2 gX2_isSame_X1_spansOf rfl rfl rfl (by decide +kernel) ⟨Nat.le_of_ble_eq_true rfl, Nat.le_of_ble_eq_true rfl⟩) rfl rfl rfl rfl (Nat.le_of_ble_eq_true rfl) ⟨show kc + 0 ≤ 73 by omega, show ks + 0 ≤ 1752 by omega⟩ (fun q9 h9 => (hax q9 h9).1) (fun _ h => h.2.2.2.1.cx) (fun _ h => h.2.2.2.1) (fun _ _ h h2 hle hq => ⟨Nat.le_trans h.1 hle, h.2.1.kept (hq _ h.2.1.lt (fun w9_q7 => by have w8_q7 := (hax _ w9_q7).2; omega)), h.2.2.1.far (fun q q1 q2 => hq q q1 (fun w9_q7 => by have w8_q7 := (hax q w9_q7).2; omega)), h2, h.2.2.2.2.kept (hq _ h.2.2.2.2.lt (fun w9_q7 => by have w8_q7 := (hax _ w9_q7).2; omega))⟩) dX2_isSame_47 ?_
        refine g_aload S dX2_isSame_50 1 rfl ?_
        refine g_lenR S xK (t := 3) (by decide) (n := (sp o_q7).1) (f := sR SS o_q7) (fun _ h => h.2.2.1.b (u := o_q7) (by omega)) (by omega) dX2_isSame_52 ?_
        refine g_icmp_ne S (tgt := 115) dX2_isSame_53 (by decide) (by omega) (fun c53_q7 => ?_) (fun c53_q7 => ?_)
        · skip
          exact absurd c53_q7 (by omega)
        · skip
          refine g_aload_n S dX2_isSame_56 rfl 3 rfl ?_
          refine g_iload S dX2_isSame_57 9 rfl ?_
          refine g_callV S xK (As := [.int (iI o_q7)]) (st := []) (stk' := [.int (iI (PGS (sp o_q7)))]) (Wp' := fun H => zz_q7 ≤ H.size ∧ va_at E.1 vwCl (sm, .inr (2, [.int (iI pg), .ref (s3 SS), .ref (s1 SS), .ref (s2 SS)])) H ∧ (SX E zc sm SS sp se n) H ∧ (CA E ad sp se al n pg) H ∧ vZ E z n wf_q7 H) (r := (RX1, TX1, 9)) (q_pagesOf l E hj J o_q7 (by omega)) (cwV 1 S.2.2.2.2 gX2_isSame_X1_pagesOf rfl rfl rfl (by decide +kernel) ⟨Nat.le_of_ble_eq_true rfl, Nat.le_of_ble_eq_true rfl⟩) rfl rfl rfl rfl (Nat.le_of_ble_eq_true rfl) ⟨show kc + 0 ≤ 73 by omega, show ks + 0 ≤ 1752 by omega⟩ (fun q9 h9 => (hax q9 h9).1) (fun _ h => h.2.2.2.1.cx) (fun _ h => h.2.2.2.1) (fun _ _ h h2 hle hq => ⟨Nat.le_trans h.1 hle, h.2.1.kept (hq _ h.2.1.lt (fun w9_q7 => by have w8_q7 := (hax _ w9_q7).2; omega)), h.2.2.1.far (fun q q1 q2 => hq q q1 (fun w9_q7 => by have w8_q7 := (hax q w9_q7).2; omega)), h2, h.2.2.2.2.kept (hq _ h.2.2.2.2.lt (fun w9_q7 => by have w8_q7 := (hax _ w9_q7).2; omega))⟩) dX2_isSame_59 ?_
          refine g_iload S dX2_isSame_62 0 rfl ?_
          refine g_icmp_ne S (tgt := 115) dX2_isSame_64 (by decide) (by omega) (fun c64_q7 => ?_) (fun c64_q7 => ?_)
          · skip
            exact absurd c64_q7 (by omega)
          · skip
            refine g_aload_n S dX2_isSame_67 rfl 3 rfl ?_
            refine g_iload S dX2_isSame_68 9 rfl ?_
            refine g_callV S xK (As := [.int (iI o_q7)]) (st := []) (stk' := [.int (iI (se o_q7))]) (Wp' := fun H => zz_q7 ≤ H.size ∧ va_at E.1 vwCl (sm, .inr (2, [.int (iI pg), .ref (s3 SS), .ref (s1 SS), .ref (s2 SS)])) H ∧ (SX E zc sm SS sp se n) H ∧ (CA E ad sp se al n pg) H ∧ vZ E z n wf_q7 H) (r := (RX1, TX1, 9)) (q_seeOf l E hj J o_q7 (by omega)) (cwV 1 S.2.2.2.2 gX2_isSame_X1_seeOf rfl rfl rfl (by decide +kernel) ⟨Nat.le_of_ble_eq_true rfl, Nat.le_of_ble_eq_true rfl⟩) rfl rfl rfl rfl (Nat.le_of_ble_eq_true rfl) ⟨show kc + 0 ≤ 73 by omega, show ks + 0 ≤ 1752 by omega⟩ (fun q9 h9 => (hax q9 h9).1) (fun _ h => h.2.2.2.1.cx) (fun _ h => h.2.2.2.1) (fun _ _ h h2 hle hq => ⟨Nat.le_trans h.1 hle, h.2.1.kept (hq _ h.2.1.lt (fun w9_q7 => by have w8_q7 := (hax _ w9_q7).2; omega)), h.2.2.1.far (fun q q1 q2 => hq q q1 (fun w9_q7 => by have w8_q7 := (hax q w9_q7).2; omega)), h2, h.2.2.2.2.kept (hq _ h.2.2.2.2.lt (fun w9_q7 => by have w8_q7 := (hax _ w9_q7).2; omega))⟩) dX2_isSame_70 ?_
            refine g_aload_n S dX2_isSame_73 rfl 2 rfl ?_
            refine g_get S xK (ref := "BookIndexLaw$Sim") hin2_q7 2 (by decide) (show vwCl[2]? = some (RX2, TX2, 4) from rfl) kf19 (fun _ h9 => h9) (fun _ h => h.2.1) rfl dX2_isSame_74 ?_
            refine g_iload S dX2_isSame_77 9 rfl ?_
            refine g_iald S xK (n := (n : Int).toNat) (F := se) (fun _ h => h.2.2.1.a1) (by omega) (by omega) dX2_isSame_79 ?_
            refine g_icmp_ne S (tgt := 115) dX2_isSame_80 (by decide) (by omega) (fun c80_q7 => ?_) (fun c80_q7 => ?_)
            · skip
              exact absurd c80_q7 (by omega)
            · skip
              refine g_aload_n S dX2_isSame_83 rfl 3 rfl ?_
              refine g_iload S dX2_isSame_84 9 rfl ?_
              refine g_callV S xK (As := [.int (iI o_q7)]) (st := []) (stk' := [.int (iI ((pop (al o_q7) 24 : Nat) : Int))]) (Wp' := fun H => zz_q7 ≤ H.size ∧ va_at E.1 vwCl (sm, .inr (2, [.int (iI pg), .ref (s3 SS), .ref (s1 SS), .ref (s2 SS)])) H ∧ (SX E zc sm SS sp se n) H ∧ (CA E ad sp se al n pg) H ∧ vZ E z n wf_q7 H) (r := (RX1, TX1, 9)) (q_seeAlsosOf l E hj J o_q7 (by omega)) (cwV 1 S.2.2.2.2 gX2_isSame_X1_seeAlsosOf rfl rfl rfl (by decide +kernel) ⟨Nat.le_of_ble_eq_true rfl, Nat.le_of_ble_eq_true rfl⟩) rfl rfl rfl rfl (Nat.le_of_ble_eq_true rfl) ⟨show kc + 0 ≤ 73 by omega, show ks + 0 ≤ 1752 by omega⟩ (fun q9 h9 => (hax q9 h9).1) (fun _ h => h.2.2.2.1.cx) (fun _ h => h.2.2.2.1) (fun _ _ h h2 hle hq => ⟨Nat.le_trans h.1 hle, h.2.1.kept (hq _ h.2.1.lt (fun w9_q7 => by have w8_q7 := (hax _ w9_q7).2; omega)), h.2.2.1.far (fun q q1 q2 => hq q q1 (fun w9_q7 => by have w8_q7 := (hax q w9_q7).2; omega)), h2, h.2.2.2.2.kept (hq _ h.2.2.2.2.lt (fun w9_q7 => by have w8_q7 := (hax _ w9_q7).2; omega))⟩) dX2_isSame_86 ?_
              refine g_aload_n S dX2_isSame_89 rfl 2 rfl ?_
              refine g_get S xK (ref := "BookIndexLaw$Sim") hin2_q7 3 (by decide) (show vwCl[2]? = some (RX2, TX2, 4) from rfl) kf24 (fun _ h9 => h9) (fun _ h => h.2.1) rfl dX2_isSame_90 ?_
              refine g_iload S dX2_isSame_93 9 rfl ?_
              refine g_ldR S xK (t := 3) (by decide) (n := n) (f := sD SS) (fun _ h => h.2.2.1.a2) (by omega) dX2_isSame_95 ?_
              refine g_lenI S xK (n := sM SS o_q7) (F := sV SS o_q7) (fun _ h => h.2.2.1.d (u := o_q7) (by omega)) (by omega) dX2_isSame_96 ?_
              refine g_icmp_ne S (tgt := 115) dX2_isSame_97 (by decide) (by omega) (fun c97_q7 => ?_) (fun c97_q7 => ?_)
              · skip
                exact absurd c97_q7 (by omega)
              · skip
                refine g_aload_n S dX2_isSame_100 rfl 3 rfl ?_
                refine g_iload S dX2_isSame_101 9 rfl ?_
                refine g_callV S xK (As := [.int (iI o_q7)]) (st := []) (stk' := [.int (iI (eS se n.toNat o_q7))]) (Wp' := fun H => zz_q7 ≤ H.size ∧ va_at E.1 vwCl (sm, .inr (2, [.int (iI pg), .ref (s3 SS), .ref (s1 SS), .ref (s2 SS)])) H ∧ (SX E zc sm SS sp se n) H ∧ (CA E ad sp se al n pg) H ∧ vZ E z n wf_q7 H) (r := (RX1, TX1, 9)) (q_leadsTo l E hj J o_q7 (by omega)) (cwV 1 S.2.2.2.2 gX2_isSame_X1_leadsTo rfl rfl rfl (by decide +kernel) ⟨Nat.le_of_ble_eq_true rfl, Nat.le_of_ble_eq_true rfl⟩) rfl rfl rfl rfl (Nat.le_of_ble_eq_true rfl) ⟨show kc + 0 ≤ 73 by omega, show ks + 0 ≤ 1752 by omega⟩ (fun q9 h9 => (hax q9 h9).1) (fun _ h => h.2.2.2.1.cx) (fun _ h => h.2.2.2.1) (fun _ _ h h2 hle hq => ⟨Nat.le_trans h.1 hle, h.2.1.kept (hq _ h.2.1.lt (fun w9_q7 => by have w8_q7 := (hax _ w9_q7).2; omega)), h.2.2.1.far (fun q q1 q2 => hq q q1 (fun w9_q7 => by have w8_q7 := (hax q w9_q7).2; omega)), h2, h.2.2.2.2.kept (hq _ h.2.2.2.2.lt (fun w9_q7 => by have w8_q7 := (hax _ w9_q7).2; omega))⟩) dX2_isSame_103 ?_
                refine g_aload_n S dX2_isSame_106 rfl 2 rfl ?_
                refine g_iload S dX2_isSame_107 9 rfl ?_
                refine g_sz (fun zs1 _ => ?_)
                refine g_ex (P := zz_q7 ≤ zs1) (fun _ h => by have y1_q7 := h.1; have y2_q7 := h.2.1; omega) (fun hzs1 => ?_)
                refine g_w (Wp' := fun H => H.size = zs1 ∧ va_at E.1 vwCl (sm, .inr (2, [.int (iI pg), .ref (s3 SS), .ref (s1 SS), .ref (s2 SS)])) H ∧ (SX E zc sm SS sp se n) H ∧ (CA E ad sp se al n pg) H ∧ vZ E z n wf_q7 H) (fun _ h => ⟨h.1, h.2.2⟩) ?_
                refine g_callV S xK (As := [.int (iI o_q7)]) (st := [.int (iI (eS se n.toNat o_q7))]) (stk' := [.int (iI (eS se n.toNat o_q7)), .int (iI (eS se n.toNat o_q7))]) (Wp' := fun H => H.size = zs1 + 1 ∧ va_at E.1 vwCl (sm, .inr (2, [.int (iI pg), .ref (s3 SS), .ref (s1 SS), .ref (s2 SS)])) H ∧ (SX E zc sm SS sp se n) H ∧ (CA E ad sp se al n pg) H ∧ vZ E z n wf_q7 H) (r := (RX2, TX2, 4)) (m_X2_end l E (zs1) (FZ.kp (z := zs1) (W := fun H => va_at E.1 vwCl (sm, .inr (2, [.int (iI pg), .ref (s3 SS), .ref (s1 SS), .ref (s2 SS)])) H ∧ (SX E zc sm SS sp se n) H ∧ (CA E ad sp se al n pg) H ∧ vZ E z n wf_q7 H)) zc sm SS sp se n pg o_q7 (fun _ h => (h.out (ST.and (LW.st LW.at) (ST.and (LW.st SX.lw) (ST.and (LW.st CA.lw) (LW.st LW.at))))).1) (fun _ h => (h.out (ST.and (LW.st LW.at) (ST.and (LW.st SX.lw) (ST.and (LW.st CA.lw) (LW.st LW.at))))).2.1) J.hn (by omega) J.hgr.1) (cwV 1 S.2.2.2.2 gX2_isSame_X2_end rfl rfl rfl (by decide +kernel) ⟨Nat.le_of_ble_eq_true rfl, Nat.le_of_ble_eq_true rfl⟩) rfl rfl rfl rfl (Nat.le_of_ble_eq_true rfl) ⟨show kc + 1 ≤ 73 by omega, show ks + 24 ≤ 1752 by omega⟩ (fun q9 (hq9 : zs1 ≤ q9) => (by show zb ≤ q9; omega)) (fun _ h => h.2.1) (fun _ h => ⟨h.1, FZ.mk h.1 h.2⟩) (fun _ _ _ h2 _ _ => ⟨h2.1, (h2.2.out (ST.and (LW.st LW.at) (ST.and (LW.st SX.lw) (ST.and (LW.st CA.lw) (LW.st LW.at))))).1, (h2.2.out (ST.and (LW.st LW.at) (ST.and (LW.st SX.lw) (ST.and (LW.st CA.lw) (LW.st LW.at))))).2.1, (h2.2.out (ST.and (LW.st LW.at) (ST.and (LW.st SX.lw) (ST.and (LW.st CA.lw) (LW.st LW.at))))).2.2.1, (h2.2.out (ST.and (LW.st LW.at) (ST.and (LW.st SX.lw) (ST.and (LW.st CA.lw) (LW.st LW.at))))).2.2.2⟩) dX2_isSame_109 ?_
                refine g_icmp_eq S (tgt := 117) dX2_isSame_112 (by decide) (by omega) (fun c112_q7 => ?_) (fun c112_q7 => ?_)
                · skip
                  refine g_iconst S dX2_isSame_117 ?_
                  refine g_istore S (lv' := [(10, .int (iI 0)), (9, .int (iI (PGS (sp o_q7)))), (8, .ref (sB SS o_q7)), (0, .ref (sm)), (1, .ref (ad 0)), (2, .int (iI n)), (3, .int (iI vn_q7)), (4, .int (iI tt_q7)), (5, .int (iI ss_q7)), (6, .ref (z)), (7, .int (iI o_q7))]) dX2_isSame_118 (Nat.le_of_ble_eq_true rfl) rfl ?_
                  have L120 : ∀ (nf : Nat) (jv_q7 : Int) (zz_q7 : Nat) (kc : Nat) (ks : Nat), (0 ≤ jv_q7 ∧ jv_q7 ≤ (sp o_q7).1) → (z + 1 ≤ zz_q7) → (kc ≤ 1 + 3 * o_q7.toNat + 1 ∧ ks ≤ 24 + 72 * o_q7.toNat + 24) → ((sp o_q7).1 - jv_q7 < (nf : Int)) → G xp l xe ({ frames := 4, cells := 73, slots := 1752, locals := 88 }) xs xm xa xb xh xc 14 (fun q0 => zb ≤ q0) kc ks (MQ xb (QW (some (.int (iI 1))) (fun _ => True) (fun q0 => zb ≤ q0)) xa xs 73 1752 (fun q0 => zb ≤ q0)) 120 [(0, .ref (sm)), (1, .ref (ad 0)), (2, .int (iI n)), (3, .int (iI vn_q7)), (4, .int (iI tt_q7)), (5, .int (iI ss_q7)), (6, .ref (z)), (7, .int (iI o_q7)), (8, .ref (sB SS o_q7)), (9, .int (iI (PGS (sp o_q7)))), (10, .int (iI jv_q7))] [] (fun H => zz_q7 ≤ H.size ∧ va_at E.1 vwCl (sm, .inr (2, [.int (iI pg), .ref (s3 SS), .ref (s1 SS), .ref (s2 SS)])) H ∧ (SX E zc sm SS sp se n) H ∧ (CA E ad sp se al n pg) H ∧ vZ E z n wf_q7 H) := by
                    intro nf
                    induction nf with
                    | zero =>
                      intro jv_q7 zz_q7 kc ks hjv_q7 hz2_q7 hk2_q7 hmf
                      exfalso
                      omega
                    | succ nf ihL120 =>
                      intro jv_q7 zz_q7 kc ks hjv_q7 hz2_q7 hk2_q7 hmf
                      refine g_iload S dX2_isSame_120 10 rfl ?_
                      refine g_aload S dX2_isSame_122 8 rfl ?_
                      refine g_lenR S xK (t := 3) (by decide) (n := (sp o_q7).1) (f := sR SS o_q7) (fun _ h => h.2.2.1.b (u := o_q7) (by omega)) (by omega) dX2_isSame_124 ?_
                      refine g_icmp_ge S (tgt := 172) dX2_isSame_125 (by decide) (by omega) (fun c125_q7 => ?_) (fun c125_q7 => ?_)
                      · skip
                        have L193 : ∀ (wg_q7 : Int → Int) (zz_q7 : Nat) (kc : Nat) (ks : Nat), (TRU wg_q7 n (fun i => LED se al o_q7 i ∨ se o_q7 = i)) → (z + 1 ≤ zz_q7) → (kc ≤ 1 + 3 * o_q7.toNat + 1 ∧ ks ≤ 24 + 72 * o_q7.toNat + 24) → G xp l xe ({ frames := 4, cells := 73, slots := 1752, locals := 88 }) xs xm xa xb xh xc 14 (fun q0 => zb ≤ q0) kc ks (MQ xb (QW (some (.int (iI 1))) (fun _ => True) (fun q0 => zb ≤ q0)) xa xs 73 1752 (fun q0 => zb ≤ q0)) 193 [(0, .ref (sm)), (1, .ref (ad 0)), (2, .int (iI n)), (3, .int (iI vn_q7)), (4, .int (iI tt_q7)), (5, .int (iI ss_q7)), (6, .ref (z)), (7, .int (iI o_q7)), (9, .int (iI (PGS (sp o_q7))))] [] (fun H => zz_q7 ≤ H.size ∧ va_at E.1 vwCl (sm, .inr (2, [.int (iI pg), .ref (s3 SS), .ref (s1 SS), .ref (s2 SS)])) H ∧ (SX E zc sm SS sp se n) H ∧ (CA E ad sp se al n pg) H ∧ vZ E z n wg_q7 H) := by
                          intro wg_q7 zz_q7 kc ks htg_q7 hz3_q7 hk3_q7
                          refine g_aload_n S dX2_isSame_193 rfl 0 rfl ?_
                          refine g_get S xK (ref := "BookIndexLaw$Sim") hin2_q7 3 (by decide) (show vwCl[2]? = some (RX2, TX2, 4) from rfl) kf24 (fun _ h9 => h9) (fun _ h => h.2.1) rfl dX2_isSame_194 ?_
                          refine g_iload S dX2_isSame_197 7 rfl ?_
                          refine g_ldR S xK (t := 3) (by decide) (n := n) (f := sD SS) (fun _ h => h.2.2.1.a2) (by omega) dX2_isSame_199 ?_
                          refine g_astore S (lv' := [(10, .ref (sD SS o_q7)), (0, .ref (sm)), (1, .ref (ad 0)), (2, .int (iI n)), (3, .int (iI vn_q7)), (4, .int (iI tt_q7)), (5, .int (iI ss_q7)), (6, .ref (z)), (7, .int (iI o_q7)), (9, .int (iI (PGS (sp o_q7))))]) dX2_isSame_200 (Nat.le_of_ble_eq_true rfl) rfl ?_
                          refine g_aload S dX2_isSame_202 0 rfl ?_
                          refine g_lenI S xK (n := sM SS o_q7) (F := sV SS o_q7) (fun _ h => h.2.2.1.d (u := o_q7) (by omega)) (by omega) dX2_isSame_204 ?_
                          refine g_istore S (lv' := [(11, .int (iI (sM SS o_q7))), (10, .ref (sD SS o_q7)), (0, .ref (sm)), (1, .ref (ad 0)), (2, .int (iI n)), (3, .int (iI vn_q7)), (4, .int (iI tt_q7)), (5, .int (iI ss_q7)), (6, .ref (z)), (7, .int (iI o_q7)), (9, .int (iI (PGS (sp o_q7))))]) dX2_isSame_205 (Nat.le_of_ble_eq_true rfl) rfl ?_
                          refine g_iconst S dX2_isSame_207 ?_
                          refine g_istore S (lv' := [(12, .int (iI 0)), (11, .int (iI (sM SS o_q7))), (10, .ref (sD SS o_q7)), (0, .ref (sm)), (1, .ref (ad 0)), (2, .int (iI n)), (3, .int (iI vn_q7)), (4, .int (iI tt_q7)), (5, .int (iI ss_q7)), (6, .ref (z)), (7, .int (iI o_q7)), (9, .int (iI (PGS (sp o_q7))))]) dX2_isSame_208 (Nat.le_of_ble_eq_true rfl) rfl ?_
                          have L210 : ∀ (nf : Nat) (jv_q7 : Int) (wh_q7 : Int → Int) (zz_q7 : Nat) (kc : Nat) (ks : Nat), (0 ≤ jv_q7 ∧ jv_q7 ≤ sM SS o_q7) → (TRU wh_q7 n (LEJ se al SS o_q7 jv_q7)) → (z + 1 ≤ zz_q7) → (kc ≤ 1 + 3 * o_q7.toNat + 1 ∧ ks ≤ 24 + 72 * o_q7.toNat + 24) → (sM SS o_q7 - jv_q7 < (nf : Int)) → G xp l xe ({ frames := 4, cells := 73, slots := 1752, locals := 88 }) xs xm xa xb xh xc 14 (fun q0 => zb ≤ q0) kc ks (MQ xb (QW (some (.int (iI 1))) (fun _ => True) (fun q0 => zb ≤ q0)) xa xs 73 1752 (fun q0 => zb ≤ q0)) 210 [(0, .ref (sm)), (1, .ref (ad 0)), (2, .int (iI n)), (3, .int (iI vn_q7)), (4, .int (iI tt_q7)), (5, .int (iI ss_q7)), (6, .ref (z)), (7, .int (iI o_q7)), (9, .int (iI (PGS (sp o_q7)))), (10, .ref (sD SS o_q7)), (11, .int (iI (sM SS o_q7))), (12, .int (iI jv_q7))] [] (fun H => zz_q7 ≤ H.size ∧ va_at E.1 vwCl (sm, .inr (2, [.int (iI pg), .ref (s3 SS), .ref (s1 SS), .ref (s2 SS)])) H ∧ (SX E zc sm SS sp se n) H ∧ (CA E ad sp se al n pg) H ∧ vZ E z n wh_q7 H) := by
                            intro nf
                            induction nf with
                            | zero =>
                              intro jv_q7 wh_q7 zz_q7 kc ks hjv_q7 hth_q7 hz4_q7 hk4_q7 hmf
                              exfalso
                              omega
                            | succ nf ihL210 =>
                              intro jv_q7 wh_q7 zz_q7 kc ks hjv_q7 hth_q7 hz4_q7 hk4_q7 hmf
                              refine g_iload S dX2_isSame_210 11 rfl ?_
                              refine g_iload S dX2_isSame_212 10 rfl ?_
                              refine g_icmp_ge S (tgt := 236) dX2_isSame_214 (by decide) (by omega) (fun c214_q7 => ?_) (fun c214_q7 => ?_)
                              · skip
                                have L276 : ∀ (v_q7 : Int) (zz_q7 : Nat) (kc : Nat) (ks : Nat), (v_q7 = pI (se o_q7 ≠ -1 ∧ (eS se n.toNat o_q7 = -1 ∨ (sp (eS se n.toNat o_q7)).1 = 0))) → (z + 1 ≤ zz_q7) → (kc ≤ 1 + 3 * o_q7.toNat + 3 ∧ ks ≤ 24 + 72 * o_q7.toNat + 72) → G xp l xe ({ frames := 4, cells := 73, slots := 1752, locals := 88 }) xs xm xa xb xh xc 14 (fun q0 => zb ≤ q0) kc ks (MQ xb (QW (some (.int (iI 1))) (fun _ => True) (fun q0 => zb ≤ q0)) xa xs 73 1752 (fun q0 => zb ≤ q0)) 276 [(0, .ref (sm)), (1, .ref (ad 0)), (2, .int (iI n)), (4, .int (iI tt_q7)), (5, .int (iI ss_q7)), (6, .ref (z)), (7, .int (iI o_q7)), (9, .int (iI (PGS (sp o_q7))))] [.int (iI v_q7), .int (iI vn_q7)] (fun H => zz_q7 ≤ H.size ∧ va_at E.1 vwCl (sm, .inr (2, [.int (iI pg), .ref (s3 SS), .ref (s1 SS), .ref (s2 SS)])) H ∧ (SX E zc sm SS sp se n) H ∧ (CA E ad sp se al n pg) H ∧ vZ E z n wh_q7 H) := by
                                  intro v_q7 zz_q7 kc ks hv_q7 hz5_q7 hk5_q7
                                  refine g_iadd S dX2_isSame_276 ?_
                                  refine g_istore_n S (lv' := [(3, .int (iI (vn_q7 + v_q7))), (0, .ref (sm)), (1, .ref (ad 0)), (2, .int (iI n)), (4, .int (iI tt_q7)), (5, .int (iI ss_q7)), (6, .ref (z)), (7, .int (iI o_q7)), (9, .int (iI (PGS (sp o_q7))))]) dX2_isSame_277 rfl (Nat.le_of_ble_eq_true rfl) rfl ?_
                                  refine g_iload S dX2_isSame_278 4 rfl ?_
                                  refine g_iload S dX2_isSame_280 8 rfl ?_
                                  refine g_iadd S dX2_isSame_282 ?_
                                  refine g_istore S (lv' := [(4, .int (iI (tt_q7 + PGS (sp o_q7)))), (3, .int (iI (vn_q7 + v_q7))), (0, .ref (sm)), (1, .ref (ad 0)), (2, .int (iI n)), (5, .int (iI ss_q7)), (6, .ref (z)), (7, .int (iI o_q7)), (9, .int (iI (PGS (sp o_q7))))]) dX2_isSame_283 (Nat.le_of_ble_eq_true rfl) rfl ?_
                                  have L297 : ∀ (v2_q7 : Int) (zz_q7 : Nat) (kc : Nat) (ks : Nat), (v2_q7 = pI (0 < PGS (sp o_q7))) → (z + 1 ≤ zz_q7) → (kc ≤ 1 + 3 * o_q7.toNat + 3 ∧ ks ≤ 24 + 72 * o_q7.toNat + 72) → G xp l xe ({ frames := 4, cells := 73, slots := 1752, locals := 88 }) xs xm xa xb xh xc 14 (fun q0 => zb ≤ q0) kc ks (MQ xb (QW (some (.int (iI 1))) (fun _ => True) (fun q0 => zb ≤ q0)) xa xs 73 1752 (fun q0 => zb ≤ q0)) 297 [(0, .ref (sm)), (1, .ref (ad 0)), (2, .int (iI n)), (3, .int (iI (vn_q7 + v_q7))), (4, .int (iI (tt_q7 + PGS (sp o_q7)))), (6, .ref (z)), (7, .int (iI o_q7))] [.int (iI v2_q7), .int (iI ss_q7)] (fun H => zz_q7 ≤ H.size ∧ va_at E.1 vwCl (sm, .inr (2, [.int (iI pg), .ref (s3 SS), .ref (s1 SS), .ref (s2 SS)])) H ∧ (SX E zc sm SS sp se n) H ∧ (CA E ad sp se al n pg) H ∧ vZ E z n wh_q7 H) := by
                                    intro v2_q7 zz_q7 kc ks hv2_q7 hz6_q7 hk6_q7
                                    refine g_iadd S dX2_isSame_297 ?_
                                    refine g_istore S (lv' := [(5, .int (iI (ss_q7 + v2_q7))), (0, .ref (sm)), (1, .ref (ad 0)), (2, .int (iI n)), (3, .int (iI (vn_q7 + v_q7))), (4, .int (iI (tt_q7 + PGS (sp o_q7)))), (6, .ref (z)), (7, .int (iI o_q7))]) dX2_isSame_298 (Nat.le_of_ble_eq_true rfl) rfl ?_
                                    refine g_iinc S (lv' := [(7, .int (iI (o_q7 + 1))), (5, .int (iI (ss_q7 + v2_q7))), (0, .ref (sm)), (1, .ref (ad 0)), (2, .int (iI n)), (3, .int (iI (vn_q7 + v_q7))), (4, .int (iI (tt_q7 + PGS (sp o_q7)))), (6, .ref (z))]) dX2_isSame_300 7 rfl (Nat.le_of_ble_eq_true rfl) rfl ?_
                                    refine g_goto S (tgt := 22) dX2_isSame_303 (by decide) ?_
                                    refine g_lv [2, 3, 4, 5, 6, 1, 7, 0] rfl ?_
                                    exact ihL22 (o_q7 + 1) (vn_q7 + v_q7) (tt_q7 + PGS (sp o_q7)) (ss_q7 + v2_q7) wh_q7 zz_q7 kc ks (by omega) (by rw [smI_s _ ho_q7.1, ← hvn_q7, hv_q7]) (by rw [smI_s _ ho_q7.1, ← htt_q7]) (by rw [smI_s _ ho_q7.1, ← hss_q7, hv2_q7]) (tru_c hth_q7 (fun i i0 i1 => by rw [show jv_q7 = sM SS o_q7 by omega, lej_e hal (by omega) i0])) (by omega) (by omega) (by omega)
                                  refine g_iload S dX2_isSame_285 5 rfl ?_
                                  refine g_iload S dX2_isSame_287 8 rfl ?_
                                  refine g_if_le S (tgt := 296) dX2_isSame_289 (by decide) (by omega) (fun c289_q7 => ?_) (fun c289_q7 => ?_)
                                  · skip
                                    refine g_iconst S dX2_isSame_296 ?_
                                    refine g_lv [2, 3, 4, 1, 0, 6, 7] rfl ?_
                                    exact L297 0 zz_q7 kc ks ((pI_f (by omega)).symm) (by omega) (by omega)
                                  · skip
                                    refine g_iconst S dX2_isSame_292 ?_
                                    refine g_goto S (tgt := 297) dX2_isSame_293 (by decide) ?_
                                    refine g_lv [2, 3, 4, 1, 0, 6, 7] rfl ?_
                                    exact L297 1 zz_q7 kc ks ((pI_t (by omega)).symm) (by omega) (by omega)
                                refine g_iload_n S dX2_isSame_236 rfl 3 rfl ?_
                                refine g_aload_n S dX2_isSame_237 rfl 0 rfl ?_
                                refine g_get S xK (ref := "BookIndexLaw$Sim") hin2_q7 2 (by decide) (show vwCl[2]? = some (RX2, TX2, 4) from rfl) kf19 (fun _ h9 => h9) (fun _ h => h.2.1) rfl dX2_isSame_238 ?_
                                refine g_iload S dX2_isSame_241 7 rfl ?_
                                refine g_iald S xK (n := (n : Int).toNat) (F := se) (fun _ h => h.2.2.1.a1) (by omega) (by omega) dX2_isSame_243 ?_
                                refine g_if_lt S (tgt := 275) dX2_isSame_244 (by decide) (by omega) (fun c244_q7 => ?_) (fun c244_q7 => ?_)
                                · skip
                                  refine g_iconst S dX2_isSame_275 ?_
                                  refine g_lv [0, 1, 2, 4, 5, 6, 7, 8] rfl ?_
                                  exact L276 0 zz_q7 kc ks ((pI_f (fun w => w.1 (by omega))).symm) (by omega) (by omega)
                                · skip
                                  refine g_aload_n S dX2_isSame_247 rfl 0 rfl ?_
                                  refine g_iload S dX2_isSame_248 7 rfl ?_
                                  refine g_sz (fun zs2 _ => ?_)
                                  refine g_ex (P := zz_q7 ≤ zs2) (fun _ h => by have y1_q7 := h.1; have y2_q7 := h.2.1; omega) (fun hzs2 => ?_)
                                  refine g_w (Wp' := fun H => H.size = zs2 ∧ va_at E.1 vwCl (sm, .inr (2, [.int (iI pg), .ref (s3 SS), .ref (s1 SS), .ref (s2 SS)])) H ∧ (SX E zc sm SS sp se n) H ∧ (CA E ad sp se al n pg) H ∧ vZ E z n wh_q7 H) (fun _ h => ⟨h.1, h.2.2⟩) ?_
                                  refine g_callV S xK (As := [.int (iI o_q7)]) (st := [.int (iI vn_q7)]) (stk' := [.int (iI (eS se n.toNat o_q7)), .int (iI vn_q7)]) (Wp' := fun H => H.size = zs2 + 1 ∧ va_at E.1 vwCl (sm, .inr (2, [.int (iI pg), .ref (s3 SS), .ref (s1 SS), .ref (s2 SS)])) H ∧ (SX E zc sm SS sp se n) H ∧ (CA E ad sp se al n pg) H ∧ vZ E z n wh_q7 H) (r := (RX2, TX2, 4)) (m_X2_end l E (zs2) (FZ.kp (z := zs2) (W := fun H => va_at E.1 vwCl (sm, .inr (2, [.int (iI pg), .ref (s3 SS), .ref (s1 SS), .ref (s2 SS)])) H ∧ (SX E zc sm SS sp se n) H ∧ (CA E ad sp se al n pg) H ∧ vZ E z n wh_q7 H)) zc sm SS sp se n pg o_q7 (fun _ h => (h.out (ST.and (LW.st LW.at) (ST.and (LW.st SX.lw) (ST.and (LW.st CA.lw) (LW.st LW.at))))).1) (fun _ h => (h.out (ST.and (LW.st LW.at) (ST.and (LW.st SX.lw) (ST.and (LW.st CA.lw) (LW.st LW.at))))).2.1) J.hn (by omega) J.hgr.1) (cwV 1 S.2.2.2.2 gX2_isSame_X2_end rfl rfl rfl (by decide +kernel) ⟨Nat.le_of_ble_eq_true rfl, Nat.le_of_ble_eq_true rfl⟩) rfl rfl rfl rfl (Nat.le_of_ble_eq_true rfl) ⟨show kc + 1 ≤ 73 by omega, show ks + 24 ≤ 1752 by omega⟩ (fun q9 (hq9 : zs2 ≤ q9) => (by show zb ≤ q9; omega)) (fun _ h => h.2.1) (fun _ h => ⟨h.1, FZ.mk h.1 h.2⟩) (fun _ _ _ h2 _ _ => ⟨h2.1, (h2.2.out (ST.and (LW.st LW.at) (ST.and (LW.st SX.lw) (ST.and (LW.st CA.lw) (LW.st LW.at))))).1, (h2.2.out (ST.and (LW.st LW.at) (ST.and (LW.st SX.lw) (ST.and (LW.st CA.lw) (LW.st LW.at))))).2.1, (h2.2.out (ST.and (LW.st LW.at) (ST.and (LW.st SX.lw) (ST.and (LW.st CA.lw) (LW.st LW.at))))).2.2.1, (h2.2.out (ST.and (LW.st LW.at) (ST.and (LW.st SX.lw) (ST.and (LW.st CA.lw) (LW.st LW.at))))).2.2.2⟩) dX2_isSame_250 ?_
                                  refine g_if_lt S (tgt := 271) dX2_isSame_253 (by decide) (by omega) (fun c253_q7 => ?_) (fun c253_q7 => ?_)
                                  · skip
                                    refine g_iconst S dX2_isSame_271 ?_
                                    refine g_goto S (tgt := 276) dX2_isSame_272 (by decide) ?_
                                    refine g_lv [0, 1, 2, 4, 5, 6, 7, 8] rfl ?_
                                    refine g_w (Wp' := fun H => zs2 + 1 ≤ H.size ∧ va_at E.1 vwCl (sm, .inr (2, [.int (iI pg), .ref (s3 SS), .ref (s1 SS), .ref (s2 SS)])) H ∧ (SX E zc sm SS sp se n) H ∧ (CA E ad sp se al n pg) H ∧ vZ E z n wh_q7 H) (fun _ h => ⟨Nat.le_of_eq h.1.symm, h.2⟩) ?_
                                    exact L276 1 (zs2 + 1) (kc + 1) (ks + 24) ((pI_t ⟨by omega, Or.inl (by omega)⟩).symm) (by omega) (by omega)
                                  · skip
                                    have ve_q7 := J.hsp (eS se n.toNat o_q7) (by omega) (by omega)
                                    have vz_q7 := ve_q7.1.1
                                    refine g_aload_n S dX2_isSame_256 rfl 0 rfl ?_
                                    refine g_get S xK (ref := "BookIndexLaw$Sim") hin2_q7 1 (by decide) (show vwCl[2]? = some (RX2, TX2, 4) from rfl) kf15 (fun _ h9 => h9) (fun _ h => h.2.1) rfl dX2_isSame_257 ?_
                                    refine g_aload_n S dX2_isSame_260 rfl 0 rfl ?_
                                    refine g_iload S dX2_isSame_261 7 rfl ?_
                                    refine g_callV S xK (As := [.int (iI o_q7)]) (st := [.ref (s3 SS), .int (iI vn_q7)]) (stk' := [.int (iI (eS se n.toNat o_q7)), .ref (s3 SS), .int (iI vn_q7)]) (Wp' := fun H => H.size = zs2 + 2 ∧ va_at E.1 vwCl (sm, .inr (2, [.int (iI pg), .ref (s3 SS), .ref (s1 SS), .ref (s2 SS)])) H ∧ (SX E zc sm SS sp se n) H ∧ (CA E ad sp se al n pg) H ∧ vZ E z n wh_q7 H) (r := (RX2, TX2, 4)) (m_X2_end l E (zs2 + 1) (FZ.kp (z := zs2 + 1) (W := fun H => va_at E.1 vwCl (sm, .inr (2, [.int (iI pg), .ref (s3 SS), .ref (s1 SS), .ref (s2 SS)])) H ∧ (SX E zc sm SS sp se n) H ∧ (CA E ad sp se al n pg) H ∧ vZ E z n wh_q7 H)) zc sm SS sp se n pg o_q7 (fun _ h => (h.out (ST.and (LW.st LW.at) (ST.and (LW.st SX.lw) (ST.and (LW.st CA.lw) (LW.st LW.at))))).1) (fun _ h => (h.out (ST.and (LW.st LW.at) (ST.and (LW.st SX.lw) (ST.and (LW.st CA.lw) (LW.st LW.at))))).2.1) J.hn (by omega) J.hgr.1) (cwV 1 S.2.2.2.2 gX2_isSame_X2_end rfl rfl rfl (by decide +kernel) ⟨Nat.le_of_ble_eq_true rfl, Nat.le_of_ble_eq_true rfl⟩) rfl rfl rfl rfl (Nat.le_of_ble_eq_true rfl) ⟨show kc + 1 + 1 ≤ 73 by omega, show ks + 24 + 24 ≤ 1752 by omega⟩ (fun q9 (hq9 : zs2 + 1 ≤ q9) => (by show zb ≤ q9; omega)) (fun _ h => h.2.1) (fun _ h => ⟨h.1, FZ.mk h.1 h.2⟩) (fun _ _ _ h2 _ _ => ⟨h2.1, (h2.2.out (ST.and (LW.st LW.at) (ST.and (LW.st SX.lw) (ST.and (LW.st CA.lw) (LW.st LW.at))))).1, (h2.2.out (ST.and (LW.st LW.at) (ST.and (LW.st SX.lw) (ST.and (LW.st CA.lw) (LW.st LW.at))))).2.1, (h2.2.out (ST.and (LW.st LW.at) (ST.and (LW.st SX.lw) (ST.and (LW.st CA.lw) (LW.st LW.at))))).2.2.1, (h2.2.out (ST.and (LW.st LW.at) (ST.and (LW.st SX.lw) (ST.and (LW.st CA.lw) (LW.st LW.at))))).2.2.2⟩) dX2_isSame_263 ?_
                                    refine g_ldR S xK (t := 4) (by decide) (n := n) (f := sB SS) (fun _ h => h.2.2.1.a3) (by omega) dX2_isSame_266 ?_
                                    refine g_lenR S xK (t := 3) (by decide) (n := (sp (eS se n.toNat o_q7)).1) (f := sR SS (eS se n.toNat o_q7)) (fun _ h => h.2.2.1.b (u := (eS se n.toNat o_q7)) (by omega)) (by omega) dX2_isSame_267 ?_
                                    refine g_if_ne S (tgt := 275) dX2_isSame_268 (by decide) (by omega) (fun c268_q7 => ?_) (fun c268_q7 => ?_)
                                    · skip
                                      refine g_iconst S dX2_isSame_275 ?_
                                      refine g_lv [0, 1, 2, 4, 5, 6, 7, 8] rfl ?_
                                      refine g_w (Wp' := fun H => zs2 + 2 ≤ H.size ∧ va_at E.1 vwCl (sm, .inr (2, [.int (iI pg), .ref (s3 SS), .ref (s1 SS), .ref (s2 SS)])) H ∧ (SX E zc sm SS sp se n) H ∧ (CA E ad sp se al n pg) H ∧ vZ E z n wh_q7 H) (fun _ h => ⟨Nat.le_of_eq h.1.symm, h.2⟩) ?_
                                      exact L276 0 (zs2 + 2) (kc + 1 + 1) (ks + 24 + 24) ((pI_f (fun w => by omega)).symm) (by omega) (by omega)
                                    · skip
                                      refine g_iconst S dX2_isSame_271 ?_
                                      refine g_goto S (tgt := 276) dX2_isSame_272 (by decide) ?_
                                      refine g_lv [0, 1, 2, 4, 5, 6, 7, 8] rfl ?_
                                      refine g_w (Wp' := fun H => zs2 + 2 ≤ H.size ∧ va_at E.1 vwCl (sm, .inr (2, [.int (iI pg), .ref (s3 SS), .ref (s1 SS), .ref (s2 SS)])) H ∧ (SX E zc sm SS sp se n) H ∧ (CA E ad sp se al n pg) H ∧ vZ E z n wh_q7 H) (fun _ h => ⟨Nat.le_of_eq h.1.symm, h.2⟩) ?_
                                      exact L276 1 (zs2 + 2) (kc + 1 + 1) (ks + 24 + 24) ((pI_t ⟨by omega, Or.inr (by omega)⟩).symm) (by omega) (by omega)
                              · skip
                                refine g_aload S dX2_isSame_217 9 rfl ?_
                                refine g_iload S dX2_isSame_219 11 rfl ?_
                                refine g_iald S xK (n := (sM SS o_q7 : Int).toNat) (F := sV SS o_q7) (fun _ h => h.2.2.1.d (u := o_q7) (by omega)) (by omega) (by omega) dX2_isSame_221 ?_
                                refine g_istore S (lv' := [(13, .int (iI (sV SS o_q7 jv_q7))), (0, .ref (sm)), (1, .ref (ad 0)), (2, .int (iI n)), (3, .int (iI vn_q7)), (4, .int (iI tt_q7)), (5, .int (iI ss_q7)), (6, .ref (z)), (7, .int (iI o_q7)), (9, .int (iI (PGS (sp o_q7)))), (10, .ref (sD SS o_q7)), (11, .int (iI (sM SS o_q7))), (12, .int (iI jv_q7))]) dX2_isSame_222 (Nat.le_of_ble_eq_true rfl) rfl ?_
                                have lv9_q7 := (hal o_q7 (by omega) (by omega)).2.2.1 jv_q7 (by omega) (by omega)
                                refine g_aload S dX2_isSame_224 7 rfl ?_
                                refine g_iload S dX2_isSame_226 0 rfl ?_
                                refine g_iconst S dX2_isSame_228 ?_
                                refine g_zast S xK (Wp' := fun H => zz_q7 ≤ H.size ∧ va_at E.1 vwCl (sm, .inr (2, [.int (iI pg), .ref (s3 SS), .ref (s1 SS), .ref (s2 SS)])) H ∧ (SX E zc sm SS sp se n) H ∧ (CA E ad sp se al n pg) H ∧ vZ E z n (upI wh_q7 (sV SS o_q7 jv_q7) 1) H) (n := (n : Int).toNat) (F := wh_q7) (Or.inr rfl) (fun _ h => h.2.2.2.2) (by omega) (by omega) ((show zb ≤ z by omega)) (fun _ _ h hv_q7 z1 oq => ⟨(by rw [z1]; exact h.1), h.2.1.kept (oq _ (by omega)), h.2.2.1.keepL hlt (by omega) oq, h.2.2.2.1.kept (fun q q1 => oq q (by have w8_q7 := (hax q q1).2; omega)), hv_q7⟩) dX2_isSame_229 ?_
                                refine g_iinc S (lv' := [(12, .int (iI (jv_q7 + 1))), (13, .int (iI (sV SS o_q7 jv_q7))), (0, .ref (sm)), (1, .ref (ad 0)), (2, .int (iI n)), (3, .int (iI vn_q7)), (4, .int (iI tt_q7)), (5, .int (iI ss_q7)), (6, .ref (z)), (7, .int (iI o_q7)), (9, .int (iI (PGS (sp o_q7)))), (10, .ref (sD SS o_q7)), (11, .int (iI (sM SS o_q7)))]) dX2_isSame_230 12 rfl (Nat.le_of_ble_eq_true rfl) rfl ?_
                                refine g_goto S (tgt := 210) dX2_isSame_233 (by decide) ?_
                                refine g_lv [2, 3, 4, 5, 6, 7, 8, 9, 10, 11, 12, 0] rfl ?_
                                exact ihL210 (jv_q7 + 1) (upI wh_q7 (sV SS o_q7 jv_q7) 1) zz_q7 kc ks (by omega) (tru_s hth_q7 (fun i i0 i1 => lej_s hjv_q7.1)) (by omega) (by omega) (by omega)
                          refine g_lv [3, 4, 5, 6, 7, 8, 9, 10, 11, 2, 1, 0] rfl ?_
                          exact L210 ((sM SS o_q7 - 0) + 1).toNat 0 wg_q7 zz_q7 kc ks (by omega) (tru_c htg_q7 (fun i i0 i1 => lej_0)) (by omega) (by omega) (by omega)
                        refine g_aload_n S dX2_isSame_172 rfl 0 rfl ?_
                        refine g_get S xK (ref := "BookIndexLaw$Sim") hin2_q7 2 (by decide) (show vwCl[2]? = some (RX2, TX2, 4) from rfl) kf19 (fun _ h9 => h9) (fun _ h => h.2.1) rfl dX2_isSame_173 ?_
                        refine g_iload S dX2_isSame_176 7 rfl ?_
                        refine g_iald S xK (n := (n : Int).toNat) (F := se) (fun _ h => h.2.2.1.a1) (by omega) (by omega) dX2_isSame_178 ?_
                        refine g_if_lt S (tgt := 193) dX2_isSame_179 (by decide) (by omega) (fun c179_q7 => ?_) (fun c179_q7 => ?_)
                        · skip
                          refine g_lv [0, 1, 2, 3, 4, 5, 6, 7, 9] rfl ?_
                          exact L193 wf_q7 zz_q7 kc ks (tru_c htr_q7 (fun i i0 i1 => ⟨fun w => w.elim id (fun w => by omega), Or.inl⟩)) (by omega) (by omega)
                        · skip
                          refine g_aload S dX2_isSame_182 6 rfl ?_
                          refine g_aload_n S dX2_isSame_184 rfl 0 rfl ?_
                          refine g_get S xK (ref := "BookIndexLaw$Sim") hin2_q7 2 (by decide) (show vwCl[2]? = some (RX2, TX2, 4) from rfl) kf19 (fun _ h9 => h9) (fun _ h => h.2.1) rfl dX2_isSame_185 ?_
                          refine g_iload S dX2_isSame_188 7 rfl ?_
                          refine g_iald S xK (n := (n : Int).toNat) (F := se) (fun _ h => h.2.2.1.a1) (by omega) (by omega) dX2_isSame_190 ?_
                          refine g_iconst S dX2_isSame_191 ?_
                          refine g_zast S xK (Wp' := fun H => zz_q7 ≤ H.size ∧ va_at E.1 vwCl (sm, .inr (2, [.int (iI pg), .ref (s3 SS), .ref (s1 SS), .ref (s2 SS)])) H ∧ (SX E zc sm SS sp se n) H ∧ (CA E ad sp se al n pg) H ∧ vZ E z n (upI wf_q7 (se o_q7) 1) H) (n := (n : Int).toNat) (F := wf_q7) (Or.inr rfl) (fun _ h => h.2.2.2.2) (by omega) (by omega) ((show zb ≤ z by omega)) (fun _ _ h hv_q7 z1 oq => ⟨(by rw [z1]; exact h.1), h.2.1.kept (oq _ (by omega)), h.2.2.1.keepL hlt (by omega) oq, h.2.2.2.1.kept (fun q q1 => oq q (by have w8_q7 := (hax q q1).2; omega)), hv_q7⟩) dX2_isSame_192 ?_
                          refine g_lv [0, 1, 2, 3, 4, 5, 6, 7, 9] rfl ?_
                          exact L193 (upI wf_q7 (se o_q7) 1) zz_q7 kc ks (tru_s htr_q7 (fun i i0 i1 => Iff.rfl)) (by omega) (by omega)
                      · skip
                        have vj_q7 := v9_q7.1.2.2.1 jv_q7 (by omega) (by omega)
                        refine g_aload_n S dX2_isSame_128 rfl 1 rfl ?_
                        refine g_iload S dX2_isSame_129 7 rfl ?_
                        refine g_iload S dX2_isSame_131 10 rfl ?_
                        refine g_callV S xK (As := [.int (iI o_q7), .int (iI jv_q7)]) (st := []) (stk' := [.int (iI ((sp o_q7).2.1 jv_q7))]) (Wp' := fun H => zz_q7 ≤ H.size ∧ va_at E.1 vwCl (sm, .inr (2, [.int (iI pg), .ref (s3 SS), .ref (s1 SS), .ref (s2 SS)])) H ∧ (SX E zc sm SS sp se n) H ∧ (CA E ad sp se al n pg) H ∧ vZ E z n wf_q7 H) (r := (RX1, TX1, 9)) (q_startOf l E hj J o_q7 jv_q7 (by omega) (by omega)) (cwV 2 S.2.2.2.2 gX2_isSame_X1_startOf rfl rfl rfl (by decide +kernel) ⟨Nat.le_of_ble_eq_true rfl, Nat.le_of_ble_eq_true rfl⟩) rfl rfl rfl rfl (Nat.le_of_ble_eq_true rfl) ⟨show kc + 0 ≤ 73 by omega, show ks + 0 ≤ 1752 by omega⟩ (fun q9 h9 => (hax q9 h9).1) (fun _ h => h.2.2.2.1.cx) (fun _ h => h.2.2.2.1) (fun _ _ h h2 hle hq => ⟨Nat.le_trans h.1 hle, h.2.1.kept (hq _ h.2.1.lt (fun w9_q7 => by have w8_q7 := (hax _ w9_q7).2; omega)), h.2.2.1.far (fun q q1 q2 => hq q q1 (fun w9_q7 => by have w8_q7 := (hax q w9_q7).2; omega)), h2, h.2.2.2.2.kept (hq _ h.2.2.2.2.lt (fun w9_q7 => by have w8_q7 := (hax _ w9_q7).2; omega))⟩) dX2_isSame_133 ?_
                        refine g_aload S dX2_isSame_136 8 rfl ?_
                        refine g_iload S dX2_isSame_138 10 rfl ?_
                        refine g_ldR S xK (t := 3) (by decide) (n := (sp o_q7).1) (f := sR SS o_q7) (fun _ h => h.2.2.1.b (u := o_q7) (by omega)) (by omega) dX2_isSame_140 ?_
                        refine g_iconst S dX2_isSame_141 ?_
                        refine g_iald S xK (n := (2 : Int).toNat) (F := pr ((sp o_q7).2.1 jv_q7) ((sp o_q7).2.2 jv_q7)) (fun _ h => h.2.2.1.r (u := o_q7) (k := jv_q7) (by omega) (by omega)) (by omega) (by omega) dX2_isSame_142 ?_
                        refine g_st1 (v2 := .int (iI ((sp o_q7).2.1 jv_q7))) rfl ?_
                        refine g_icmp_ne S (tgt := 164) dX2_isSame_143 (by decide) (by omega) (fun c143_q7 => ?_) (fun c143_q7 => ?_)
                        · skip
                          exact absurd c143_q7 (by omega)
                        · skip
                          refine g_aload_n S dX2_isSame_146 rfl 1 rfl ?_
                          refine g_iload S dX2_isSame_147 7 rfl ?_
                          refine g_iload S dX2_isSame_149 10 rfl ?_
                          refine g_callV S xK (As := [.int (iI o_q7), .int (iI jv_q7)]) (st := []) (stk' := [.int (iI ((sp o_q7).2.2 jv_q7))]) (Wp' := fun H => zz_q7 ≤ H.size ∧ va_at E.1 vwCl (sm, .inr (2, [.int (iI pg), .ref (s3 SS), .ref (s1 SS), .ref (s2 SS)])) H ∧ (SX E zc sm SS sp se n) H ∧ (CA E ad sp se al n pg) H ∧ vZ E z n wf_q7 H) (r := (RX1, TX1, 9)) (q_endOf l E hj J o_q7 jv_q7 (by omega) (by omega)) (cwV 2 S.2.2.2.2 gX2_isSame_X1_endOf rfl rfl rfl (by decide +kernel) ⟨Nat.le_of_ble_eq_true rfl, Nat.le_of_ble_eq_true rfl⟩) rfl rfl rfl rfl (Nat.le_of_ble_eq_true rfl) ⟨show kc + 0 ≤ 73 by omega, show ks + 0 ≤ 1752 by omega⟩ (fun q9 h9 => (hax q9 h9).1) (fun _ h => h.2.2.2.1.cx) (fun _ h => h.2.2.2.1) (fun _ _ h h2 hle hq => ⟨Nat.le_trans h.1 hle, h.2.1.kept (hq _ h.2.1.lt (fun w9_q7 => by have w8_q7 := (hax _ w9_q7).2; omega)), h.2.2.1.far (fun q q1 q2 => hq q q1 (fun w9_q7 => by have w8_q7 := (hax q w9_q7).2; omega)), h2, h.2.2.2.2.kept (hq _ h.2.2.2.2.lt (fun w9_q7 => by have w8_q7 := (hax _ w9_q7).2; omega))⟩) dX2_isSame_151 ?_
                          refine g_aload S dX2_isSame_154 8 rfl ?_
                          refine g_iload S dX2_isSame_156 10 rfl ?_
                          refine g_ldR S xK (t := 3) (by decide) (n := (sp o_q7).1) (f := sR SS o_q7) (fun _ h => h.2.2.1.b (u := o_q7) (by omega)) (by omega) dX2_isSame_158 ?_
                          refine g_iconst S dX2_isSame_159 ?_
                          refine g_iald S xK (n := (2 : Int).toNat) (F := pr ((sp o_q7).2.1 jv_q7) ((sp o_q7).2.2 jv_q7)) (fun _ h => h.2.2.1.r (u := o_q7) (k := jv_q7) (by omega) (by omega)) (by omega) (by omega) dX2_isSame_160 ?_
                          refine g_st1 (v2 := .int (iI ((sp o_q7).2.2 jv_q7))) rfl ?_
                          refine g_icmp_eq S (tgt := 166) dX2_isSame_161 (by decide) (by omega) (fun c161_q7 => ?_) (fun c161_q7 => ?_)
                          · skip
                            refine g_iinc S (lv' := [(10, .int (iI (jv_q7 + 1))), (0, .ref (sm)), (1, .ref (ad 0)), (2, .int (iI n)), (3, .int (iI vn_q7)), (4, .int (iI tt_q7)), (5, .int (iI ss_q7)), (6, .ref (z)), (7, .int (iI o_q7)), (8, .ref (sB SS o_q7)), (9, .int (iI (PGS (sp o_q7))))]) dX2_isSame_166 10 rfl (Nat.le_of_ble_eq_true rfl) rfl ?_
                            refine g_goto S (tgt := 120) dX2_isSame_169 (by decide) ?_
                            refine g_lv [1, 2, 3, 4, 5, 6, 7, 8, 9, 10, 0] rfl ?_
                            exact ihL120 (jv_q7 + 1) zz_q7 kc ks (by omega) (by omega) (by omega) (by omega)
                          · skip
                            exact absurd c161_q7 (by omega)
                  refine g_lv [3, 4, 5, 6, 7, 8, 9, 10, 2, 1, 0] rfl ?_
                  refine g_w (Wp' := fun H => zs1 + 1 ≤ H.size ∧ va_at E.1 vwCl (sm, .inr (2, [.int (iI pg), .ref (s3 SS), .ref (s1 SS), .ref (s2 SS)])) H ∧ (SX E zc sm SS sp se n) H ∧ (CA E ad sp se al n pg) H ∧ vZ E z n wf_q7 H) (fun _ h => ⟨Nat.le_of_eq h.1.symm, h.2⟩) ?_
                  exact L120 (((sp o_q7).1 - 0) + 1).toNat 0 (zs1 + 1) (kc + 1) (ks + 24) (by omega) (by omega) (by omega) (by omega)
                · skip
                  exact absurd c112_q7 (by omega)
  refine g_lv [6, 7, 5, 4, 3, 2, 1, 0] rfl ?_
  refine g_w (Wp' := fun H => z + 1 ≤ H.size ∧ va_at E.1 vwCl (sm, .inr (2, [.int (iI pg), .ref (s3 SS), .ref (s1 SS), .ref (s2 SS)])) H ∧ (SX E zc sm SS sp se n) H ∧ (CA E ad sp se al n pg) H ∧ vZ E z n (fun _ => 0) H) (fun _ h => ⟨Nat.le_of_eq h.1.symm, h.2⟩) ?_
  exact L22 ((n - 0) + 1).toNat 0 0 0 0 (fun _ => 0) (z + 1) (0 + 1) (0 + (n : Int).toNat) (by omega) (rfl) (rfl) (rfl) (tru_0 (fun _ => led_0)) (by omega) (by omega) (by omega)
