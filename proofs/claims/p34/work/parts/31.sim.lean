/-! THE INDEX BY HAND: what changes it -/
set_option maxHeartbeats 4000000 in
set_option maxRecDepth 100000 in
theorem m_X2_putIn (l : Launch) (E : EN) (zc sm : Nat) (SS : SA) (sp : Int → SpT) (se : Int → Int) (n pg : Int) (q mn : Int) (hn : 0 ≤ n ∧ n ≤ 24) (hpg : 1 ≤ pg ∧ pg ≤ 300) (hsp : SPV sp n pg) (hT : TG zc sm SS sp n) (hq : 1 ≤ q ∧ q ≤ 301 ∧ 1 ≤ mn ∧ mn ≤ 100) : Met l yX2_putIn wsX2_putIn ({ frames := 0, cells := 0, slots := 0, locals := 0 }) (CI E [.ref (sm), .int (iI q), .int (iI mn)] (fun H => va_at E.1 vwCl (sm, .inr (2, [.int (iI pg), .ref (s3 SS), .ref (s1 SS), .ref (s2 SS)])) H ∧ (SX E zc sm SS sp se n) H)) (QW (none) (fun H => va_at E.1 vwCl (sm, .inr (2, [.int (iI (pg + mn)), .ref (s3 SS), .ref (s1 SS), .ref (s2 SS)])) H ∧ SX E zc sm SS (fun i => mvd (sp i) q mn (sp i).1) se n H) (fun q0 => zc ≤ q0)) 0 0 (fun q0 => zc ≤ q0) := by
  refine g_met (cc := cX2_putIn) (maxL := 11) (ret := none) (lv := [(0, .ref (sm)), (1, .int (iI q)), (2, .int (iI mn))]) (by decide) rfl (Nat.le_of_ble_eq_true rfl) rfl ?_
  intro xp xe xs xm xa xb xh xc S xK xr xlk xin
  have kf7 := S.2.2.2.2 (.fieldLink RX2 7 "BookIndexLaw$Sim" "pages" "I") (by decide +kernel)
  have kf15 := S.2.2.2.2 (.fieldLink RX2 15 "BookIndexLaw$Sim" "spans" "[[[I") (by decide +kernel)
  have hin2_q7 : ∀ w ∈ wsX20, w ∈ wsX2_putIn := by decide +kernel
  refine g_aload_n S dX2_putIn_0 rfl 0 rfl ?_
  refine g_dup S dX2_putIn_1 rfl ?_
  refine g_get S xK (ref := "BookIndexLaw$Sim") hin2_q7 0 (by decide) (show vwCl[2]? = some (RX2, TX2, 4) from rfl) kf7 (fun _ h9 => h9) (fun _ h => h.1) rfl dX2_putIn_2 ?_
  refine g_iload_n S dX2_putIn_5 rfl 2 rfl ?_
  refine g_iadd S dX2_putIn_6 ?_
  refine g_put S xK (Wp' := fun H => va_at E.1 vwCl (sm, .inr (2, [.int (iI (pg + mn)), .ref (s3 SS), .ref (s1 SS), .ref (s2 SS)])) H ∧ (SX E zc sm SS sp se n) H) (ref := "BookIndexLaw$Sim") (ty := .int) hin2_q7 tyX2 tyX2_ok nmX2 0 (by decide) (show vwCl[2]? = some (RX2, TX2, 4) from rfl) kf7 (fun _ h9 => h9) rfl (by decide +kernel) rfl rfl (fun _ h => h.1) (Nat.le_of_ble_eq_true rfl) (hT.sge) (fun _ _ h hv z1 oq => ⟨hv, h.2.keep (Or.inl h.2.tg.2.1) oq⟩) dX2_putIn_7 ?_
  refine g_aload_n S dX2_putIn_10 rfl 0 rfl ?_
  refine g_get S xK (ref := "BookIndexLaw$Sim") hin2_q7 1 (by decide) (show vwCl[2]? = some (RX2, TX2, 4) from rfl) kf15 (fun _ h9 => h9) (fun _ h => h.1) rfl dX2_putIn_11 ?_
  refine g_astore_n S (lv' := [(3, .ref (s3 SS)), (0, .ref (sm)), (1, .int (iI q)), (2, .int (iI mn))]) dX2_putIn_14 rfl (Nat.le_of_ble_eq_true rfl) rfl ?_
  refine g_aload_n S dX2_putIn_15 rfl 0 rfl ?_
  refine g_lenR S xK (t := 4) (by decide) (n := n) (f := sB SS) (fun _ h => h.2.a3) (by omega) dX2_putIn_16 ?_
  refine g_istore S (lv' := [(4, .int (iI n)), (3, .ref (s3 SS)), (0, .ref (sm)), (1, .int (iI q)), (2, .int (iI mn))]) dX2_putIn_17 (Nat.le_of_ble_eq_true rfl) rfl ?_
  refine g_iconst S dX2_putIn_19 ?_
  refine g_istore S (lv' := [(5, .int (iI 0)), (4, .int (iI n)), (3, .ref (s3 SS)), (0, .ref (sm)), (1, .int (iI q)), (2, .int (iI mn))]) dX2_putIn_20 (Nat.le_of_ble_eq_true rfl) rfl ?_
  have L22 : ∀ (nf : Nat) (o_q7 : Int) (hs_q7 : Int → SpT), (0 ≤ o_q7 ∧ o_q7 ≤ n) → ((∀ i : Int, 0 ≤ i → i < o_q7 → hs_q7 i = mvd (sp i) q mn (sp i).1) ∧ ∀ i : Int, o_q7 ≤ i → i < n → hs_q7 i = sp i) → (n - o_q7 < (nf : Int)) → G xp l xe ({ frames := 0, cells := 0, slots := 0, locals := 0 }) xs xm xa xb xh xc 11 (fun q0 => zc ≤ q0) 0 0 (MQ xb (QW (none) (fun H => va_at E.1 vwCl (sm, .inr (2, [.int (iI (pg + mn)), .ref (s3 SS), .ref (s1 SS), .ref (s2 SS)])) H ∧ SX E zc sm SS (fun i => mvd (sp i) q mn (sp i).1) se n H) (fun q0 => zc ≤ q0)) xa xs 0 0 (fun q0 => zc ≤ q0)) 22 [(1, .int (iI q)), (2, .int (iI mn)), (3, .ref (s3 SS)), (4, .int (iI n)), (5, .int (iI o_q7))] [] (fun H => va_at E.1 vwCl (sm, .inr (2, [.int (iI (pg + mn)), .ref (s3 SS), .ref (s1 SS), .ref (s2 SS)])) H ∧ (SX E zc sm SS hs_q7 se n) H) := by
    intro nf
    induction nf with
    | zero =>
      intro o_q7 hs_q7 ho_q7 hh_q7 hmf
      exfalso
      omega
    | succ nf ihL22 =>
      intro o_q7 hs_q7 ho_q7 hh_q7 hmf
      refine g_iload S dX2_putIn_22 4 rfl ?_
      refine g_iload S dX2_putIn_24 3 rfl ?_
      refine g_icmp_ge S (tgt := 105) dX2_putIn_26 (by decide) (by omega) (fun c26_q7 => ?_) (fun c26_q7 => ?_)
      · skip
        exact g_vret S xr xlk dX2_putIn_105 (fun _ h => ⟨h.1, h.2.eq (fun i i0 i1 => by rw [hh_q7.1 i i0 (by omega)]; exact ⟨rfl, fun _ _ _ => ⟨rfl, rfl⟩⟩) (fun _ _ _ => rfl)⟩)
      · skip
        refine g_aload_n S dX2_putIn_29 rfl 2 rfl ?_
        refine g_iload S dX2_putIn_30 4 rfl ?_
        refine g_ldR S xK (t := 4) (by decide) (n := n) (f := sB SS) (fun _ h => h.2.a3) (by omega) dX2_putIn_32 ?_
        refine g_astore S (lv' := [(6, .ref (sB SS o_q7)), (1, .int (iI q)), (2, .int (iI mn)), (3, .ref (s3 SS)), (4, .int (iI n)), (5, .int (iI o_q7))]) dX2_putIn_33 (Nat.le_of_ble_eq_true rfl) rfl ?_
        refine g_aload S dX2_putIn_35 0 rfl ?_
        refine g_astore S (lv' := [(7, .ref (sB SS o_q7)), (6, .ref (sB SS o_q7)), (1, .int (iI q)), (2, .int (iI mn)), (3, .ref (s3 SS)), (4, .int (iI n)), (5, .int (iI o_q7))]) dX2_putIn_37 (Nat.le_of_ble_eq_true rfl) rfl ?_
        have n7_q7 := (hsp o_q7 (by omega) (by omega)).1.1
        have w9_q7 : hs_q7 o_q7 = sp o_q7 := hh_q7.2 o_q7 (by omega) (by omega)
        have y9_q7 := (hsp o_q7 (by omega) (by omega)).1.1
        have y8_q7 := (hsp o_q7 (by omega) (by omega)).2
        rw [← w9_q7] at y9_q7 y8_q7
        have L47 : ∀ (nf : Nat) (jv_q7 : Int) (hx_q7 : Int → SpT), (0 ≤ jv_q7 ∧ jv_q7 ≤ (sp o_q7).1) → (hx_q7 o_q7 = mvd (sp o_q7) q mn jv_q7 ∧ ∀ i : Int, 0 ≤ i → i < n → i ≠ o_q7 → hx_q7 i = hs_q7 i) → ((sp o_q7).1 - jv_q7 < (nf : Int)) → G xp l xe ({ frames := 0, cells := 0, slots := 0, locals := 0 }) xs xm xa xb xh xc 11 (fun q0 => zc ≤ q0) 0 0 (MQ xb (QW (none) (fun H => va_at E.1 vwCl (sm, .inr (2, [.int (iI (pg + mn)), .ref (s3 SS), .ref (s1 SS), .ref (s2 SS)])) H ∧ SX E zc sm SS (fun i => mvd (sp i) q mn (sp i).1) se n H) (fun q0 => zc ≤ q0)) xa xs 0 0 (fun q0 => zc ≤ q0)) 47 [(1, .int (iI q)), (2, .int (iI mn)), (3, .ref (s3 SS)), (4, .int (iI n)), (5, .int (iI o_q7)), (7, .ref (sB SS o_q7)), (8, .int (iI ((sp o_q7).1))), (9, .int (iI jv_q7))] [] (fun H => va_at E.1 vwCl (sm, .inr (2, [.int (iI (pg + mn)), .ref (s3 SS), .ref (s1 SS), .ref (s2 SS)])) H ∧ (SX E zc sm SS hx_q7 se n) H) := by
          intro nf
          induction nf with
          | zero =>
            intro jv_q7 hx_q7 hj_q7 hx9_q7 hmf
            exfalso
            omega
          | succ nf ihL47 =>
            intro jv_q7 hx_q7 hj_q7 hx9_q7 hmf
            have e9_q7 : (hx_q7 o_q7).1 = (sp o_q7).1 := by rw [hx9_q7.1]; rfl
            have n9_q7 := (hsp o_q7 (by omega) (by omega)).1.1
            have n8_q7 := (hsp o_q7 (by omega) (by omega)).2
            refine g_iload S dX2_putIn_47 7 rfl ?_
            refine g_iload S dX2_putIn_49 6 rfl ?_
            refine g_icmp_ge S (tgt := 99) dX2_putIn_51 (by decide) (by omega) (fun c51_q7 => ?_) (fun c51_q7 => ?_)
            · skip
              refine g_iinc S (lv' := [(5, .int (iI (o_q7 + 1))), (1, .int (iI q)), (2, .int (iI mn)), (3, .ref (s3 SS)), (4, .int (iI n)), (7, .ref (sB SS o_q7)), (8, .int (iI ((sp o_q7).1))), (9, .int (iI jv_q7))]) dX2_putIn_99 4 rfl (Nat.le_of_ble_eq_true rfl) rfl ?_
              refine g_goto S (tgt := 22) dX2_putIn_102 (by decide) ?_
              refine g_lv [1, 2, 3, 4, 0] rfl ?_
              exact ihL22 (o_q7 + 1) hx_q7 (by omega) (⟨fun i i0 i1 => by by_cases e : i = o_q7; (rw [e, hx9_q7.1, show jv_q7 = (sp o_q7).1 by omega]); (rw [hx9_q7.2 i i0 (by omega) e]; exact hh_q7.1 i i0 (by omega)), fun i i0 i1 => by rw [hx9_q7.2 i (by omega) i1 (by omega)]; exact hh_q7.2 i (by omega) i1⟩) (by omega)
            · skip
              refine g_aload S dX2_putIn_54 5 rfl ?_
              refine g_iload S dX2_putIn_56 7 rfl ?_
              refine g_ldR S xK (t := 3) (by decide) (n := (hx_q7 o_q7).1) (f := sR SS o_q7) (fun _ h => h.2.b (u := o_q7) (by omega)) (by omega) dX2_putIn_58 ?_
              have q9_q7 := hT.ner (u := o_q7) (k := jv_q7) (by omega) (by omega)
              have v9_q7 := (hsp o_q7 (by omega) (by omega)).1.2.2.1 jv_q7 (by omega) (by omega)
              have l9_q7 : (hx_q7 o_q7).2.2 jv_q7 = (sp o_q7).2.2 jv_q7 := by rw [hx9_q7.1]; exact mvd_l _ _ _ _
              have L77 : ∀ (hy_q7 : Int → SpT), (hy_q7 o_q7 = ((sp o_q7).1, (mvd (sp o_q7) q mn jv_q7).2.1, (mvd (sp o_q7) q mn (jv_q7 + 1)).2.2) ∧ ∀ i : Int, 0 ≤ i → i < n → i ≠ o_q7 → hy_q7 i = hs_q7 i) → G xp l xe ({ frames := 0, cells := 0, slots := 0, locals := 0 }) xs xm xa xb xh xc 11 (fun q0 => zc ≤ q0) 0 0 (MQ xb (QW (none) (fun H => va_at E.1 vwCl (sm, .inr (2, [.int (iI (pg + mn)), .ref (s3 SS), .ref (s1 SS), .ref (s2 SS)])) H ∧ SX E zc sm SS (fun i => mvd (sp i) q mn (sp i).1) se n H) (fun q0 => zc ≤ q0)) xa xs 0 0 (fun q0 => zc ≤ q0)) 77 [(1, .int (iI q)), (2, .int (iI mn)), (3, .ref (s3 SS)), (4, .int (iI n)), (5, .int (iI o_q7)), (7, .ref (sB SS o_q7)), (8, .int (iI ((sp o_q7).1))), (9, .int (iI jv_q7)), (10, .ref (sR SS o_q7 jv_q7))] [] (fun H => va_at E.1 vwCl (sm, .inr (2, [.int (iI (pg + mn)), .ref (s3 SS), .ref (s1 SS), .ref (s2 SS)])) H ∧ (SX E zc sm SS hy_q7 se n) H) := by
                intro hy_q7 hy9_q7
                have e8_q7 : (hy_q7 o_q7).1 = (sp o_q7).1 := by rw [hy9_q7.1]
                have f8_q7 : (hy_q7 o_q7).2.1 jv_q7 = (sp o_q7).2.1 jv_q7 := by rw [hy9_q7.1]; exact mvd_f _ _ _ _
                refine g_aload S dX2_putIn_77 8 rfl ?_
                refine g_iconst S dX2_putIn_79 ?_
                refine g_iald S xK (n := (2 : Int).toNat) (F := pr ((hy_q7 o_q7).2.1 jv_q7) ((hy_q7 o_q7).2.2 jv_q7)) (fun _ h => h.2.r (u := o_q7) (k := jv_q7) (by omega) (by omega)) (by omega) (by omega) dX2_putIn_80 ?_
                refine g_st1 (v2 := .int (iI ((hy_q7 o_q7).2.1 jv_q7))) rfl ?_
                refine g_iload_n S dX2_putIn_81 rfl 0 rfl ?_
                refine g_icmp_lt S (tgt := 93) dX2_putIn_82 (by decide) (by omega) (fun c82_q7 => ?_) (fun c82_q7 => ?_)
                · skip
                  refine g_iinc S (lv' := [(9, .int (iI (jv_q7 + 1))), (1, .int (iI q)), (2, .int (iI mn)), (3, .ref (s3 SS)), (4, .int (iI n)), (5, .int (iI o_q7)), (7, .ref (sB SS o_q7)), (8, .int (iI ((sp o_q7).1))), (10, .ref (sR SS o_q7 jv_q7))]) dX2_putIn_93 7 rfl (Nat.le_of_ble_eq_true rfl) rfl ?_
                  refine g_goto S (tgt := 47) dX2_putIn_96 (by decide) ?_
                  refine g_lv [1, 2, 3, 4, 5, 6, 7, 0] rfl ?_
                  exact ihL47 (jv_q7 + 1) hy_q7 (by omega) (⟨mv_f0 hy9_q7.1 (by omega), hy9_q7.2⟩) (by omega)
                · skip
                  refine g_aload S dX2_putIn_85 8 rfl ?_
                  refine g_iconst S dX2_putIn_87 ?_
                  refine g_dup2 S dX2_putIn_88 rfl rfl ?_
                  refine g_iald S xK (n := (2 : Int).toNat) (F := pr ((hy_q7 o_q7).2.1 jv_q7) ((hy_q7 o_q7).2.2 jv_q7)) (fun _ h => h.2.r (u := o_q7) (k := jv_q7) (by omega) (by omega)) (by omega) (by omega) dX2_putIn_89 ?_
                  refine g_st1 (v2 := .int (iI ((hy_q7 o_q7).2.1 jv_q7))) rfl ?_
                  refine g_iload_n S dX2_putIn_90 rfl 1 rfl ?_
                  refine g_iadd S dX2_putIn_91 ?_
                  refine g_iast S xK (Wp' := fun H => va_at E.1 vwCl (sm, .inr (2, [.int (iI (pg + mn)), .ref (s3 SS), .ref (s1 SS), .ref (s2 SS)])) H ∧ (SX E zc sm SS (upI hy_q7 o_q7 ((hy_q7 o_q7).1, upI (hy_q7 o_q7).2.1 jv_q7 ((hy_q7 o_q7).2.1 jv_q7 + mn), upI (hy_q7 o_q7).2.2 jv_q7 ((hy_q7 o_q7).2.2 jv_q7))) se n) H) (n := (2 : Int).toNat) (F := pr ((hy_q7 o_q7).2.1 jv_q7) ((hy_q7 o_q7).2.2 jv_q7)) (fun _ h => h.2.r (u := o_q7) (k := jv_q7) (by omega) (by omega)) (by omega) (by omega) (hT.rge (by omega) (by omega)) (fun _ _ h hv z1 oq => ⟨h.1.kept (oq _ (by omega)), SX.setRow h.2 (u := o_q7) (k := jv_q7) (by omega) (by omega) (by rw [pr_u0] at hv; exact hv) oq⟩) dX2_putIn_92 ?_
                  refine g_iinc S (lv' := [(9, .int (iI (jv_q7 + 1))), (1, .int (iI q)), (2, .int (iI mn)), (3, .ref (s3 SS)), (4, .int (iI n)), (5, .int (iI o_q7)), (7, .ref (sB SS o_q7)), (8, .int (iI ((sp o_q7).1))), (10, .ref (sR SS o_q7 jv_q7))]) dX2_putIn_93 7 rfl (Nat.le_of_ble_eq_true rfl) rfl ?_
                  refine g_goto S (tgt := 47) dX2_putIn_96 (by decide) ?_
                  refine g_lv [1, 2, 3, 4, 5, 6, 7, 0] rfl ?_
                  exact ihL47 (jv_q7 + 1) (upI hy_q7 o_q7 ((hy_q7 o_q7).1, upI (hy_q7 o_q7).2.1 jv_q7 ((hy_q7 o_q7).2.1 jv_q7 + mn), upI (hy_q7 o_q7).2.2 jv_q7 ((hy_q7 o_q7).2.2 jv_q7))) (by omega) (⟨by rw [upI_s]; exact mv_f1 hj_q7.1 hy9_q7.1 (by omega), fun i i0 i1 i2 => by rw [upI_n _ _ i2]; exact hy9_q7.2 i i0 i1 i2⟩) (by omega)
              refine g_astore S (lv' := [(10, .ref (sR SS o_q7 jv_q7)), (1, .int (iI q)), (2, .int (iI mn)), (3, .ref (s3 SS)), (4, .int (iI n)), (5, .int (iI o_q7)), (7, .ref (sB SS o_q7)), (8, .int (iI ((sp o_q7).1))), (9, .int (iI jv_q7))]) dX2_putIn_59 (Nat.le_of_ble_eq_true rfl) rfl ?_
              refine g_aload S dX2_putIn_61 0 rfl ?_
              refine g_iconst S dX2_putIn_63 ?_
              refine g_iald S xK (n := (2 : Int).toNat) (F := pr ((hx_q7 o_q7).2.1 jv_q7) ((hx_q7 o_q7).2.2 jv_q7)) (fun _ h => h.2.r (u := o_q7) (k := jv_q7) (by omega) (by omega)) (by omega) (by omega) dX2_putIn_64 ?_
              refine g_st1 (v2 := .int (iI ((hx_q7 o_q7).2.2 jv_q7))) rfl ?_
              refine g_iload_n S dX2_putIn_65 rfl 1 rfl ?_
              refine g_icmp_lt S (tgt := 77) dX2_putIn_66 (by decide) (by omega) (fun c66_q7 => ?_) (fun c66_q7 => ?_)
              · skip
                refine g_lv [1, 2, 3, 4, 5, 6, 7, 8, 0] rfl ?_
                exact L77 hx_q7 (⟨(mv_l0 hx9_q7.1 (by omega) : hx_q7 o_q7 = _), hx9_q7.2⟩)
              · skip
                refine g_aload S dX2_putIn_69 0 rfl ?_
                refine g_iconst S dX2_putIn_71 ?_
                refine g_dup2 S dX2_putIn_72 rfl rfl ?_
                refine g_iald S xK (n := (2 : Int).toNat) (F := pr ((hx_q7 o_q7).2.1 jv_q7) ((hx_q7 o_q7).2.2 jv_q7)) (fun _ h => h.2.r (u := o_q7) (k := jv_q7) (by omega) (by omega)) (by omega) (by omega) dX2_putIn_73 ?_
                refine g_st1 (v2 := .int (iI ((hx_q7 o_q7).2.2 jv_q7))) rfl ?_
                refine g_iload_n S dX2_putIn_74 rfl 2 rfl ?_
                refine g_iadd S dX2_putIn_75 ?_
                refine g_iast S xK (Wp' := fun H => va_at E.1 vwCl (sm, .inr (2, [.int (iI (pg + mn)), .ref (s3 SS), .ref (s1 SS), .ref (s2 SS)])) H ∧ (SX E zc sm SS (upI hx_q7 o_q7 ((hx_q7 o_q7).1, upI (hx_q7 o_q7).2.1 jv_q7 ((hx_q7 o_q7).2.1 jv_q7), upI (hx_q7 o_q7).2.2 jv_q7 ((hx_q7 o_q7).2.2 jv_q7 + mn))) se n) H) (n := (2 : Int).toNat) (F := pr ((hx_q7 o_q7).2.1 jv_q7) ((hx_q7 o_q7).2.2 jv_q7)) (fun _ h => h.2.r (u := o_q7) (k := jv_q7) (by omega) (by omega)) (by omega) (by omega) (hT.rge (by omega) (by omega)) (fun _ _ h hv z1 oq => ⟨h.1.kept (oq _ (by omega)), SX.setRow h.2 (u := o_q7) (k := jv_q7) (by omega) (by omega) (by rw [pr_u1] at hv; exact hv) oq⟩) dX2_putIn_76 ?_
                refine g_lv [1, 2, 3, 4, 5, 6, 7, 8, 0] rfl ?_
                exact L77 (upI hx_q7 o_q7 ((hx_q7 o_q7).1, upI (hx_q7 o_q7).2.1 jv_q7 ((hx_q7 o_q7).2.1 jv_q7), upI (hx_q7 o_q7).2.2 jv_q7 ((hx_q7 o_q7).2.2 jv_q7 + mn))) (⟨by rw [upI_s]; exact mv_l1 hj_q7.1 hx9_q7.1 (by omega), fun i i0 i1 i2 => by rw [upI_n _ _ i2]; exact hx9_q7.2 i i0 i1 i2⟩)
        refine g_aload S dX2_putIn_39 0 rfl ?_
        refine g_lenR S xK (t := 3) (by decide) (n := (hs_q7 o_q7).1) (f := sR SS o_q7) (fun _ h => h.2.b (u := o_q7) (by omega)) (by omega) dX2_putIn_41 ?_
        rw [show (hs_q7 o_q7).1 = (sp o_q7).1 from by rw [hh_q7.2 o_q7 (by omega) (by omega)]]
        refine g_istore S (lv' := [(8, .int (iI ((sp o_q7).1))), (7, .ref (sB SS o_q7)), (6, .ref (sB SS o_q7)), (1, .int (iI q)), (2, .int (iI mn)), (3, .ref (s3 SS)), (4, .int (iI n)), (5, .int (iI o_q7))]) dX2_putIn_42 (Nat.le_of_ble_eq_true rfl) rfl ?_
        refine g_iconst S dX2_putIn_44 ?_
        refine g_istore S (lv' := [(9, .int (iI 0)), (8, .int (iI ((sp o_q7).1))), (7, .ref (sB SS o_q7)), (6, .ref (sB SS o_q7)), (1, .int (iI q)), (2, .int (iI mn)), (3, .ref (s3 SS)), (4, .int (iI n)), (5, .int (iI o_q7))]) dX2_putIn_45 (Nat.le_of_ble_eq_true rfl) rfl ?_
        refine g_lv [4, 5, 6, 7, 8, 2, 1, 0] rfl ?_
        exact L47 (((sp o_q7).1 - 0) + 1).toNat 0 hs_q7 (by omega) (⟨by rw [hh_q7.2 o_q7 (by omega) (by omega), mvd_0], fun _ _ _ _ => rfl⟩) (by omega)
  refine g_lv [4, 5, 2, 1, 0] rfl ?_
  exact L22 ((n - 0) + 1).toNat 0 sp (by omega) (⟨fun i i0 i1 => by omega, fun _ _ _ => rfl⟩) (by omega)
set_option maxHeartbeats 4000000 in
set_option maxRecDepth 100000 in
theorem m_X2_takeOut (l : Launch) (E : EN) (z : Nat) (zc sm : Nat) (SS : SA) (sp : Int → SpT) (se : Int → Int) (n pg : Int) (q : Int) (hn : 0 ≤ n ∧ n ≤ 24) (hpg : 1 ≤ pg ∧ pg ≤ 300) (hsp : SPV sp n pg) (hT : TG zc sm SS sp n) (hz : zc ≤ z ∧ sm < z) (hq : 1 ≤ q ∧ q ≤ pg ∧ 1 < pg) : Met l yX2_takeOut wsX2_takeOut ({ frames := 2, cells := 1608, slots := 25728, locals := 50 }) (CS E [.ref (sm), .int (iI q)] (fun H => H.size = z ∧ va_at E.1 vwCl (sm, .inr (2, [.int (iI pg), .ref (s3 SS), .ref (s1 SS), .ref (s2 SS)])) H ∧ (SX E zc sm SS sp se n) H)) (QW (none) (fun H => ∃ (z1 : Nat) (S1 : SA) (hs : Int → SpT), (z ≤ z1 ∧ SD SS S1 ∧ ∀ i : Int, 0 ≤ i → i < n → VL (hs i) (pg - 1) ∧ ∀ r, cov (hs i) r ↔ cov (sp i) (if r < q then r else r + 1)) ∧ H.size = z1 ∧ va_at E.1 vwCl (sm, .inr (2, [.int (iI (pg - 1)), .ref (s3 S1), .ref (s1 S1), .ref (s2 S1)])) H ∧ SX E zc sm S1 hs se n H) (fun q0 => zc ≤ q0)) 1608 25728 (fun q0 => zc ≤ q0) := by
  refine g_metS (cc := cX2_takeOut) (maxL := 8) (ret := none) (lv := [(0, .ref (sm)), (1, .int (iI q))]) (by decide) rfl (Nat.le_of_ble_eq_true rfl) rfl ?_
  intro xp xe xs xm xa xb xh xc S xK xO xr xlk xin
  have kf7 := S.2.2.2.2 (.fieldLink RX2 7 "BookIndexLaw$Sim" "pages" "I") (by decide +kernel)
  have kf19 := S.2.2.2.2 (.fieldLink RX2 19 "BookIndexLaw$Sim" "see" "[I") (by decide +kernel)
  have kf15 := S.2.2.2.2 (.fieldLink RX2 15 "BookIndexLaw$Sim" "spans" "[[[I") (by decide +kernel)
  have hin2_q7 : ∀ w ∈ wsX20, w ∈ wsX2_takeOut := by decide +kernel
  refine g_aload_n S dX2_takeOut_0 rfl 0 rfl ?_
  refine g_dup S dX2_takeOut_1 rfl ?_
  refine g_get S xK (ref := "BookIndexLaw$Sim") hin2_q7 0 (by decide) (show vwCl[2]? = some (RX2, TX2, 4) from rfl) kf7 (fun _ h9 => h9) (fun _ h => h.2.1) rfl dX2_takeOut_2 ?_
  refine g_iconst S dX2_takeOut_5 ?_
  refine g_isub S dX2_takeOut_6 ?_
  refine g_put S xK (Wp' := fun H => H.size = z ∧ va_at E.1 vwCl (sm, .inr (2, [.int (iI (pg - 1)), .ref (s3 SS), .ref (s1 SS), .ref (s2 SS)])) H ∧ (SX E zc sm SS sp se n) H) (ref := "BookIndexLaw$Sim") (ty := .int) hin2_q7 tyX2 tyX2_ok nmX2 0 (by decide) (show vwCl[2]? = some (RX2, TX2, 4) from rfl) kf7 (fun _ h9 => h9) rfl (by decide +kernel) rfl rfl (fun _ h => h.2.1) (Nat.le_of_ble_eq_true rfl) (hT.sge) (fun _ _ h hv z1 oq => ⟨z1.trans h.1, hv, h.2.2.keep (Or.inl h.2.2.tg.2.1) oq⟩) dX2_takeOut_7 ?_
  refine g_iconst S dX2_takeOut_10 ?_
  refine g_istore_n S (lv' := [(2, .int (iI 0)), (0, .ref (sm)), (1, .int (iI q))]) dX2_takeOut_11 rfl (Nat.le_of_ble_eq_true rfl) rfl ?_
  have L12 : ∀ (nf : Nat) (o_q7 : Int) (zz_q7 : Nat) (S1 : SA) (hs : Int → SpT) (kc : Nat) (ks : Nat), (0 ≤ o_q7 ∧ o_q7 ≤ n) → (z ≤ zz_q7) → (SD SS S1) → (TG zc sm S1 hs n) → ((∀ i : Int, 0 ≤ i → i < o_q7 → VL (hs i) (pg - 1) ∧ ∀ r, cov (hs i) r ↔ cov (sp i) (if r < q then r else r + 1)) ∧ ∀ i : Int, o_q7 ≤ i → i < n → hs i = sp i) → (kc ≤ 67 * o_q7.toNat ∧ ks ≤ 1072 * o_q7.toNat) → (n - o_q7 < (nf : Int)) → G xp l xe ({ frames := 2, cells := 1608, slots := 25728, locals := 50 }) xs xm xa xb xh xc 8 (fun q0 => zc ≤ q0) kc ks (MQ xb (QW (none) (fun H => ∃ (z1 : Nat) (S1 : SA) (hs : Int → SpT), (z ≤ z1 ∧ SD SS S1 ∧ ∀ i : Int, 0 ≤ i → i < n → VL (hs i) (pg - 1) ∧ ∀ r, cov (hs i) r ↔ cov (sp i) (if r < q then r else r + 1)) ∧ H.size = z1 ∧ va_at E.1 vwCl (sm, .inr (2, [.int (iI (pg - 1)), .ref (s3 S1), .ref (s1 S1), .ref (s2 S1)])) H ∧ SX E zc sm S1 hs se n H) (fun q0 => zc ≤ q0)) xa xs 1608 25728 (fun q0 => zc ≤ q0)) 12 [(0, .ref (sm)), (1, .int (iI q)), (2, .int (iI o_q7))] [] (fun H => H.size = zz_q7 ∧ va_at E.1 vwCl (sm, .inr (2, [.int (iI (pg - 1)), .ref (s3 S1), .ref (s1 S1), .ref (s2 S1)])) H ∧ (SX E zc sm S1 hs se n) H) := by
    intro nf
    induction nf with
    | zero =>
      intro o_q7 zz_q7 S1 hs kc ks ho_q7 hzz_q7 hS1_q7 hT1_q7 hh_q7 hkc_q7 hmf
      exfalso
      omega
    | succ nf ihL12 =>
      intro o_q7 zz_q7 S1 hs kc ks ho_q7 hzz_q7 hS1_q7 hT1_q7 hh_q7 hkc_q7 hmf
      refine g_iload_n S dX2_takeOut_12 rfl 2 rfl ?_
      refine g_aload_n S dX2_takeOut_13 rfl 0 rfl ?_
      refine g_get S xK (ref := "BookIndexLaw$Sim") hin2_q7 2 (by decide) (show vwCl[2]? = some (RX2, TX2, 4) from rfl) kf19 (fun _ h9 => h9) (fun _ h => h.2.1) rfl dX2_takeOut_14 ?_
      refine g_lenI S xK (n := n) (F := se) (fun _ h => h.2.2.a1) (by omega) dX2_takeOut_17 ?_
      refine g_icmp_ge S (tgt := 112) dX2_takeOut_18 (by decide) (by omega) (fun c18_q7 => ?_) (fun c18_q7 => ?_)
      · skip
        refine g_wid (k := 1608) (n := 25728) (by omega) (by omega) ?_
        exact g_vret S xr xlk dX2_takeOut_112 (fun _ h => ⟨zz_q7, S1, hs, ⟨hzz_q7, hS1_q7, fun i i0 i1 => hh_q7.1 i i0 (by omega)⟩, h.1, h.2.1, h.2.2⟩)
      · skip
        have v8_q7 := hsp o_q7 (by omega) (by omega)
        have w8_q7 : hs o_q7 = sp o_q7 := hh_q7.2 o_q7 (by omega) (by omega)
        have y8_q7 := v8_q7.1.1
        refine g_aload_n S dX2_takeOut_21 rfl 0 rfl ?_
        refine g_get S xK (ref := "BookIndexLaw$Sim") hin2_q7 1 (by decide) (show vwCl[2]? = some (RX2, TX2, 4) from rfl) kf15 (fun _ h9 => h9) (fun _ h => h.2.1) rfl dX2_takeOut_22 ?_
        refine g_iload_n S dX2_takeOut_25 rfl 2 rfl ?_
        refine g_ldR S xK (t := 4) (by decide) (n := n) (f := sB S1) (fun _ h => h.2.2.a3) (by omega) dX2_takeOut_26 ?_
        refine g_iload_n S dX2_takeOut_27 rfl 1 rfl ?_
        refine g_iload_n S dX2_takeOut_28 rfl 1 rfl ?_
        refine g_callSR S xK xO (As := [.ref (sB S1 o_q7), .int (iI q), .int (iI q)]) (st := []) (Wn := fun cx H => ∃ (zy : Nat) (Ga : SpT) (ra : Int → Nat), ((VL Ga pg ∧ Ga.1 ≤ 2 * (hs o_q7).1) ∧ ∀ q0, cov Ga q0 ↔ cov (hs o_q7) q0 ∧ ¬ (q ≤ q0 ∧ q0 ≤ q)) ∧ H.size = zy ∧ (MR E zz_q7 cx Ga ra) H ∧ va_at E.1 vwCl (sm, .inr (2, [.int (iI (pg - 1)), .ref (s3 S1), .ref (s1 S1), .ref (s2 S1)])) H ∧ (FZ zz_q7 (SX E zc sm S1 hs se n)) H) (m_X2_cut l E (zz_q7) (FZ.kp (z := zz_q7) (W := fun H => va_at E.1 vwCl (sm, .inr (2, [.int (iI (pg - 1)), .ref (s3 S1), .ref (s1 S1), .ref (s2 S1)])) H ∧ (SX E zc sm S1 hs se n) H)) (sB S1 o_q7) (hs o_q7) (sR S1 o_q7) pg q q (fun _ h => (h.out (ST.and (LW.st LW.at) (LW.st SX.lw))).2.rw (u := o_q7) (by omega)) (by rw [hh_q7.2 o_q7 (by omega) (by omega)]; exact (hsp o_q7 (by omega) (by omega)).1) (by rw [hh_q7.2 o_q7 (by omega) (by omega)]; exact (hsp o_q7 (by omega) (by omega)).2) (by omega) (by omega)) (cwS 3 S.2.2.2.2 gX2_takeOut_X2_cut rfl rfl rfl (by decide +kernel) ⟨Nat.le_of_ble_eq_true rfl, Nat.le_of_ble_eq_true rfl⟩) rfl rfl (Nat.le_of_ble_eq_true rfl) ⟨show kc + 33 ≤ 1608 by omega, show ks + 528 ≤ 25728 by omega⟩ (fun q9 (hq9 : zz_q7 ≤ q9) => (by show zc ≤ q9; omega)) (fun _ h => ⟨h.1, FZ.mk h.1 h.2⟩) (fun cx _ _ _ h _ _ => by obtain ⟨zy, Ga, ra, h1, h2, h3, h4⟩ := h; exact ⟨zy, Ga, ra, h1, h2, h3, (h4.out (ST.and (LW.st LW.at) (LW.st SX.lw))).1, (FZ.imp h4 (fun _ _ h => h.2))⟩) dX2_takeOut_29 (fun cx => ?_)
        refine g_exU (fun zy => ?_)
        refine g_exU (fun Ga => ?_)
        refine g_exU (fun ra => ?_)
        refine g_preP (fun hGa => ?_)
        refine g_ex (P := zz_q7 ≤ cx ∧ cx < zy ∧ ∀ k : Int, 0 ≤ k → k < Ga.1 → zz_q7 ≤ ra k ∧ ra k < cx) (fun _ h => ⟨h.2.1.2.1.2, by have w8_q7 : cx < _ := h.2.1.1.1.lt; have y8_q7 := h.1; omega, h.2.1.2.2.1⟩) (fun hma => ?_)
        refine g_astore_n S (lv' := [(3, .ref (cx)), (0, .ref (sm)), (1, .int (iI q)), (2, .int (iI o_q7))]) dX2_takeOut_32 rfl (Nat.le_of_ble_eq_true rfl) rfl ?_
        refine g_aload_n S dX2_takeOut_33 rfl 0 rfl ?_
        refine g_astore S (lv' := [(4, .ref (cx)), (3, .ref (cx)), (0, .ref (sm)), (1, .int (iI q)), (2, .int (iI o_q7))]) dX2_takeOut_34 (Nat.le_of_ble_eq_true rfl) rfl ?_
        have n9_q7 := hGa.1.1.1; have n8_q7 := hGa.1.2; rw [w8_q7] at n8_q7
        refine g_aload S dX2_takeOut_36 0 rfl ?_
        refine g_lenR S xK (t := 3) (by decide) (n := Ga.1) (f := ra) (fun _ h => h.2.1.1.1) (by omega) dX2_takeOut_38 ?_
        refine g_istore S (lv' := [(5, .int (iI Ga.1)), (4, .ref (cx)), (3, .ref (cx)), (0, .ref (sm)), (1, .int (iI q)), (2, .int (iI o_q7))]) dX2_takeOut_39 (Nat.le_of_ble_eq_true rfl) rfl ?_
        have L44 : ∀ (nf : Nat) (jv_q7 : Int) (Gs_q7 : SpT) (kc : Nat) (ks : Nat), (0 ≤ jv_q7 ∧ jv_q7 ≤ Ga.1) → (Gs_q7 = mvd Ga (q + 1) (-1) jv_q7) → (kc ≤ 67 * o_q7.toNat + 33 ∧ ks ≤ 1072 * o_q7.toNat + 528) → (Ga.1 - jv_q7 < (nf : Int)) → G xp l xe ({ frames := 2, cells := 1608, slots := 25728, locals := 50 }) xs xm xa xb xh xc 8 (fun q0 => zc ≤ q0) kc ks (MQ xb (QW (none) (fun H => ∃ (z1 : Nat) (S1 : SA) (hs : Int → SpT), (z ≤ z1 ∧ SD SS S1 ∧ ∀ i : Int, 0 ≤ i → i < n → VL (hs i) (pg - 1) ∧ ∀ r, cov (hs i) r ↔ cov (sp i) (if r < q then r else r + 1)) ∧ H.size = z1 ∧ va_at E.1 vwCl (sm, .inr (2, [.int (iI (pg - 1)), .ref (s3 S1), .ref (s1 S1), .ref (s2 S1)])) H ∧ SX E zc sm S1 hs se n H) (fun q0 => zc ≤ q0)) xa xs 1608 25728 (fun q0 => zc ≤ q0)) 44 [(0, .ref (sm)), (1, .int (iI q)), (2, .int (iI o_q7)), (3, .ref (cx)), (4, .ref (cx)), (5, .int (iI Ga.1)), (6, .int (iI jv_q7))] [] (fun H => H.size = zy ∧ (MR E zz_q7 cx Gs_q7 ra) H ∧ va_at E.1 vwCl (sm, .inr (2, [.int (iI (pg - 1)), .ref (s3 S1), .ref (s1 S1), .ref (s2 S1)])) H ∧ (FZ zz_q7 (SX E zc sm S1 hs se n)) H) := by
          intro nf
          induction nf with
          | zero =>
            intro jv_q7 Gs_q7 kc ks hj_q7 hGs_q7 hk2_q7 hmf
            exfalso
            omega
          | succ nf ihL44 =>
            intro jv_q7 Gs_q7 kc ks hj_q7 hGs_q7 hk2_q7 hmf
            have e9_q7 : Gs_q7.1 = Ga.1 := by rw [hGs_q7]; rfl
            refine g_iload S dX2_takeOut_44 6 rfl ?_
            refine g_iload S dX2_takeOut_46 5 rfl ?_
            refine g_icmp_ge S (tgt := 96) dX2_takeOut_48 (by decide) (by omega) (fun c48_q7 => ?_) (fun c48_q7 => ?_)
            · skip
              have hGe_q7 : Gs_q7 = mvd Ga (q + 1) (-1) Ga.1 := by rw [hGs_q7, show jv_q7 = Ga.1 by omega]
              have hro_q7 := out_rows hGa.1.1 (q := q) (by omega) (fun w => ((hGa.2 q).mp w).2 (by omega))
              rw [← hGe_q7] at hro_q7
              have hq16_q7 : 0 ≤ Gs_q7.1 ∧ Gs_q7.1 ≤ 16 := by omega
              have hb16_q7 := hro_q7.1
              refine g_aload_n S dX2_takeOut_96 rfl 0 rfl ?_
              refine g_get S xK (ref := "BookIndexLaw$Sim") hin2_q7 1 (by decide) (show vwCl[2]? = some (RX2, TX2, 4) from rfl) kf15 (fun _ h9 => h9) (fun _ h => h.2.2.1) rfl dX2_takeOut_97 ?_
              refine g_iload_n S dX2_takeOut_100 rfl 2 rfl ?_
              refine g_aload_n S dX2_takeOut_101 rfl 3 rfl ?_
              refine g_callSR S xK xO (As := [.ref (cx)]) (st := [.int (iI o_q7), .ref (s3 S1)]) (Wn := fun cy H => ∃ (zx : Nat) (Gb : SpT) (rb : Int → Nat), (VL Gb (pg - 1) ∧ ∀ q0, cov Gb q0 ↔ cov Gs_q7 q0) ∧ H.size = zx ∧ (MR E zy cy Gb rb) H ∧ va_at E.1 vwCl (sm, .inr (2, [.int (iI (pg - 1)), .ref (s3 S1), .ref (s1 S1), .ref (s2 S1)])) H ∧ (FZ zy (SX E zc sm S1 hs se n)) H) (m_X2_merged l E (zy) (FZ.kp (z := zy) (W := fun H => (MR E zz_q7 cx Gs_q7 ra) H ∧ va_at E.1 vwCl (sm, .inr (2, [.int (iI (pg - 1)), .ref (s3 S1), .ref (s1 S1), .ref (s2 S1)])) H ∧ (FZ zz_q7 (SX E zc sm S1 hs se n)) H)) cx Gs_q7 ra (pg - 1) (fun _ h => (h.out (ST.and (LW.st MR.lw) (ST.and (LW.st LW.at) (LW.st FZ.lw)))).1.1) (hq16_q7) (hb16_q7) (by omega)) (cwS 1 S.2.2.2.2 gX2_takeOut_X2_merged rfl rfl rfl (by decide +kernel) ⟨Nat.le_of_ble_eq_true rfl, Nat.le_of_ble_eq_true rfl⟩) rfl rfl (Nat.le_of_ble_eq_true rfl) ⟨show kc + 34 ≤ 1608 by omega, show ks + 544 ≤ 25728 by omega⟩ (fun q9 (hq9 : zy ≤ q9) => (by show zc ≤ q9; omega)) (fun _ h => ⟨h.1, FZ.mk h.1 h.2⟩) (fun cy _ _ _ h _ _ => by obtain ⟨zx, Gb, rb, h1, h2, h3, h4⟩ := h; exact ⟨zx, Gb, rb, h1, h2, h3, (h4.out (ST.and (LW.st MR.lw) (ST.and (LW.st LW.at) (LW.st FZ.lw)))).2.1, (FZ.imp h4 (fun _ _ h => h.2.2.out (LW.st SX.lw)))⟩) dX2_takeOut_102 (fun cy => ?_)
              refine g_exU (fun zx => ?_)
              refine g_exU (fun Gb => ?_)
              refine g_exU (fun rb => ?_)
              refine g_preP (fun hGb => ?_)
              refine g_ex (P := zy ≤ cy ∧ cy < zx) (fun _ h => ⟨h.2.1.2.1.2, by have w8_q7 : cy < _ := h.2.1.1.1.lt; have y8_q7 := h.1; omega⟩) (fun hmb => ?_)
              have n6_q7 := hGb.1.1
              have n5_q7 := hGb.1.2.1
              have hso_q7 : sm ≠ s3 S1 := fun e => absurd (show sO S1 sm = -2 by rw [e]; exact hT1_q7.2.2.1) (by rw [hT1_q7.2.1]; decide)
              refine g_stR S xK xO (t := 4) (by decide) (Wp' := fun H => ∃ S2 : SA, SD S1 S2 ∧ H.size = zx ∧ va_at E.1 vwCl (sm, .inr (2, [.int (iI (pg - 1)), .ref (s3 S2), .ref (s1 S2), .ref (s2 S2)])) H ∧ (SX E zc sm S2 (upI hs o_q7 Gb) se n) H) (n := n) (f := sB S1) (fun _ h => (h.2.2.2.out (LW.st SX.lw)).a3) (fun _ h => ⟨_, _, h.2.1.1.1⟩) (by omega) (hT1_q7.g3) (fun _ _ h hv z1 oq => by obtain ⟨S9, hd9, hs9⟩ := SX.setSp h.2.2.2 h.2.1 (by omega) (u := o_q7) (by omega) (by omega) hv oq; exact ⟨S9, hd9, z1.trans h.1, by rw [hd9.1, hd9.2.1, hd9.2.2.1]; exact h.2.2.1.kept (oq _ hso_q7), hs9⟩) dX2_takeOut_105 ?_
              refine g_exU (fun S2 => ?_)
              refine g_preP (fun hS2 => ?_)
              refine g_ex (P := TG zc sm S2 (upI hs o_q7 Gb) n) (fun _ h => h.2.2.tg) (fun hTS2 => ?_)
              have hGo_q7 : VL Gb (pg - 1) ∧ ∀ r, cov Gb r ↔ cov (sp o_q7) (if r < q then r else r + 1) := ⟨hGb.1, fun r => by rw [hGb.2 r, hro_q7.2 r, hGa.2, w8_q7]; exact ⟨fun w => w.1, fun w => ⟨w, fun y => by by_cases e : r < q; (rw [if_pos e] at y; omega); (rw [if_neg e] at y; omega)⟩⟩⟩
              refine g_iinc S (lv' := [(2, .int (iI (o_q7 + 1))), (0, .ref (sm)), (1, .int (iI q)), (3, .ref (cx)), (4, .ref (cx)), (5, .int (iI Ga.1)), (6, .int (iI jv_q7))]) dX2_takeOut_106 2 rfl (Nat.le_of_ble_eq_true rfl) rfl ?_
              refine g_goto S (tgt := 12) dX2_takeOut_109 (by decide) ?_
              refine g_lv [1, 2, 0] rfl ?_
              exact ihL12 (o_q7 + 1) zx S2 (upI hs o_q7 Gb) (kc + 34) (ks + 544) (by omega) (by omega) (hS1_q7.tr hS2) (hTS2) (⟨fun i i0 i1 => by by_cases e : i = o_q7; (rw [e, upI_s]; exact hGo_q7); (rw [upI_n _ _ e]; exact hh_q7.1 i i0 (by omega)), fun i i0 i1 => by rw [upI_n _ _ (by omega)]; exact hh_q7.2 i (by omega) i1⟩) (by omega) (by omega)
            · skip
              refine g_aload S dX2_takeOut_51 4 rfl ?_
              refine g_iload S dX2_takeOut_53 6 rfl ?_
              refine g_ldR S xK (t := 3) (by decide) (n := Gs_q7.1) (f := ra) (fun _ h => h.2.1.1.1) (by omega) dX2_takeOut_55 ?_
              refine g_astore S (lv' := [(7, .ref (ra jv_q7)), (0, .ref (sm)), (1, .int (iI q)), (2, .int (iI o_q7)), (3, .ref (cx)), (4, .ref (cx)), (5, .int (iI Ga.1)), (6, .int (iI jv_q7))]) dX2_takeOut_56 (Nat.le_of_ble_eq_true rfl) rfl ?_
              have v9_q7 := hGa.1.1.2.2.1 jv_q7 (by omega) (by omega)
              have f9_q7 : Gs_q7.2.1 jv_q7 = Ga.2.1 jv_q7 := by rw [hGs_q7]; exact mvd_f _ _ _ _
              have m9_q7 := hma.2.2 jv_q7 (by omega) (by omega)
              have L74 : ∀ (Gt_q7 : SpT) (kc : Nat) (ks : Nat), (Gt_q7 = (Ga.1, (mvd Ga (q + 1) (-1) (jv_q7 + 1)).2.1, (mvd Ga (q + 1) (-1) jv_q7).2.2)) → (kc ≤ 67 * o_q7.toNat + 33 ∧ ks ≤ 1072 * o_q7.toNat + 528) → G xp l xe ({ frames := 2, cells := 1608, slots := 25728, locals := 50 }) xs xm xa xb xh xc 8 (fun q0 => zc ≤ q0) kc ks (MQ xb (QW (none) (fun H => ∃ (z1 : Nat) (S1 : SA) (hs : Int → SpT), (z ≤ z1 ∧ SD SS S1 ∧ ∀ i : Int, 0 ≤ i → i < n → VL (hs i) (pg - 1) ∧ ∀ r, cov (hs i) r ↔ cov (sp i) (if r < q then r else r + 1)) ∧ H.size = z1 ∧ va_at E.1 vwCl (sm, .inr (2, [.int (iI (pg - 1)), .ref (s3 S1), .ref (s1 S1), .ref (s2 S1)])) H ∧ SX E zc sm S1 hs se n H) (fun q0 => zc ≤ q0)) xa xs 1608 25728 (fun q0 => zc ≤ q0)) 74 [(0, .ref (sm)), (1, .int (iI q)), (2, .int (iI o_q7)), (3, .ref (cx)), (4, .ref (cx)), (5, .int (iI Ga.1)), (6, .int (iI jv_q7)), (7, .ref (ra jv_q7))] [] (fun H => H.size = zy ∧ (MR E zz_q7 cx Gt_q7 ra) H ∧ va_at E.1 vwCl (sm, .inr (2, [.int (iI (pg - 1)), .ref (s3 S1), .ref (s1 S1), .ref (s2 S1)])) H ∧ (FZ zz_q7 (SX E zc sm S1 hs se n)) H) := by
                intro Gt_q7 kc ks hGt_q7 hk3_q7
                have e8_q7 : Gt_q7.1 = Ga.1 := by rw [hGt_q7]
                have l8_q7 : Gt_q7.2.2 jv_q7 = Ga.2.2 jv_q7 := by rw [hGt_q7]; exact mvd_l _ _ _ _
                refine g_aload S dX2_takeOut_74 7 rfl ?_
                refine g_iconst S dX2_takeOut_76 ?_
                refine g_iald S xK (n := (2 : Int).toNat) (F := pr (Gt_q7.2.1 jv_q7) (Gt_q7.2.2 jv_q7)) (fun _ h => h.2.1.1.2 jv_q7 (by omega) (by omega)) (by omega) (by omega) dX2_takeOut_77 ?_
                refine g_st1 (v2 := .int (iI (Gt_q7.2.2 jv_q7))) rfl ?_
                refine g_iload_n S dX2_takeOut_78 rfl 1 rfl ?_
                refine g_icmp_le S (tgt := 90) dX2_takeOut_79 (by decide) (by omega) (fun c79_q7 => ?_) (fun c79_q7 => ?_)
                · skip
                  refine g_iinc S (lv' := [(6, .int (iI (jv_q7 + 1))), (0, .ref (sm)), (1, .int (iI q)), (2, .int (iI o_q7)), (3, .ref (cx)), (4, .ref (cx)), (5, .int (iI Ga.1)), (7, .ref (ra jv_q7))]) dX2_takeOut_90 6 rfl (Nat.le_of_ble_eq_true rfl) rfl ?_
                  refine g_goto S (tgt := 44) dX2_takeOut_93 (by decide) ?_
                  refine g_lv [1, 2, 3, 4, 5, 6, 0] rfl ?_
                  exact ihL44 (jv_q7 + 1) Gt_q7 kc ks (by omega) (mw_l0 hGt_q7 (by omega)) (by omega) (by omega)
                · skip
                  refine g_aload S dX2_takeOut_82 7 rfl ?_
                  refine g_iconst S dX2_takeOut_84 ?_
                  refine g_dup2 S dX2_takeOut_85 rfl rfl ?_
                  refine g_iald S xK (n := (2 : Int).toNat) (F := pr (Gt_q7.2.1 jv_q7) (Gt_q7.2.2 jv_q7)) (fun _ h => h.2.1.1.2 jv_q7 (by omega) (by omega)) (by omega) (by omega) dX2_takeOut_86 ?_
                  refine g_st1 (v2 := .int (iI (Gt_q7.2.2 jv_q7))) rfl ?_
                  refine g_iconst S dX2_takeOut_87 ?_
                  refine g_isub S dX2_takeOut_88 ?_
                  refine g_iast S xK (Wp' := fun H => H.size = zy ∧ (MR E zz_q7 cx (Gt_q7.1, upI Gt_q7.2.1 jv_q7 (Gt_q7.2.1 jv_q7), upI Gt_q7.2.2 jv_q7 (Gt_q7.2.2 jv_q7 - 1)) ra) H ∧ va_at E.1 vwCl (sm, .inr (2, [.int (iI (pg - 1)), .ref (s3 S1), .ref (s1 S1), .ref (s2 S1)])) H ∧ (FZ zz_q7 (SX E zc sm S1 hs se n)) H) (n := (2 : Int).toNat) (F := pr (Gt_q7.2.1 jv_q7) (Gt_q7.2.2 jv_q7)) (fun _ h => h.2.1.1.2 jv_q7 (by omega) (by omega)) (by omega) (by omega) ((show zc ≤ ra jv_q7 by omega)) (fun _ _ h hv z1 oq => ⟨z1.trans h.1, MR.set h.2.1 (k := jv_q7) (by omega) (by rw [pr_u1] at hv; exact hv) oq, h.2.2.1.kept (oq _ (by omega)), FZ.kp _ _ h.2.2.2 (by rw [z1]; exact FZ.sz h.2.2.2) (fun q q1 => oq q (by omega))⟩) dX2_takeOut_89 ?_
                  refine g_iinc S (lv' := [(6, .int (iI (jv_q7 + 1))), (0, .ref (sm)), (1, .int (iI q)), (2, .int (iI o_q7)), (3, .ref (cx)), (4, .ref (cx)), (5, .int (iI Ga.1)), (7, .ref (ra jv_q7))]) dX2_takeOut_90 6 rfl (Nat.le_of_ble_eq_true rfl) rfl ?_
                  refine g_goto S (tgt := 44) dX2_takeOut_93 (by decide) ?_
                  refine g_lv [1, 2, 3, 4, 5, 6, 0] rfl ?_
                  exact ihL44 (jv_q7 + 1) (Gt_q7.1, upI Gt_q7.2.1 jv_q7 (Gt_q7.2.1 jv_q7), upI Gt_q7.2.2 jv_q7 (Gt_q7.2.2 jv_q7 - 1)) kc ks (by omega) (mw_l1 hj_q7.1 hGt_q7 (by omega)) (by omega) (by omega)
              refine g_aload S dX2_takeOut_58 0 rfl ?_
              refine g_iconst S dX2_takeOut_60 ?_
              refine g_iald S xK (n := (2 : Int).toNat) (F := pr (Gs_q7.2.1 jv_q7) (Gs_q7.2.2 jv_q7)) (fun _ h => h.2.1.1.2 jv_q7 (by omega) (by omega)) (by omega) (by omega) dX2_takeOut_61 ?_
              refine g_st1 (v2 := .int (iI (Gs_q7.2.1 jv_q7))) rfl ?_
              refine g_iload_n S dX2_takeOut_62 rfl 2 rfl ?_
              refine g_icmp_le S (tgt := 74) dX2_takeOut_63 (by decide) (by omega) (fun c63_q7 => ?_) (fun c63_q7 => ?_)
              · skip
                refine g_lv [1, 2, 3, 4, 5, 6, 7, 0] rfl ?_
                exact L74 Gs_q7 kc ks (mw_f0 hGs_q7 (by omega)) (by omega)
              · skip
                refine g_aload S dX2_takeOut_66 0 rfl ?_
                refine g_iconst S dX2_takeOut_68 ?_
                refine g_dup2 S dX2_takeOut_69 rfl rfl ?_
                refine g_iald S xK (n := (2 : Int).toNat) (F := pr (Gs_q7.2.1 jv_q7) (Gs_q7.2.2 jv_q7)) (fun _ h => h.2.1.1.2 jv_q7 (by omega) (by omega)) (by omega) (by omega) dX2_takeOut_70 ?_
                refine g_st1 (v2 := .int (iI (Gs_q7.2.1 jv_q7))) rfl ?_
                refine g_iconst S dX2_takeOut_71 ?_
                refine g_isub S dX2_takeOut_72 ?_
                refine g_iast S xK (Wp' := fun H => H.size = zy ∧ (MR E zz_q7 cx (Gs_q7.1, upI Gs_q7.2.1 jv_q7 (Gs_q7.2.1 jv_q7 - 1), upI Gs_q7.2.2 jv_q7 (Gs_q7.2.2 jv_q7)) ra) H ∧ va_at E.1 vwCl (sm, .inr (2, [.int (iI (pg - 1)), .ref (s3 S1), .ref (s1 S1), .ref (s2 S1)])) H ∧ (FZ zz_q7 (SX E zc sm S1 hs se n)) H) (n := (2 : Int).toNat) (F := pr (Gs_q7.2.1 jv_q7) (Gs_q7.2.2 jv_q7)) (fun _ h => h.2.1.1.2 jv_q7 (by omega) (by omega)) (by omega) (by omega) ((show zc ≤ ra jv_q7 by omega)) (fun _ _ h hv z1 oq => ⟨z1.trans h.1, MR.set h.2.1 (k := jv_q7) (by omega) (by rw [pr_u0] at hv; exact hv) oq, h.2.2.1.kept (oq _ (by omega)), FZ.kp _ _ h.2.2.2 (by rw [z1]; exact FZ.sz h.2.2.2) (fun q q1 => oq q (by omega))⟩) dX2_takeOut_73 ?_
                refine g_lv [1, 2, 3, 4, 5, 6, 7, 0] rfl ?_
                exact L74 (Gs_q7.1, upI Gs_q7.2.1 jv_q7 (Gs_q7.2.1 jv_q7 - 1), upI Gs_q7.2.2 jv_q7 (Gs_q7.2.2 jv_q7)) kc ks (mw_f1 hj_q7.1 hGs_q7 (by omega)) (by omega)
        refine g_iconst S dX2_takeOut_41 ?_
        refine g_istore S (lv' := [(6, .int (iI 0)), (5, .int (iI Ga.1)), (4, .ref (cx)), (3, .ref (cx)), (0, .ref (sm)), (1, .int (iI q)), (2, .int (iI o_q7))]) dX2_takeOut_42 (Nat.le_of_ble_eq_true rfl) rfl ?_
        refine g_lv [4, 5, 6, 3, 2, 1, 0] rfl ?_
        exact L44 ((Ga.1 - 0) + 1).toNat 0 Ga (kc + 33) (ks + 528) (by omega) ((mvd_0 _ _ _).symm) (by omega) (by omega)
  refine g_lv [1, 2, 0] rfl ?_
  exact L12 ((n - 0) + 1).toNat 0 z SS sp 0 0 (by omega) (by omega) (SD.rf _) (hT) (⟨fun i i0 i1 => by omega, fun _ _ _ => rfl⟩) (by omega) (by omega)
set_option maxHeartbeats 4000000 in
set_option maxRecDepth 100000 in
theorem m_X2_addHeading (l : Launch) (E : EN) (z : Nat) (zc sm : Nat) (SS : SA) (sp : Int → SpT) (se : Int → Int) (n pg : Int) (hn : 0 ≤ n ∧ n < 24) (hT : TG zc sm SS sp n) (hz : zc ≤ z ∧ sm < z) (h0 : (sp n).1 = 0) : Met l yX2_addHeading wsX2_addHeading ({ frames := 1, cells := 5, slots := 100, locals := 23 }) (CS E [.ref (sm)] (fun H => H.size = z ∧ va_at E.1 vwCl (sm, .inr (2, [.int (iI pg), .ref (s3 SS), .ref (s1 SS), .ref (s2 SS)])) H ∧ (SX E zc sm SS sp se n) H)) (QW (none) (fun H => ∃ S1 : SA, (sM S1 = upI (sM SS) n 0 ∧ sV S1 = upI (sV SS) n (fun _ => 0)) ∧ H.size = z + 5 ∧ va_at E.1 vwCl (sm, .inr (2, [.int (iI pg), .ref (s3 S1), .ref (s1 S1), .ref (s2 S1)])) H ∧ SX E zc sm S1 sp (upI se n (-1)) (n + 1) H) (fun q0 => zc ≤ q0)) 5 100 (fun q0 => zc ≤ q0) := by
  refine g_metS (cc := cX2_addHeading) (maxL := 3) (ret := none) (lv := [(0, .ref (sm))]) (by decide) rfl (Nat.le_of_ble_eq_true rfl) rfl ?_
  intro xp xe xs xm xa xb xh xc S xK xO xr xlk xin
  have kf15 := S.2.2.2.2 (.fieldLink RX2 15 "BookIndexLaw$Sim" "spans" "[[[I") (by decide +kernel)
  have kc13 := S.2.2.2.2 (.classLink RX2 13 "[[I") (by decide +kernel)
  have kc23 := S.2.2.2.2 (.classLink RX2 23 "[I") (by decide +kernel)
  have kf19 := S.2.2.2.2 (.fieldLink RX2 19 "BookIndexLaw$Sim" "see" "[I") (by decide +kernel)
  have kf24 := S.2.2.2.2 (.fieldLink RX2 24 "BookIndexLaw$Sim" "also" "[[I") (by decide +kernel)
  have kaI := S.2.2.2.2 (.arrayClass .int) (by decide +kernel)
  have hin2_q7 : ∀ w ∈ wsX20, w ∈ wsX2_addHeading := by decide +kernel
  refine g_aload_n S dX2_addHeading_0 rfl 0 rfl ?_
  refine g_get S xK (ref := "BookIndexLaw$Sim") hin2_q7 1 (by decide) (show vwCl[2]? = some (RX2, TX2, 4) from rfl) kf15 (fun _ h9 => h9) (fun _ h => h.2.1) rfl dX2_addHeading_1 ?_
  refine g_lenR S xK (t := 4) (by decide) (n := n) (f := sB SS) (fun _ h => h.2.2.a3) (by omega) dX2_addHeading_4 ?_
  refine g_ex (P := LTS z SS sp n) (fun _ h => SX.lts (FZ.mk h.1 h.2.2)) (fun hlt => ?_)
  refine g_iconst S dX2_addHeading_5 ?_
  refine g_iadd S dX2_addHeading_6 ?_
  refine g_w (Wp' := fun H => H.size = z ∧ va_at E.1 vwCl (sm, .inr (2, [.int (iI pg), .ref (s3 SS), .ref (s1 SS), .ref (s2 SS)])) H ∧ (FZ z (SX E zc sm SS sp se n)) H) (fun _ h => ⟨h.1, h.2.1, FZ.mk h.1 h.2.2⟩) ?_
  refine g_newR S xK xO (t := 4) (by decide) (Wp' := fun H => H.size = z + 1 ∧ va_at E.1 vwCl (sm, .inr (2, [.int (iI pg), .ref (s3 SS), .ref (s1 SS), .ref (s2 SS)])) H ∧ (FZ z (SX E zc sm SS sp se n)) H ∧ vP E 4 z (n + 1) 0 (fun _ => 0) H) (n := n + 1) (a := z) kc13 (by omega) ⟨show 0 + 1 ≤ 5 by omega, show 0 + (n + 1 : Int).toNat ≤ 100 by omega⟩ (fun _ h => h.1) (fun _ _ h hv z1 hq => ⟨z1, h.2.1.kept (hq _ (by have w9_q7 := h.2.1.lt; have y9_q7 := h.1; omega)), FZ.lw _ _ h.2.2 (by have y9_q7 := h.1; omega) (fun q q1 => hq q (by have y9_q7 := h.1; omega)), hv⟩) dX2_addHeading_7 ?_
  refine g_astore_n S (lv' := [(1, .ref (z)), (0, .ref (sm))]) dX2_addHeading_10 rfl (Nat.le_of_ble_eq_true rfl) rfl ?_
  refine g_iconst S dX2_addHeading_11 ?_
  refine g_istore_n S (lv' := [(2, .int (iI 0)), (1, .ref (z)), (0, .ref (sm))]) dX2_addHeading_12 rfl (Nat.le_of_ble_eq_true rfl) rfl ?_
  have L13 : ∀ (nf : Nat) (o_q7 : Int) (ff_q7 : Int → Nat), (0 ≤ o_q7 ∧ o_q7 ≤ n) → (∀ j : Int, 0 ≤ j → j < o_q7 → ff_q7 j = sB SS j) → (n - o_q7 < (nf : Int)) → G xp l xe ({ frames := 1, cells := 5, slots := 100, locals := 23 }) xs xm xa xb xh xc 3 (fun q0 => zc ≤ q0) (0 + 1) (0 + (n + 1 : Int).toNat) (MQ xb (QW (none) (fun H => ∃ S1 : SA, (sM S1 = upI (sM SS) n 0 ∧ sV S1 = upI (sV SS) n (fun _ => 0)) ∧ H.size = z + 5 ∧ va_at E.1 vwCl (sm, .inr (2, [.int (iI pg), .ref (s3 S1), .ref (s1 S1), .ref (s2 S1)])) H ∧ SX E zc sm S1 sp (upI se n (-1)) (n + 1) H) (fun q0 => zc ≤ q0)) xa xs 5 100 (fun q0 => zc ≤ q0)) 13 [(0, .ref (sm)), (1, .ref (z)), (2, .int (iI o_q7))] [] (fun H => H.size = z + 1 ∧ va_at E.1 vwCl (sm, .inr (2, [.int (iI pg), .ref (s3 SS), .ref (s1 SS), .ref (s2 SS)])) H ∧ (FZ z (SX E zc sm SS sp se n)) H ∧ vP E 4 z (n + 1) o_q7 ff_q7 H) := by
    intro nf
    induction nf with
    | zero =>
      intro o_q7 ff_q7 ho_q7 hff_q7 hmf
      exfalso
      omega
    | succ nf ihL13 =>
      intro o_q7 ff_q7 ho_q7 hff_q7 hmf
      refine g_iload_n S dX2_addHeading_13 rfl 2 rfl ?_
      refine g_aload_n S dX2_addHeading_14 rfl 0 rfl ?_
      refine g_get S xK (ref := "BookIndexLaw$Sim") hin2_q7 1 (by decide) (show vwCl[2]? = some (RX2, TX2, 4) from rfl) kf15 (fun _ h9 => h9) (fun _ h => h.2.1) rfl dX2_addHeading_15 ?_
      refine g_lenR S xK (t := 4) (by decide) (n := n) (f := sB SS) (fun _ h => (h.2.2.1.out (LW.st SX.lw)).a3) (by omega) dX2_addHeading_18 ?_
      refine g_icmp_ge S (tgt := 37) dX2_addHeading_19 (by decide) (by omega) (fun c19_q7 => ?_) (fun c19_q7 => ?_)
      · skip
        have eo_q7 : n = o_q7 := by omega
        subst eo_q7
        refine g_aload_n S dX2_addHeading_37 rfl 1 rfl ?_
        refine g_aload_n S dX2_addHeading_38 rfl 0 rfl ?_
        refine g_get S xK (ref := "BookIndexLaw$Sim") hin2_q7 1 (by decide) (show vwCl[2]? = some (RX2, TX2, 4) from rfl) kf15 (fun _ h9 => h9) (fun _ h => h.2.1) rfl dX2_addHeading_39 ?_
        refine g_lenR S xK (t := 4) (by decide) (n := n) (f := sB SS) (fun _ h => (h.2.2.1.out (LW.st SX.lw)).a3) (by omega) dX2_addHeading_42 ?_
        refine g_iconst S dX2_addHeading_43 ?_
        refine g_newR S xK xO (t := 3) (by decide) (Wp' := fun H => H.size = z + 2 ∧ va_at E.1 vwCl (sm, .inr (2, [.int (iI pg), .ref (s3 SS), .ref (s1 SS), .ref (s2 SS)])) H ∧ (FZ z (SX E zc sm SS sp se n)) H ∧ vP E 4 z (n + 1) n ff_q7 H ∧ vP E 3 (z + 1) 0 0 (fun _ => 0) H) (n := 0) (a := z + 1) kc23 (by omega) ⟨show 0 + 1 + 1 ≤ 5 by omega, show 0 + (n + 1 : Int).toNat + (0 : Int).toNat ≤ 100 by omega⟩ (fun _ h => h.1) (fun _ _ h hv z1 hq => ⟨z1, h.2.1.kept (hq _ (by have w9_q7 := h.2.1.lt; have y9_q7 := h.1; omega)), FZ.lw _ _ h.2.2.1 (by have y9_q7 := h.1; omega) (fun q q1 => hq q (by have y9_q7 := h.1; omega)), h.2.2.2.kept (hq _ (by have w9_q7 := h.2.2.2.lt; have y9_q7 := h.1; omega)), hv⟩) dX2_addHeading_44 ?_
        refine g_stP S xK xO (t := 4) (by decide) (Wp' := fun H => H.size = z + 2 ∧ va_at E.1 vwCl (sm, .inr (2, [.int (iI pg), .ref (s3 SS), .ref (s1 SS), .ref (s2 SS)])) H ∧ (FZ z (SX E zc sm SS sp se n)) H ∧ vP E 4 z (n + 1) (n + 1) (upI ff_q7 n (z + 1)) H ∧ vP E 3 (z + 1) 0 0 (fun _ => 0) H) (n := n + 1) (f := ff_q7) (fun _ h => h.2.2.2.1) (fun _ h => ⟨_, _, h.2.2.2.2⟩) (by omega) (by omega) (fun _ _ h hv z1 oq => ⟨z1.trans h.1, h.2.1.kept (oq _ (by omega)), FZ.kp _ _ h.2.2.1 (by rw [z1]; exact FZ.sz h.2.2.1) (fun q q1 => oq q (by omega)), hv, h.2.2.2.2.kept (oq _ (by omega))⟩) dX2_addHeading_47 ?_
        refine g_w (Wp' := fun H => H.size = z + 2 ∧ va_at E.1 vwCl (sm, .inr (2, [.int (iI pg), .ref (s3 SS), .ref (s1 SS), .ref (s2 SS)])) H ∧ (SX E zc sm SS sp se n) H ∧ vP E 4 z (n + 1) (n + 1) (upI ff_q7 n (z + 1)) H ∧ vP E 3 (z + 1) 0 0 (fun _ => 0) H) (fun _ h => ⟨h.1, h.2.1, h.2.2.1.out (LW.st SX.lw), h.2.2.2.1, h.2.2.2.2⟩) ?_
        refine g_aload_n S dX2_addHeading_48 rfl 0 rfl ?_
        refine g_aload_n S dX2_addHeading_49 rfl 1 rfl ?_
        refine g_put S xK (Wp' := fun H => H.size = z + 2 ∧ va_at E.1 vwCl (sm, .inr (2, [.int (iI pg), .ref (z), .ref (s1 SS), .ref (s2 SS)])) H ∧ (SX E zc sm SS sp se n) H ∧ vP E 4 z (n + 1) (n + 1) (upI ff_q7 n (z + 1)) H ∧ vP E 3 (z + 1) 0 0 (fun _ => 0) H) (ref := "BookIndexLaw$Sim") (ty := .array (.array (.array .int))) hin2_q7 tyX2 tyX2_ok nmX2 1 (by decide) (show vwCl[2]? = some (RX2, TX2, 4) from rfl) kf15 (fun _ h9 => h9) rfl (by decide +kernel) rfl rfl (fun _ h => h.2.1) (Nat.le_of_ble_eq_true rfl) (hT.sge) (fun _ _ h hv z1 oq => ⟨z1.trans h.1, hv, h.2.2.1.keep (Or.inl h.2.2.1.tg.2.1) oq, h.2.2.2.1.kept (oq _ (by omega)), h.2.2.2.2.kept (oq _ (by omega))⟩) dX2_addHeading_50 ?_
        refine g_aload_n S dX2_addHeading_53 rfl 0 rfl ?_
        refine g_aload_n S dX2_addHeading_54 rfl 0 rfl ?_
        refine g_get S xK (ref := "BookIndexLaw$Sim") hin2_q7 2 (by decide) (show vwCl[2]? = some (RX2, TX2, 4) from rfl) kf19 (fun _ h9 => h9) (fun _ h => h.2.1) rfl dX2_addHeading_55 ?_
        refine g_iconst S dX2_addHeading_58 ?_
        refine g_callSS S xK xO (As := [.ref (s1 SS), .int (iI (-1))]) (st := [.ref (sm)]) (stk' := [.ref (z + 2), .ref (sm)]) (Wp' := fun H => H.size = z + 3 ∧ va_at E.1 vwCl (sm, .inr (2, [.int (iI pg), .ref (z), .ref (s1 SS), .ref (s2 SS)])) H ∧ (SX E zc sm SS sp se n) H ∧ vP E 4 z (n + 1) (n + 1) (upI ff_q7 n (z + 1)) H ∧ vP E 3 (z + 1) 0 0 (fun _ => 0) H ∧ vI E (z + 2) (n + 1) (upI se n (-1)) H) (m_X2_with_ l E (z + 2) (FZ.kp (z := z + 2) (W := fun H => va_at E.1 vwCl (sm, .inr (2, [.int (iI pg), .ref (z), .ref (s1 SS), .ref (s2 SS)])) H ∧ (SX E zc sm SS sp se n) H ∧ vP E 4 z (n + 1) (n + 1) (upI ff_q7 n (z + 1)) H ∧ vP E 3 (z + 1) 0 0 (fun _ => 0) H)) n se (s1 SS) (-1) (by omega) (fun _ h => (h.out (ST.and (LW.st LW.at) (ST.and (LW.st SX.lw) (ST.and (LW.st LW.at) (LW.st LW.at))))).2.1.a1)) (cwS 2 S.2.2.2.2 gX2_addHeading_X2_with_ rfl rfl rfl (by decide +kernel) ⟨Nat.le_of_ble_eq_true rfl, Nat.le_of_ble_eq_true rfl⟩) rfl rfl rfl (Nat.le_of_ble_eq_true rfl) ⟨show 0 + 1 + 1 + 1 ≤ 5 by omega, show 0 + (n + 1 : Int).toNat + (0 : Int).toNat + 31 ≤ 100 by omega⟩ (fun q9 (hq9 : z + 2 ≤ q9) => (by show zc ≤ q9; omega)) (fun _ h => ⟨h.1, FZ.mk h.1 h.2⟩) (fun _ _ _ h _ _ => ⟨h.1, (h.2.2.out (ST.and (LW.st LW.at) (ST.and (LW.st SX.lw) (ST.and (LW.st LW.at) (LW.st LW.at))))).1, (h.2.2.out (ST.and (LW.st LW.at) (ST.and (LW.st SX.lw) (ST.and (LW.st LW.at) (LW.st LW.at))))).2.1, (h.2.2.out (ST.and (LW.st LW.at) (ST.and (LW.st SX.lw) (ST.and (LW.st LW.at) (LW.st LW.at))))).2.2.1, (h.2.2.out (ST.and (LW.st LW.at) (ST.and (LW.st SX.lw) (ST.and (LW.st LW.at) (LW.st LW.at))))).2.2.2, h.2.1⟩) dX2_addHeading_59 ?_
        refine g_put S xK (Wp' := fun H => H.size = z + 3 ∧ va_at E.1 vwCl (sm, .inr (2, [.int (iI pg), .ref (z), .ref (z + 2), .ref (s2 SS)])) H ∧ (SX E zc sm SS sp se n) H ∧ vP E 4 z (n + 1) (n + 1) (upI ff_q7 n (z + 1)) H ∧ vP E 3 (z + 1) 0 0 (fun _ => 0) H ∧ vI E (z + 2) (n + 1) (upI se n (-1)) H) (ref := "BookIndexLaw$Sim") (ty := .array .int) hin2_q7 tyX2 tyX2_ok nmX2 2 (by decide) (show vwCl[2]? = some (RX2, TX2, 4) from rfl) kf19 (fun _ h9 => h9) rfl (by decide +kernel) rfl rfl (fun _ h => h.2.1) (Nat.le_of_ble_eq_true rfl) (hT.sge) (fun _ _ h hv z1 oq => ⟨z1.trans h.1, hv, h.2.2.1.keep (Or.inl h.2.2.1.tg.2.1) oq, h.2.2.2.1.kept (oq _ (by omega)), h.2.2.2.2.1.kept (oq _ (by omega)), h.2.2.2.2.2.kept (oq _ (by omega))⟩) dX2_addHeading_62 ?_
        refine g_aload_n S dX2_addHeading_65 rfl 0 rfl ?_
        refine g_aload_n S dX2_addHeading_66 rfl 0 rfl ?_
        refine g_get S xK (ref := "BookIndexLaw$Sim") hin2_q7 3 (by decide) (show vwCl[2]? = some (RX2, TX2, 4) from rfl) kf24 (fun _ h9 => h9) (fun _ h => h.2.1) rfl dX2_addHeading_67 ?_
        refine g_iconst S dX2_addHeading_70 ?_
        refine g_newIZ S xK (Wp' := fun H => H.size = z + 4 ∧ va_at E.1 vwCl (sm, .inr (2, [.int (iI pg), .ref (z), .ref (z + 2), .ref (s2 SS)])) H ∧ (SX E zc sm SS sp se n) H ∧ vP E 4 z (n + 1) (n + 1) (upI ff_q7 n (z + 1)) H ∧ vP E 3 (z + 1) 0 0 (fun _ => 0) H ∧ vI E (z + 2) (n + 1) (upI se n (-1)) H ∧ vI E (z + 3) 0 (fun _ => 0) H) (n := 0) (a := z + 3) kaI (by omega) ⟨show 0 + 1 + 1 + 1 + 1 ≤ 5 by omega, show 0 + (n + 1 : Int).toNat + (0 : Int).toNat + 31 + (0 : Int).toNat ≤ 100 by omega⟩ (fun _ h => h.1) (fun _ _ h hv z1 hq => ⟨z1, h.2.1.kept (hq _ (by have w9_q7 := h.2.1.lt; have y9_q7 := h.1; omega)), SX.lw _ _ h.2.2.1 (by have y9_q7 := h.1; omega) (fun q q1 => hq q (by have y9_q7 := h.1; omega)), h.2.2.2.1.kept (hq _ (by have w9_q7 := h.2.2.2.1.lt; have y9_q7 := h.1; omega)), h.2.2.2.2.1.kept (hq _ (by have w9_q7 := h.2.2.2.2.1.lt; have y9_q7 := h.1; omega)), h.2.2.2.2.2.kept (hq _ (by have w9_q7 := h.2.2.2.2.2.lt; have y9_q7 := h.1; omega)), hv⟩) dX2_addHeading_71 ?_
        refine g_callSS S xK xO (As := [.ref (s2 SS), .ref (z + 3)]) (st := [.ref (sm)]) (stk' := [.ref (z + 4), .ref (sm)]) (Wp' := fun H => H.size = z + 5 ∧ va_at E.1 vwCl (sm, .inr (2, [.int (iI pg), .ref (z), .ref (z + 2), .ref (s2 SS)])) H ∧ (SX E zc sm SS sp se n) H ∧ vP E 4 z (n + 1) (n + 1) (upI ff_q7 n (z + 1)) H ∧ vP E 3 (z + 1) 0 0 (fun _ => 0) H ∧ vI E (z + 2) (n + 1) (upI se n (-1)) H ∧ vI E (z + 3) 0 (fun _ => 0) H ∧ vR E 3 (z + 4) (n + 1) (upI (sD SS) n (z + 3)) H) (m_X2_with l E (z + 4) (FZ.kp (z := z + 4) (W := fun H => va_at E.1 vwCl (sm, .inr (2, [.int (iI pg), .ref (z), .ref (z + 2), .ref (s2 SS)])) H ∧ (SX E zc sm SS sp se n) H ∧ vP E 4 z (n + 1) (n + 1) (upI ff_q7 n (z + 1)) H ∧ vP E 3 (z + 1) 0 0 (fun _ => 0) H ∧ vI E (z + 2) (n + 1) (upI se n (-1)) H ∧ vI E (z + 3) 0 (fun _ => 0) H)) n (sD SS) (s2 SS) (z + 3) (by omega) (fun _ h => (h.out (ST.and (LW.st LW.at) (ST.and (LW.st SX.lw) (ST.and (LW.st LW.at) (ST.and (LW.st LW.at) (ST.and (LW.st LW.at) (LW.st LW.at))))))).2.1.a2) (fun _ h k k0 k1 => ⟨_, _, (h.out (ST.and (LW.st LW.at) (ST.and (LW.st SX.lw) (ST.and (LW.st LW.at) (ST.and (LW.st LW.at) (ST.and (LW.st LW.at) (LW.st LW.at))))))).2.1.d (u := k) ⟨k0, k1⟩⟩) (fun _ h => ⟨_, _, (h.out (ST.and (LW.st LW.at) (ST.and (LW.st SX.lw) (ST.and (LW.st LW.at) (ST.and (LW.st LW.at) (ST.and (LW.st LW.at) (LW.st LW.at))))))).2.2.2.2.2⟩)) (cwS 2 S.2.2.2.2 gX2_addHeading_X2_with rfl rfl rfl (by decide +kernel) ⟨Nat.le_of_ble_eq_true rfl, Nat.le_of_ble_eq_true rfl⟩) rfl rfl rfl (Nat.le_of_ble_eq_true rfl) ⟨show 0 + 1 + 1 + 1 + 1 + 1 ≤ 5 by omega, show 0 + (n + 1 : Int).toNat + (0 : Int).toNat + 31 + (0 : Int).toNat + 31 ≤ 100 by omega⟩ (fun q9 (hq9 : z + 4 ≤ q9) => (by show zc ≤ q9; omega)) (fun _ h => ⟨h.1, FZ.mk h.1 h.2⟩) (fun _ _ _ h _ _ => ⟨h.1, (h.2.2.out (ST.and (LW.st LW.at) (ST.and (LW.st SX.lw) (ST.and (LW.st LW.at) (ST.and (LW.st LW.at) (ST.and (LW.st LW.at) (LW.st LW.at))))))).1, (h.2.2.out (ST.and (LW.st LW.at) (ST.and (LW.st SX.lw) (ST.and (LW.st LW.at) (ST.and (LW.st LW.at) (ST.and (LW.st LW.at) (LW.st LW.at))))))).2.1, (h.2.2.out (ST.and (LW.st LW.at) (ST.and (LW.st SX.lw) (ST.and (LW.st LW.at) (ST.and (LW.st LW.at) (ST.and (LW.st LW.at) (LW.st LW.at))))))).2.2.1, (h.2.2.out (ST.and (LW.st LW.at) (ST.and (LW.st SX.lw) (ST.and (LW.st LW.at) (ST.and (LW.st LW.at) (ST.and (LW.st LW.at) (LW.st LW.at))))))).2.2.2.1, (h.2.2.out (ST.and (LW.st LW.at) (ST.and (LW.st SX.lw) (ST.and (LW.st LW.at) (ST.and (LW.st LW.at) (ST.and (LW.st LW.at) (LW.st LW.at))))))).2.2.2.2.1, (h.2.2.out (ST.and (LW.st LW.at) (ST.and (LW.st SX.lw) (ST.and (LW.st LW.at) (ST.and (LW.st LW.at) (ST.and (LW.st LW.at) (LW.st LW.at))))))).2.2.2.2.2, h.2.1⟩) dX2_addHeading_73 ?_
        refine g_put S xK (Wp' := fun H => H.size = z + 5 ∧ va_at E.1 vwCl (sm, .inr (2, [.int (iI pg), .ref (z), .ref (z + 2), .ref (z + 4)])) H ∧ (SX E zc sm SS sp se n) H ∧ vP E 4 z (n + 1) (n + 1) (upI ff_q7 n (z + 1)) H ∧ vP E 3 (z + 1) 0 0 (fun _ => 0) H ∧ vI E (z + 2) (n + 1) (upI se n (-1)) H ∧ vI E (z + 3) 0 (fun _ => 0) H ∧ vR E 3 (z + 4) (n + 1) (upI (sD SS) n (z + 3)) H) (ref := "BookIndexLaw$Sim") (ty := .array (.array .int)) hin2_q7 tyX2 tyX2_ok nmX2 3 (by decide) (show vwCl[2]? = some (RX2, TX2, 4) from rfl) kf24 (fun _ h9 => h9) rfl (by decide +kernel) rfl rfl (fun _ h => h.2.1) (Nat.le_of_ble_eq_true rfl) (hT.sge) (fun _ _ h hv z1 oq => ⟨z1.trans h.1, hv, h.2.2.1.keep (Or.inl h.2.2.1.tg.2.1) oq, h.2.2.2.1.kept (oq _ (by omega)), h.2.2.2.2.1.kept (oq _ (by omega)), h.2.2.2.2.2.1.kept (oq _ (by omega)), h.2.2.2.2.2.2.1.kept (oq _ (by omega)), h.2.2.2.2.2.2.2.kept (oq _ (by omega))⟩) dX2_addHeading_76 ?_
        refine g_wid (k := 5) (n := 100) (by omega) (by omega) ?_
        exact g_vret S xr xlk dX2_addHeading_79 (fun H h => by obtain ⟨S9, hs9, hx9⟩ := SX.add (z := z) (a3 := z) (cb := z + 1) (a1 := z + 2) (cd := z + 3) (a2 := z + 4) h.2.2.1 hlt hz hn.1 h0 (by omega) (h.2.2.2.1.full (by omega) (fun _ _ _ => rfl)) ⟨upI_s _ _ _, fun j j0 j1 => by rw [upI_n _ _ (by omega)]; exact hff_q7 j j0 j1⟩ (h.2.2.2.2.1.full (g := fun _ => 0) (by omega) (fun _ _ _ => rfl)) h.2.2.2.2.2.1 h.2.2.2.2.2.2.1 h.2.2.2.2.2.2.2 ⟨upI_s _ _ _, fun j j0 j1 => by rw [upI_n _ _ (by omega)]⟩; exact ⟨S9, hs9.2.2.2, h.1, by rw [hs9.1, hs9.2.1, hs9.2.2.1]; exact h.2.1, hx9⟩)
      · skip
        refine g_aload_n S dX2_addHeading_22 rfl 1 rfl ?_
        refine g_iload_n S dX2_addHeading_23 rfl 2 rfl ?_
        refine g_aload_n S dX2_addHeading_24 rfl 0 rfl ?_
        refine g_get S xK (ref := "BookIndexLaw$Sim") hin2_q7 1 (by decide) (show vwCl[2]? = some (RX2, TX2, 4) from rfl) kf15 (fun _ h9 => h9) (fun _ h => h.2.1) rfl dX2_addHeading_25 ?_
        refine g_iload_n S dX2_addHeading_28 rfl 2 rfl ?_
        refine g_ldR S xK (t := 4) (by decide) (n := n) (f := sB SS) (fun _ h => (h.2.2.1.out (LW.st SX.lw)).a3) (by omega) dX2_addHeading_29 ?_
        refine g_stP S xK xO (t := 4) (by decide) (Wp' := fun H => H.size = z + 1 ∧ va_at E.1 vwCl (sm, .inr (2, [.int (iI pg), .ref (s3 SS), .ref (s1 SS), .ref (s2 SS)])) H ∧ (FZ z (SX E zc sm SS sp se n)) H ∧ vP E 4 z (n + 1) (o_q7 + 1) (upI ff_q7 o_q7 (sB SS o_q7)) H) (n := n + 1) (f := ff_q7) (fun _ h => h.2.2.2) (fun _ h => ⟨_, _, (h.2.2.1.out (LW.st SX.lw)).b (u := o_q7) (by omega)⟩) (by omega) (by omega) (fun _ _ h hv z1 oq => ⟨z1.trans h.1, h.2.1.kept (oq _ (by omega)), FZ.kp _ _ h.2.2.1 (by rw [z1]; exact FZ.sz h.2.2.1) (fun q q1 => oq q (by omega)), hv⟩) dX2_addHeading_30 ?_
        refine g_iinc S (lv' := [(2, .int (iI (o_q7 + 1))), (0, .ref (sm)), (1, .ref (z))]) dX2_addHeading_31 2 rfl (Nat.le_of_ble_eq_true rfl) rfl ?_
        refine g_goto S (tgt := 13) dX2_addHeading_34 (by decide) ?_
        refine g_lv [1, 2, 0] rfl ?_
        exact ihL13 (o_q7 + 1) (upI ff_q7 o_q7 (sB SS o_q7)) (by omega) (fun j j0 j1 => by by_cases e : j = o_q7; (rw [e]; exact upI_s _ _ _); (rw [upI_n _ _ e]; exact hff_q7 j j0 (by omega))) (by omega)
  refine g_lv [2, 1, 0] rfl ?_
  exact L13 ((n - 0) + 1).toNat 0 (fun _ => 0) (by omega) (fun j j0 j1 => by omega) (by omega)
