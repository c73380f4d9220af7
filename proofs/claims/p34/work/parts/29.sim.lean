/-! THE INDEX BY HAND: what it makes -/
theorem MR.zero {E : EN} {z : Nat} {F L : Int → Int} {f rr : Int → Nat} {H : Heap} (h : vP E 3 z 0 0 f H) : MR E z z ((0, F, L) : SpT) rr H :=
  ⟨⟨h.full (Int.le_refl _) (fun j j0 j1 => by omega), fun k k0 k1 => by have k1 : k < 0 := k1; omega⟩, ⟨by show (0 : Int) ≤ 0; decide, Nat.le_refl _⟩, fun k k0 k1 => by have k1 : k < 0 := k1; omega, fun j k j0 jk k1 => by have k1 : k < 0 := k1; omega⟩
theorem MR.keep2 {E : EN} {z c x : Nat} {g : SpT} {r : Int → Nat} {H H1 : Heap} (h : MR E z c g r H) (hx : c ≠ x ∧ ∀ k : Int, 0 ≤ k → k < g.1 → r k ≠ x) (oq : ∀ q : Nat, q ≠ x → H1[q]? = H[q]?) : MR E z c g r H1 :=
  ⟨⟨h.1.1.kept (oq _ hx.1), fun k h0 h1 => (h.1.2 k h0 h1).kept (oq _ (hx.2 k h0 h1))⟩, h.2⟩
set_option maxHeartbeats 4000000 in
set_option maxRecDepth 100000 in
theorem m_X2_end (l : Launch) (E : EN) (z : Nat) {W0 : Heap → Prop} (hk : KP z W0) (zc sm : Nat) (SS : SA) (sp : Int → SpT) (se : Int → Int) (n pg : Int) (u : Int) (hO : ∀ H, W0 H → va_at E.1 vwCl (sm, .inr (2, [.int (iI pg), .ref (s3 SS), .ref (s1 SS), .ref (s2 SS)])) H) (hX : ∀ H, W0 H → SX E zc sm SS sp se n H) (hn : 0 ≤ n ∧ n ≤ 24) (hu : 0 ≤ u ∧ u < n) (hse : ∀ k : Int, 0 ≤ k → k < n → -1 ≤ se k ∧ se k < n) : Met l yX2_end wsX2_end ({ frames := 0, cells := 1, slots := 24, locals := 0 }) (CI E [.ref (sm), .int (iI u)] (fun H => H.size = z ∧ W0 H)) (QW (some (.int (iI (eS se n.toNat u)))) (fun H => H.size = z + 1 ∧ W0 H) (fun q => z ≤ q)) 1 24 (fun q => z ≤ q) := by
  refine g_met (cc := cX2_end) (maxL := 4) (ret := (some .int)) (lv := [(0, .ref (sm)), (1, .int (iI u))]) (by decide) rfl (Nat.le_of_ble_eq_true rfl) rfl ?_
  intro xp xe xs xm xa xb xh xc S xK xr xlk xin
  have kf19 := S.2.2.2.2 (.fieldLink RX2 19 "BookIndexLaw$Sim" "see" "[I") (by decide +kernel)
  have kaZ := S.2.2.2.2 (.arrayClass .boolean) (by decide +kernel)
  have hin2_q7 : ∀ w ∈ wsX20, w ∈ wsX2_end := by decide +kernel
  refine g_aload_n S dX2_end_0 rfl 0 rfl ?_
  refine g_get S xK (ref := "BookIndexLaw$Sim") hin2_q7 2 (by decide) (show vwCl[2]? = some (RX2, TX2, 4) from rfl) kf19 (fun _ h9 => h9) (fun _ h => hO _ h.2) rfl dX2_end_1 ?_
  refine g_lenI S xK (n := n) (F := se) (fun _ h => (hX _ h.2).a1) (by omega) dX2_end_4 ?_
  refine g_newZZ S xK (Wp' := fun H => H.size = z + 1 ∧ W0 H ∧ vZ E z n (fun _ => 0) H) (n := n) (a := z) kaZ (by omega) ⟨show 0 + 1 ≤ 1 by omega, show 0 + (n : Int).toNat ≤ 24 by omega⟩ (fun _ h => h.1) (fun _ _ h hv z1 hq => ⟨z1, hk _ _ h.2 (by have y9_q7 := h.1; omega) (fun q q1 => hq q (by have y9_q7 := h.1; omega)), hv⟩) dX2_end_5 ?_
  refine g_astore_n S (lv' := [(2, .ref (z)), (0, .ref (sm)), (1, .int (iI u))]) dX2_end_7 rfl (Nat.le_of_ble_eq_true rfl) rfl ?_
  refine g_iload_n S dX2_end_8 rfl 2 rfl ?_
  refine g_istore_n S (lv' := [(3, .int (iI u)), (2, .ref (z)), (0, .ref (sm)), (1, .int (iI u))]) dX2_end_9 rfl (Nat.le_of_ble_eq_true rfl) rfl ?_
  have L10 : ∀ (nf : Nat) (yv_q7 : Int) (wf_q7 : Int → Int) (jv_q7 : Int), (0 ≤ yv_q7 ∧ yv_q7 < n) → (∀ k, wf_q7 k = 0 ∨ wf_q7 k = 1) → (smI wf_q7 n.toNat = jv_q7 ∧ 0 ≤ jv_q7 ∧ jv_q7 ≤ n) → (eS se (n - jv_q7).toNat yv_q7 = eS se n.toNat u) → (HWY se wf_q7 n yv_q7) → (n - jv_q7 < (nf : Int)) → G xp l xe ({ frames := 0, cells := 1, slots := 24, locals := 0 }) xs xm xa xb xh xc 4 (fun q => z ≤ q) (0 + 1) (0 + (n : Int).toNat) (MQ xb (QW (some (.int (iI (eS se n.toNat u)))) (fun H => H.size = z + 1 ∧ W0 H) (fun q => z ≤ q)) xa xs 1 24 (fun q => z ≤ q)) 10 [(0, .ref (sm)), (1, .int (iI u)), (2, .ref (z)), (3, .int (iI yv_q7))] [] (fun H => H.size = z + 1 ∧ W0 H ∧ vZ E z n wf_q7 H) := by
    intro nf
    induction nf with
    | zero =>
      intro yv_q7 wf_q7 jv_q7 hy_q7 h01_q7 hj_q7 ht_q7 hwy_q7 hmf
      exfalso
      omega
    | succ nf ihL10 =>
      intro yv_q7 wf_q7 jv_q7 hy_q7 h01_q7 hj_q7 ht_q7 hwy_q7 hmf
      refine g_aload_n S dX2_end_10 rfl 0 rfl ?_
      refine g_get S xK (ref := "BookIndexLaw$Sim") hin2_q7 2 (by decide) (show vwCl[2]? = some (RX2, TX2, 4) from rfl) kf19 (fun _ h9 => h9) (fun _ h => hO _ h.2.1) rfl dX2_end_11 ?_
      refine g_iload_n S dX2_end_14 rfl 3 rfl ?_
      refine g_iald S xK (n := (n : Int).toNat) (F := se) (fun _ h => (hX _ h.2.1).a1) (by omega) (by omega) dX2_end_15 ?_
      have s16_q7 := hse yv_q7 hy_q7.1 hy_q7.2
      refine g_if_lt S (tgt := 41) dX2_end_16 (by decide) (by omega) (fun c16_q7 => ?_) (fun c16_q7 => ?_)
      · skip
        refine g_iload_n S dX2_end_41 rfl 3 rfl ?_
        refine g_wid (k := 1) (n := 24) (by omega) (by omega) ?_
        have e0_q7 := hwy_0 hwy_q7 h01_q7 hy_q7 (by omega); have u9_q7 := cnt_up h01_q7 hj_q7.1 hy_q7 e0_q7; rw [show eS se n.toNat u = yv_q7 from by rw [← ht_q7, eS_y (by omega) (by omega)]]
        exact g_iret S xr xlk dX2_end_42 (fun _ h => ⟨h.1, h.2.1⟩)
      · skip
        refine g_aload_n S dX2_end_19 rfl 2 rfl ?_
        refine g_iload_n S dX2_end_20 rfl 3 rfl ?_
        refine g_zald S xK (n := (n : Int).toNat) (F := wf_q7) (fun _ h => h.2.2) (by omega) (by omega) dX2_end_21 ?_
        have z22_q7 := h01_q7 yv_q7
        refine g_if_eq S (tgt := 27) dX2_end_22 (by decide) (by omega) (fun c22_q7 => ?_) (fun c22_q7 => ?_)
        · skip
          have u9_q7 := cnt_up h01_q7 hj_q7.1 hy_q7 (by omega)
          refine g_aload_n S dX2_end_27 rfl 2 rfl ?_
          refine g_iload_n S dX2_end_28 rfl 3 rfl ?_
          refine g_iconst S dX2_end_29 ?_
          refine g_zast S xK (Wp' := fun H => H.size = z + 1 ∧ W0 H ∧ vZ E z n (upI wf_q7 yv_q7 1) H) (n := (n : Int).toNat) (F := wf_q7) (Or.inr rfl) (fun _ h => h.2.2) (by omega) (by omega) (by omega) (fun _ _ h hv z1 oq => ⟨z1.trans h.1, hk _ _ h.2.1 (by have y9_q7 := h.1; omega) (fun q q1 => oq q (by omega)), hv⟩) dX2_end_30 ?_
          refine g_aload_n S dX2_end_31 rfl 0 rfl ?_
          refine g_get S xK (ref := "BookIndexLaw$Sim") hin2_q7 2 (by decide) (show vwCl[2]? = some (RX2, TX2, 4) from rfl) kf19 (fun _ h9 => h9) (fun _ h => hO _ h.2.1) rfl dX2_end_32 ?_
          refine g_iload_n S dX2_end_35 rfl 3 rfl ?_
          refine g_iald S xK (n := (n : Int).toNat) (F := se) (fun _ h => (hX _ h.2.1).a1) (by omega) (by omega) dX2_end_36 ?_
          refine g_istore_n S (lv' := [(3, .int (iI (se yv_q7))), (0, .ref (sm)), (1, .int (iI u)), (2, .ref (z))]) dX2_end_37 rfl (Nat.le_of_ble_eq_true rfl) rfl ?_
          refine g_goto S (tgt := 10) dX2_end_38 (by decide) ?_
          refine g_lv [1, 2, 3, 0] rfl ?_
          exact ihL10 (se yv_q7) (upI wf_q7 yv_q7 1) (jv_q7 + 1) (by omega) (upI_01 h01_q7 (Or.inr rfl)) (⟨u9_q7.1, by omega, u9_q7.2⟩) (by rw [← ht_q7, eS_n (t := n - jv_q7) (by omega) (by omega), show n - (jv_q7 + 1) = n - jv_q7 - 1 by omega]) (hwy_s hwy_q7 (by omega)) (by omega)
        · skip
          refine g_iconst S dX2_end_25 ?_
          refine g_wid (k := 1) (n := 24) (by omega) (by omega) ?_
          rw [show eS se n.toNat u = (-1) from by rw [← ht_q7]; exact hwy_1 hwy_q7 hy_q7 (by have := h01_q7 yv_q7; omega) _]
          exact g_iret S xr xlk dX2_end_26 (fun _ h => ⟨h.1, h.2.1⟩)
  refine g_lv [2, 3, 1, 0] rfl ?_
  exact L10 ((n - 0) + 1).toNat u (fun _ => 0) 0 (by omega) (fun _ => Or.inl rfl) (⟨smI_z _, by omega, by omega⟩) (by rw [show n - 0 = n by omega]) (fun k _ _ w => absurd (show (0 : Int) = 1 from w) (by decide)) (by omega)
set_option maxHeartbeats 4000000 in
set_option maxRecDepth 100000 in
theorem m_X2_cut (l : Launch) (E : EN) (z : Nat) {W0 : Heap → Prop} (hk : KP z W0) (b : Nat) (g : SpT) (r : Int → Nat) (pg fr to : Int) (hR : ∀ H, W0 H → RW E b g r H) (hv : VL g pg) (h8 : g.1 ≤ 8) (hf : 1 ≤ fr ∧ fr ≤ to ∧ to ≤ pg) (hpg : pg ≤ 300) : Met l yX2_cut wsX2_cut ({ frames := 1, cells := 33, slots := 528, locals := 23 }) (CS E [.ref (b), .int (iI fr), .int (iI to)] (fun H => H.size = z ∧ W0 H)) (QR (fun c H => ∃ (z1 : Nat) (GG : SpT) (rr : Int → Nat), ((VL GG pg ∧ GG.1 ≤ 2 * g.1) ∧ ∀ q, cov GG q ↔ cov g q ∧ ¬ (fr ≤ q ∧ q ≤ to)) ∧ H.size = z1 ∧ MR E z c GG rr H ∧ W0 H) (fun q => z ≤ q)) 33 528 (fun q => z ≤ q) := by
  refine g_metS (cc := cX2_cut) (maxL := 8) (ret := (some (.array (.array .int)))) (lv := [(0, .ref (b)), (1, .int (iI fr)), (2, .int (iI to))]) (by decide) rfl (Nat.le_of_ble_eq_true rfl) rfl ?_
  intro xp xe xs xm xa xb xh xc S xK xO xr xlk xin
  have kc23 := S.2.2.2.2 (.classLink RX2 23 "[I") (by decide +kernel)
  have kaI := S.2.2.2.2 (.arrayClass .int) (by decide +kernel)
  have km34 := S.2.2.2.2 (.methodLink RX2 34 Lib.Math.max.name) (by decide +kernel)
  have ksmax := S.2.2.2.2 (.static Lib.Math.max.name) (by decide +kernel)
  have kiMath := S.2.2.2.2 (.initialized "java/lang/Math") (by decide +kernel)
  have kcmax := S.2.2.2.2 (.code Lib.Math.max.name Lib.Math.max.code 2 (some .int)) (by decide +kernel)
  have km40 := S.2.2.2.2 (.methodLink RX2 40 Lib.Math.min.name) (by decide +kernel)
  have ksmin := S.2.2.2.2 (.static Lib.Math.min.name) (by decide +kernel)
  have kcmin := S.2.2.2.2 (.code Lib.Math.min.name Lib.Math.min.code 2 (some .int)) (by decide +kernel)
  have h0_q7 := hv.1
  refine g_iconst S dX2_cut_0 ?_
  refine g_newR S xK xO (t := 3) (by decide) (Wp' := fun H => H.size = z + 1 ∧ W0 H ∧ vP E 3 z 0 0 (fun _ => 0) H) (n := 0) (a := z) kc23 (by omega) ⟨show 0 + 1 ≤ 33 by omega, show 0 + (0 : Int).toNat ≤ 528 by omega⟩ (fun _ h => h.1) (fun _ _ h hv z1 hq => ⟨z1, hk _ _ h.2 (by have y9_q7 := h.1; omega) (fun q q1 => hq q (by have y9_q7 := h.1; omega)), hv⟩) dX2_cut_1 ?_
  refine g_w (Wp' := fun H => H.size = z + 1 ∧ W0 H ∧ (MR E z z ((0, fun _ => 0, fun _ => 0) : SpT) (fun _ => 0)) H) (fun _ h => ⟨h.1, h.2.1, MR.zero h.2.2⟩) ?_
  refine g_astore_n S (lv' := [(3, .ref (z)), (0, .ref (b)), (1, .int (iI fr)), (2, .int (iI to))]) dX2_cut_4 rfl (Nat.le_of_ble_eq_true rfl) rfl ?_
  refine g_aload_n S dX2_cut_5 rfl 1 rfl ?_
  refine g_astore S (lv' := [(4, .ref (b)), (3, .ref (z)), (0, .ref (b)), (1, .int (iI fr)), (2, .int (iI to))]) dX2_cut_6 (Nat.le_of_ble_eq_true rfl) rfl ?_
  refine g_aload S dX2_cut_8 0 rfl ?_
  refine g_lenR S xK (t := 3) (by decide) (n := g.1) (f := r) (fun _ h => (hR _ h.2.1).1) (by omega) dX2_cut_10 ?_
  refine g_istore S (lv' := [(5, .int (iI g.1)), (4, .ref (b)), (3, .ref (z)), (0, .ref (b)), (1, .int (iI fr)), (2, .int (iI to))]) dX2_cut_11 (Nat.le_of_ble_eq_true rfl) rfl ?_
  refine g_iconst S dX2_cut_13 ?_
  refine g_istore S (lv' := [(6, .int (iI 0)), (5, .int (iI g.1)), (4, .ref (b)), (3, .ref (z)), (0, .ref (b)), (1, .int (iI fr)), (2, .int (iI to))]) dX2_cut_14 (Nat.le_of_ble_eq_true rfl) rfl ?_
  have L16 : ∀ (nf : Nat) (o_q7 : Int) (zz_q7 : Nat) (c : Nat) (GG : SpT) (rr : Int → Nat) (kc : Nat) (ks : Nat), (0 ≤ o_q7 ∧ o_q7 ≤ g.1) → (c < zz_q7 ∧ z ≤ c) → (CI1 g fr to pg o_q7 GG) → (kc ≤ 1 + 4 * o_q7.toNat ∧ ks ≤ 66 * o_q7.toNat) → (g.1 - o_q7 < (nf : Int)) → G xp l xe ({ frames := 1, cells := 33, slots := 528, locals := 23 }) xs xm xa xb xh xc 8 (fun q => z ≤ q) kc ks (MQ xb (QR (fun c H => ∃ (z1 : Nat) (GG : SpT) (rr : Int → Nat), ((VL GG pg ∧ GG.1 ≤ 2 * g.1) ∧ ∀ q, cov GG q ↔ cov g q ∧ ¬ (fr ≤ q ∧ q ≤ to)) ∧ H.size = z1 ∧ MR E z c GG rr H ∧ W0 H) (fun q => z ≤ q)) xa xs 33 528 (fun q => z ≤ q)) 16 [(1, .int (iI fr)), (2, .int (iI to)), (3, .ref (c)), (4, .ref (b)), (5, .int (iI g.1)), (6, .int (iI o_q7))] [] (fun H => H.size = zz_q7 ∧ W0 H ∧ (MR E z c GG rr) H) := by
    intro nf
    induction nf with
    | zero =>
      intro o_q7 zz_q7 c GG rr kc ks ho_q7 hz_q7 hG_q7 hkc_q7 hmf
      exfalso
      omega
    | succ nf ihL16 =>
      intro o_q7 zz_q7 c GG rr kc ks ho_q7 hz_q7 hG_q7 hkc_q7 hmf
      have n0_q7 := hG_q7.1.1
      have n1_q7 := hG_q7.2.1
      refine g_iload S dX2_cut_16 5 rfl ?_
      refine g_iload S dX2_cut_18 4 rfl ?_
      refine g_icmp_ge S (tgt := 108) dX2_cut_20 (by decide) (by omega) (fun c20_q7 => ?_) (fun c20_q7 => ?_)
      · skip
        refine g_aload_n S dX2_cut_108 rfl 2 rfl ?_
        refine g_wid (k := 33) (n := 528) (by omega) (by omega) ?_
        exact g_arer S xr xlk dX2_cut_109 (fun H h => ⟨zz_q7, GG, rr, ⟨⟨hG_q7.1, by omega⟩, fun q => by rw [hG_q7.2.2.2 q, show o_q7 = g.1 by omega]; rfl⟩, h.1, h.2.2, h.2.1⟩)
      · skip
        refine g_aload S dX2_cut_23 3 rfl ?_
        refine g_iload S dX2_cut_25 5 rfl ?_
        refine g_ldR S xK (t := 3) (by decide) (n := g.1) (f := r) (fun _ h => (hR _ h.2.1).1) (by omega) dX2_cut_27 ?_
        refine g_astore S (lv' := [(7, .ref (r o_q7)), (1, .int (iI fr)), (2, .int (iI to)), (3, .ref (c)), (4, .ref (b)), (5, .int (iI g.1)), (6, .int (iI o_q7))]) dX2_cut_28 (Nat.le_of_ble_eq_true rfl) rfl ?_
        have v9_q7 := hv.2.2.1 o_q7 (by omega) (by omega)
        have L66 : ∀ (zz_q7 : Nat) (c : Nat) (GG : SpT) (rr : Int → Nat) (kc : Nat) (ks : Nat), (c < zz_q7 ∧ z ≤ c) → (CI2 g fr to pg o_q7 GG) → (kc ≤ 1 + 4 * o_q7.toNat + 2 ∧ ks ≤ 66 * o_q7.toNat + 33) → G xp l xe ({ frames := 1, cells := 33, slots := 528, locals := 23 }) xs xm xa xb xh xc 8 (fun q => z ≤ q) kc ks (MQ xb (QR (fun c H => ∃ (z1 : Nat) (GG : SpT) (rr : Int → Nat), ((VL GG pg ∧ GG.1 ≤ 2 * g.1) ∧ ∀ q, cov GG q ↔ cov g q ∧ ¬ (fr ≤ q ∧ q ≤ to)) ∧ H.size = z1 ∧ MR E z c GG rr H ∧ W0 H) (fun q => z ≤ q)) xa xs 33 528 (fun q => z ≤ q)) 66 [(1, .int (iI fr)), (2, .int (iI to)), (3, .ref (c)), (4, .ref (b)), (5, .int (iI g.1)), (6, .int (iI o_q7)), (7, .ref (r o_q7))] [] (fun H => H.size = zz_q7 ∧ W0 H ∧ (MR E z c GG rr) H) := by
          intro zz_q7 c GG rr kc ks hz2_q7 hG2_q7 hkc2_q7
          have n2_q7 := hG2_q7.1.1
          have n3_q7 := hG2_q7.2.1
          have v9_q7 := hv.2.2.1 o_q7 (by omega) (by omega)
          refine g_aload S dX2_cut_66 6 rfl ?_
          refine g_iconst S dX2_cut_68 ?_
          refine g_iald S xK (n := (2 : Int).toNat) (F := pr (g.2.1 o_q7) (g.2.2 o_q7)) (fun _ h => (hR _ h.2.1).2 o_q7 (by omega) (by omega)) (by omega) (by omega) dX2_cut_69 ?_
          refine g_st1 (v2 := .int (iI (g.2.2 o_q7))) rfl ?_
          refine g_iload_n S dX2_cut_70 rfl 1 rfl ?_
          refine g_icmp_le S (tgt := 102) dX2_cut_71 (by decide) (by omega) (fun c71_q7 => ?_) (fun c71_q7 => ?_)
          · skip
            refine g_iinc S (lv' := [(6, .int (iI (o_q7 + 1))), (1, .int (iI fr)), (2, .int (iI to)), (3, .ref (c)), (4, .ref (b)), (5, .int (iI g.1)), (7, .ref (r o_q7))]) dX2_cut_102 5 rfl (Nat.le_of_ble_eq_true rfl) rfl ?_
            refine g_goto S (tgt := 16) dX2_cut_105 (by decide) ?_
            refine g_lv [1, 2, 3, 4, 5, 0] rfl ?_
            exact ihL16 (o_q7 + 1) zz_q7 c GG rr kc ks (by omega) (by omega) (ci_21n hG2_q7 hv (by omega) (by omega)) (by omega) (by omega)
          · skip
            refine g_aload_n S dX2_cut_74 rfl 2 rfl ?_
            refine g_iconst S dX2_cut_75 ?_
            refine g_newIZ S xK (Wp' := fun H => H.size = zz_q7 + 1 ∧ W0 H ∧ (MR E z c GG rr) H ∧ vI E zz_q7 2 (fun _ => 0) H) (n := 2) (a := zz_q7) kaI (by omega) ⟨show kc + 1 ≤ 33 by omega, show ks + (2 : Int).toNat ≤ 528 by omega⟩ (fun _ h => h.1) (fun _ _ h hv z1 hq => ⟨z1, hk _ _ h.2.1 (by have y9_q7 := h.1; omega) (fun q q1 => hq q (by have y9_q7 := h.1; omega)), MR.lw _ _ h.2.2 (by have y9_q7 := h.1; omega) (fun q q1 => hq q (by have y9_q7 := h.1; omega)), hv⟩) dX2_cut_76 ?_
            refine g_dup S dX2_cut_78 rfl ?_
            refine g_iconst S dX2_cut_79 ?_
            refine g_aload S dX2_cut_80 6 rfl ?_
            refine g_iconst S dX2_cut_82 ?_
            refine g_iald S xK (n := (2 : Int).toNat) (F := pr (g.2.1 o_q7) (g.2.2 o_q7)) (fun _ h => (hR _ h.2.1).2 o_q7 (by omega) (by omega)) (by omega) (by omega) dX2_cut_83 ?_
            refine g_st1 (v2 := .int (iI (g.2.1 o_q7))) rfl ?_
            refine g_iload_n S dX2_cut_84 rfl 1 rfl ?_
            refine g_iconst S dX2_cut_85 ?_
            refine g_iadd S dX2_cut_86 ?_
            refine g_mmax S km34 ksmax kiMath kcmax (Nat.le_of_ble_eq_true rfl) (Nat.le_of_ble_eq_true rfl) ⟨show kc + 1 ≤ 33 by omega, show ks + (2 : Int).toNat ≤ 528 by omega⟩ dX2_cut_87 (by omega) ?_
            refine g_iast S xK (Wp' := fun H => H.size = zz_q7 + 1 ∧ W0 H ∧ (MR E z c GG rr) H ∧ vI E zz_q7 2 (upI (fun _ => 0) 0 (max (g.2.1 o_q7) (to + 1))) H) (n := (2 : Int).toNat) (F := fun _ => 0) (fun _ h => h.2.2.2) (by omega) (by omega) (by omega) (fun _ _ h hv z1 oq => ⟨z1.trans h.1, hk _ _ h.2.1 (by have y9_q7 := h.1; omega) (fun q q1 => oq q (by omega)), h.2.2.1.keep (by omega) oq, hv⟩) dX2_cut_90 ?_
            refine g_dup S dX2_cut_91 rfl ?_
            refine g_iconst S dX2_cut_92 ?_
            refine g_aload S dX2_cut_93 6 rfl ?_
            refine g_iconst S dX2_cut_95 ?_
            refine g_iald S xK (n := (2 : Int).toNat) (F := pr (g.2.1 o_q7) (g.2.2 o_q7)) (fun _ h => (hR _ h.2.1).2 o_q7 (by omega) (by omega)) (by omega) (by omega) dX2_cut_96 ?_
            refine g_st1 (v2 := .int (iI (g.2.2 o_q7))) rfl ?_
            refine g_iast S xK (Wp' := fun H => H.size = zz_q7 + 1 ∧ W0 H ∧ (MR E z c GG rr) H ∧ vI E zz_q7 2 (upI (upI (fun _ => 0) 0 (max (g.2.1 o_q7) (to + 1))) 1 (g.2.2 o_q7)) H) (n := (2 : Int).toNat) (F := upI (fun _ => 0) 0 (max (g.2.1 o_q7) (to + 1))) (fun _ h => h.2.2.2) (by omega) (by omega) (by omega) (fun _ _ h hv z1 oq => ⟨z1.trans h.1, hk _ _ h.2.1 (by have y9_q7 := h.1; omega) (fun q q1 => oq q (by omega)), h.2.2.1.keep (by omega) oq, hv⟩) dX2_cut_97 ?_
            refine g_callSS S xK xO (As := [.ref (c), .ref (zz_q7)]) (st := []) (stk' := [.ref (zz_q7 + 1)]) (Wp' := fun H => H.size = zz_q7 + 2 ∧ W0 H ∧ (MR E z (zz_q7 + 1) (apn GG (max (g.2.1 o_q7) (to + 1)) (g.2.2 o_q7)) (upI rr GG.1 zz_q7)) H) (m_X2_with l E (zz_q7 + 1) (FZ.kp (z := zz_q7 + 1) (W := fun H => W0 H ∧ (MR E z c GG rr) H ∧ vI E zz_q7 2 (upI (upI (fun _ => 0) 0 (max (g.2.1 o_q7) (to + 1))) 1 (g.2.2 o_q7)) H)) GG.1 rr c zz_q7 (by omega) (fun _ h => (h.out (ST.and (KP.st hk (by omega)) (ST.and (LW.st MR.lw) (LW.st LW.at)))).2.1.1.1) (fun _ h k k0 k1 => ⟨_, _, (h.out (ST.and (KP.st hk (by omega)) (ST.and (LW.st MR.lw) (LW.st LW.at)))).2.1.1.2 k k0 k1⟩) (fun _ h => ⟨_, _, (h.out (ST.and (KP.st hk (by omega)) (ST.and (LW.st MR.lw) (LW.st LW.at)))).2.2⟩)) (cwS 2 S.2.2.2.2 gX2_cut_X2_with rfl rfl rfl (by decide +kernel) ⟨Nat.le_of_ble_eq_true rfl, Nat.le_of_ble_eq_true rfl⟩) rfl rfl rfl (Nat.le_of_ble_eq_true rfl) ⟨show kc + 1 + 1 ≤ 33 by omega, show ks + (2 : Int).toNat + 31 ≤ 528 by omega⟩ (fun q (hq : zz_q7 + 1 ≤ q) => (by show z ≤ q; omega)) (fun _ h => ⟨h.1, FZ.mk h.1 h.2⟩) (fun _ _ _ h _ _ => ⟨h.1, (h.2.2.out (ST.and (KP.st hk (by omega)) (ST.and (LW.st MR.lw) (LW.st LW.at)))).1, MR.push (h.2.2.out (ST.and (KP.st hk (by omega)) (ST.and (LW.st MR.lw) (LW.st LW.at)))).2.1 (by omega) (by have w9_q7 := (h.2.2.out (ST.and (KP.st hk (by omega)) (ST.and (LW.st MR.lw) (LW.st LW.at)))).2.2; rw [pr_m] at w9_q7; exact w9_q7) h.2.1 (fun _ _ => rfl)⟩) dX2_cut_98 ?_
            refine g_astore_n S (lv' := [(3, .ref (zz_q7 + 1)), (1, .int (iI fr)), (2, .int (iI to)), (4, .ref (b)), (5, .int (iI g.1)), (6, .int (iI o_q7)), (7, .ref (r o_q7))]) dX2_cut_101 rfl (Nat.le_of_ble_eq_true rfl) rfl ?_
            refine g_iinc S (lv' := [(6, .int (iI (o_q7 + 1))), (3, .ref (zz_q7 + 1)), (1, .int (iI fr)), (2, .int (iI to)), (4, .ref (b)), (5, .int (iI g.1)), (7, .ref (r o_q7))]) dX2_cut_102 5 rfl (Nat.le_of_ble_eq_true rfl) rfl ?_
            refine g_goto S (tgt := 16) dX2_cut_105 (by decide) ?_
            refine g_lv [2, 3, 1, 4, 5, 0] rfl ?_
            exact ihL16 (o_q7 + 1) (zz_q7 + 2) (zz_q7 + 1) (apn GG (max (g.2.1 o_q7) (to + 1)) (g.2.2 o_q7)) (upI rr GG.1 zz_q7) (kc + 1 + 1) (ks + (2 : Int).toNat + 31) (by omega) (by omega) (ci_21y hG2_q7 hv h8 hf (by omega) (by omega)) (by omega) (by omega)
        refine g_aload S dX2_cut_30 0 rfl ?_
        refine g_iconst S dX2_cut_32 ?_
        refine g_iald S xK (n := (2 : Int).toNat) (F := pr (g.2.1 o_q7) (g.2.2 o_q7)) (fun _ h => (hR _ h.2.1).2 o_q7 (by omega) (by omega)) (by omega) (by omega) dX2_cut_33 ?_
        refine g_st1 (v2 := .int (iI (g.2.1 o_q7))) rfl ?_
        refine g_iload_n S dX2_cut_34 rfl 1 rfl ?_
        refine g_icmp_ge S (tgt := 66) dX2_cut_35 (by decide) (by omega) (fun c35_q7 => ?_) (fun c35_q7 => ?_)
        · skip
          refine g_lv [1, 2, 3, 4, 5, 6, 0] rfl ?_
          exact L66 zz_q7 c GG rr kc ks (by omega) (ci_12n hG_q7 hv (by omega) (by omega)) (by omega)
        · skip
          refine g_aload_n S dX2_cut_38 rfl 3 rfl ?_
          refine g_iconst S dX2_cut_39 ?_
          refine g_newIZ S xK (Wp' := fun H => H.size = zz_q7 + 1 ∧ W0 H ∧ (MR E z c GG rr) H ∧ vI E zz_q7 2 (fun _ => 0) H) (n := 2) (a := zz_q7) kaI (by omega) ⟨show kc + 1 ≤ 33 by omega, show ks + (2 : Int).toNat ≤ 528 by omega⟩ (fun _ h => h.1) (fun _ _ h hv z1 hq => ⟨z1, hk _ _ h.2.1 (by have y9_q7 := h.1; omega) (fun q q1 => hq q (by have y9_q7 := h.1; omega)), MR.lw _ _ h.2.2 (by have y9_q7 := h.1; omega) (fun q q1 => hq q (by have y9_q7 := h.1; omega)), hv⟩) dX2_cut_40 ?_
          refine g_dup S dX2_cut_42 rfl ?_
          refine g_iconst S dX2_cut_43 ?_
          refine g_aload S dX2_cut_44 0 rfl ?_
          refine g_iconst S dX2_cut_46 ?_
          refine g_iald S xK (n := (2 : Int).toNat) (F := pr (g.2.1 o_q7) (g.2.2 o_q7)) (fun _ h => (hR _ h.2.1).2 o_q7 (by omega) (by omega)) (by omega) (by omega) dX2_cut_47 ?_
          refine g_st1 (v2 := .int (iI (g.2.1 o_q7))) rfl ?_
          refine g_iast S xK (Wp' := fun H => H.size = zz_q7 + 1 ∧ W0 H ∧ (MR E z c GG rr) H ∧ vI E zz_q7 2 (upI (fun _ => 0) 0 (g.2.1 o_q7)) H) (n := (2 : Int).toNat) (F := fun _ => 0) (fun _ h => h.2.2.2) (by omega) (by omega) (by omega) (fun _ _ h hv z1 oq => ⟨z1.trans h.1, hk _ _ h.2.1 (by have y9_q7 := h.1; omega) (fun q q1 => oq q (by omega)), h.2.2.1.keep (by omega) oq, hv⟩) dX2_cut_48 ?_
          refine g_dup S dX2_cut_49 rfl ?_
          refine g_iconst S dX2_cut_50 ?_
          refine g_aload S dX2_cut_51 0 rfl ?_
          refine g_iconst S dX2_cut_53 ?_
          refine g_iald S xK (n := (2 : Int).toNat) (F := pr (g.2.1 o_q7) (g.2.2 o_q7)) (fun _ h => (hR _ h.2.1).2 o_q7 (by omega) (by omega)) (by omega) (by omega) dX2_cut_54 ?_
          refine g_st1 (v2 := .int (iI (g.2.2 o_q7))) rfl ?_
          refine g_iload_n S dX2_cut_55 rfl 1 rfl ?_
          refine g_iconst S dX2_cut_56 ?_
          refine g_isub S dX2_cut_57 ?_
          refine g_mmin S km40 ksmin kiMath kcmin (Nat.le_of_ble_eq_true rfl) (Nat.le_of_ble_eq_true rfl) ⟨show kc + 1 ≤ 33 by omega, show ks + (2 : Int).toNat ≤ 528 by omega⟩ dX2_cut_58 (by omega) ?_
          refine g_iast S xK (Wp' := fun H => H.size = zz_q7 + 1 ∧ W0 H ∧ (MR E z c GG rr) H ∧ vI E zz_q7 2 (upI (upI (fun _ => 0) 0 (g.2.1 o_q7)) 1 (min (g.2.2 o_q7) (fr - 1))) H) (n := (2 : Int).toNat) (F := upI (fun _ => 0) 0 (g.2.1 o_q7)) (fun _ h => h.2.2.2) (by omega) (by omega) (by omega) (fun _ _ h hv z1 oq => ⟨z1.trans h.1, hk _ _ h.2.1 (by have y9_q7 := h.1; omega) (fun q q1 => oq q (by omega)), h.2.2.1.keep (by omega) oq, hv⟩) dX2_cut_61 ?_
          refine g_callSS S xK xO (As := [.ref (c), .ref (zz_q7)]) (st := []) (stk' := [.ref (zz_q7 + 1)]) (Wp' := fun H => H.size = zz_q7 + 2 ∧ W0 H ∧ (MR E z (zz_q7 + 1) (apn GG (g.2.1 o_q7) (min (g.2.2 o_q7) (fr - 1))) (upI rr GG.1 zz_q7)) H) (m_X2_with l E (zz_q7 + 1) (FZ.kp (z := zz_q7 + 1) (W := fun H => W0 H ∧ (MR E z c GG rr) H ∧ vI E zz_q7 2 (upI (upI (fun _ => 0) 0 (g.2.1 o_q7)) 1 (min (g.2.2 o_q7) (fr - 1))) H)) GG.1 rr c zz_q7 (by omega) (fun _ h => (h.out (ST.and (KP.st hk (by omega)) (ST.and (LW.st MR.lw) (LW.st LW.at)))).2.1.1.1) (fun _ h k k0 k1 => ⟨_, _, (h.out (ST.and (KP.st hk (by omega)) (ST.and (LW.st MR.lw) (LW.st LW.at)))).2.1.1.2 k k0 k1⟩) (fun _ h => ⟨_, _, (h.out (ST.and (KP.st hk (by omega)) (ST.and (LW.st MR.lw) (LW.st LW.at)))).2.2⟩)) (cwS 2 S.2.2.2.2 gX2_cut_X2_with rfl rfl rfl (by decide +kernel) ⟨Nat.le_of_ble_eq_true rfl, Nat.le_of_ble_eq_true rfl⟩) rfl rfl rfl (Nat.le_of_ble_eq_true rfl) ⟨show kc + 1 + 1 ≤ 33 by omega, show ks + (2 : Int).toNat + 31 ≤ 528 by omega⟩ (fun q (hq : zz_q7 + 1 ≤ q) => (by show z ≤ q; omega)) (fun _ h => ⟨h.1, FZ.mk h.1 h.2⟩) (fun _ _ _ h _ _ => ⟨h.1, (h.2.2.out (ST.and (KP.st hk (by omega)) (ST.and (LW.st MR.lw) (LW.st LW.at)))).1, MR.push (h.2.2.out (ST.and (KP.st hk (by omega)) (ST.and (LW.st MR.lw) (LW.st LW.at)))).2.1 (by omega) (by have w9_q7 := (h.2.2.out (ST.and (KP.st hk (by omega)) (ST.and (LW.st MR.lw) (LW.st LW.at)))).2.2; rw [pr_m] at w9_q7; exact w9_q7) h.2.1 (fun _ _ => rfl)⟩) dX2_cut_62 ?_
          refine g_astore_n S (lv' := [(3, .ref (zz_q7 + 1)), (7, .ref (r o_q7)), (1, .int (iI fr)), (2, .int (iI to)), (4, .ref (b)), (5, .int (iI g.1)), (6, .int (iI o_q7))]) dX2_cut_65 rfl (Nat.le_of_ble_eq_true rfl) rfl ?_
          refine g_lv [2, 3, 0, 4, 5, 6, 1] rfl ?_
          exact L66 (zz_q7 + 2) (zz_q7 + 1) (apn GG (g.2.1 o_q7) (min (g.2.2 o_q7) (fr - 1))) (upI rr GG.1 zz_q7) (kc + 1 + 1) (ks + (2 : Int).toNat + 31) (by omega) (ci_12y hG_q7 hv h8 hf (by omega) (by omega)) (by omega)
  refine g_lv [5, 6, 3, 2, 1, 0] rfl ?_
  exact L16 ((g.1 - 0) + 1).toNat 0 (z + 1) z ((0, fun _ => 0, fun _ => 0) : SpT) (fun _ => 0) (0 + 1) (0 + (0 : Int).toNat) (by omega) (by omega) (ci_0 _ _) (by omega) (by omega)
set_option maxHeartbeats 4000000 in
set_option maxRecDepth 100000 in
theorem m_X2_merged (l : Launch) (E : EN) (z : Nat) {W0 : Heap → Prop} (hk : KP z W0) (b : Nat) (g : SpT) (r : Int → Nat) (pg : Int) (hR : ∀ H, W0 H → RW E b g r H) (h16 : 0 ≤ g.1 ∧ g.1 ≤ 16) (hb : ∀ k : Int, 0 ≤ k → k < g.1 → 1 ≤ g.2.1 k ∧ g.2.1 k ≤ g.2.2 k ∧ g.2.2 k ≤ pg) (hpg : pg ≤ 300) : Met l yX2_merged wsX2_merged ({ frames := 1, cells := 34, slots := 544, locals := 23 }) (CS E [.ref (b)] (fun H => H.size = z ∧ W0 H)) (QR (fun c H => ∃ (z1 : Nat) (GG : SpT) (rr : Int → Nat), (VL GG pg ∧ ∀ q, cov GG q ↔ cov g q) ∧ H.size = z1 ∧ MR E z c GG rr H ∧ W0 H) (fun q => z ≤ q)) 34 544 (fun q => z ≤ q) := by
  refine g_metS (cc := cX2_merged) (maxL := 6) (ret := (some (.array (.array .int)))) (lv := [(0, .ref (b))]) (by decide) rfl (Nat.le_of_ble_eq_true rfl) rfl ?_
  intro xp xe xs xm xa xb xh xc S xK xO xr xlk xin
  have kc23 := S.2.2.2.2 (.classLink RX2 23 "[I") (by decide +kernel)
  have kaZ := S.2.2.2.2 (.arrayClass .boolean) (by decide +kernel)
  have kaI := S.2.2.2.2 (.arrayClass .int) (by decide +kernel)
  have km34 := S.2.2.2.2 (.methodLink RX2 34 Lib.Math.max.name) (by decide +kernel)
  have ksmax := S.2.2.2.2 (.static Lib.Math.max.name) (by decide +kernel)
  have kiMath := S.2.2.2.2 (.initialized "java/lang/Math") (by decide +kernel)
  have kcmax := S.2.2.2.2 (.code Lib.Math.max.name Lib.Math.max.code 2 (some .int)) (by decide +kernel)
  refine g_iconst S dX2_merged_0 ?_
  refine g_newR S xK xO (t := 3) (by decide) (Wp' := fun H => H.size = z + 1 ∧ W0 H ∧ vP E 3 z 0 0 (fun _ => 0) H) (n := 0) (a := z) kc23 (by omega) ⟨show 0 + 1 ≤ 34 by omega, show 0 + (0 : Int).toNat ≤ 544 by omega⟩ (fun _ h => h.1) (fun _ _ h hv z1 hq => ⟨z1, hk _ _ h.2 (by have y9_q7 := h.1; omega) (fun q q1 => hq q (by have y9_q7 := h.1; omega)), hv⟩) dX2_merged_1 ?_
  refine g_w (Wp' := fun H => H.size = z + 1 ∧ W0 H ∧ (MR E z z ((0, fun _ => 0, fun _ => 0) : SpT) (fun _ => 0)) H) (fun _ h => ⟨h.1, h.2.1, MR.zero h.2.2⟩) ?_
  refine g_astore_n S (lv' := [(1, .ref (z)), (0, .ref (b))]) dX2_merged_4 rfl (Nat.le_of_ble_eq_true rfl) rfl ?_
  refine g_aload_n S dX2_merged_5 rfl 1 rfl ?_
  refine g_lenR S xK (t := 3) (by decide) (n := g.1) (f := r) (fun _ h => (hR _ h.2.1).1) (by omega) dX2_merged_6 ?_
  refine g_newZZ S xK (Wp' := fun H => H.size = z + 2 ∧ W0 H ∧ (MR E z z ((0, fun _ => 0, fun _ => 0) : SpT) (fun _ => 0)) H ∧ vZ E (z + 1) g.1 (fun _ => 0) H) (n := g.1) (a := z + 1) kaZ (by omega) ⟨show 0 + 1 + 1 ≤ 34 by omega, show 0 + (0 : Int).toNat + (g.1 : Int).toNat ≤ 544 by omega⟩ (fun _ h => h.1) (fun _ _ h hv z1 hq => ⟨z1, hk _ _ h.2.1 (by have y9_q7 := h.1; omega) (fun q q1 => hq q (by have y9_q7 := h.1; omega)), MR.lw _ _ h.2.2 (by have y9_q7 := h.1; omega) (fun q q1 => hq q (by have y9_q7 := h.1; omega)), hv⟩) dX2_merged_7 ?_
  refine g_astore_n S (lv' := [(2, .ref (z + 1)), (1, .ref (z)), (0, .ref (b))]) dX2_merged_9 rfl (Nat.le_of_ble_eq_true rfl) rfl ?_
  refine g_iconst S dX2_merged_10 ?_
  refine g_istore_n S (lv' := [(3, .int (iI 0)), (2, .ref (z + 1)), (1, .ref (z)), (0, .ref (b))]) dX2_merged_11 rfl (Nat.le_of_ble_eq_true rfl) rfl ?_
  have L12 : ∀ (nf : Nat) (kq : Int) (dn_q7 : Int → Int) (bd_q7 : Int) (zz_q7 : Nat) (c : Nat) (GG : SpT) (rr : Int → Nat) (kc : Nat) (ks : Nat), (0 ≤ kq ∧ kq ≤ g.1) → (z + 2 ≤ zz_q7 ∧ c < zz_q7 ∧ z ≤ c) → (c ≠ z + 1 ∧ ∀ j : Int, 0 ≤ j → j < GG.1 → rr j ≠ z + 1) → ((∀ j, dn_q7 j = 0 ∨ dn_q7 j = 1) ∧ smI dn_q7 g.1.toNat = kq) → (MG g pg dn_q7 kq bd_q7 GG) → (kc ≤ 2 + 2 * kq.toNat ∧ ks ≤ 16 + 33 * kq.toNat) → (g.1 - kq < (nf : Int)) → G xp l xe ({ frames := 1, cells := 34, slots := 544, locals := 23 }) xs xm xa xb xh xc 6 (fun q => z ≤ q) kc ks (MQ xb (QR (fun c H => ∃ (z1 : Nat) (GG : SpT) (rr : Int → Nat), (VL GG pg ∧ ∀ q, cov GG q ↔ cov g q) ∧ H.size = z1 ∧ MR E z c GG rr H ∧ W0 H) (fun q => z ≤ q)) xa xs 34 544 (fun q => z ≤ q)) 12 [(0, .ref (b)), (1, .ref (c)), (2, .ref (z + 1)), (3, .int (iI kq))] [] (fun H => H.size = zz_q7 ∧ W0 H ∧ (MR E z c GG rr) H ∧ vZ E (z + 1) g.1 dn_q7 H) := by
    intro nf
    induction nf with
    | zero =>
      intro kq dn_q7 bd_q7 zz_q7 c GG rr kc ks hk9_q7 hz_q7 hl_q7 hd_q7 hG_q7 hkc_q7 hmf
      exfalso
      omega
    | succ nf ihL12 =>
      intro kq dn_q7 bd_q7 zz_q7 c GG rr kc ks hk9_q7 hz_q7 hl_q7 hd_q7 hG_q7 hkc_q7 hmf
      have n0_q7 := hG_q7.1.1.1
      have n1_q7 := hG_q7.1.2.1
      refine g_iload_n S dX2_merged_12 rfl 3 rfl ?_
      refine g_aload_n S dX2_merged_13 rfl 0 rfl ?_
      refine g_lenR S xK (t := 3) (by decide) (n := g.1) (f := r) (fun _ h => (hR _ h.2.1).1) (by omega) dX2_merged_14 ?_
      refine g_icmp_ge S (tgt := 162) dX2_merged_15 (by decide) (by omega) (fun c15_q7 => ?_) (fun c15_q7 => ?_)
      · skip
        refine g_aload_n S dX2_merged_162 rfl 1 rfl ?_
        refine g_wid (k := 34) (n := 544) (by omega) (by omega) ?_
        exact g_arer S xr xlk dX2_merged_163 (fun H h => ⟨zz_q7, GG, rr, mg_e hG_q7 hd_q7.1 hd_q7.2 h16.1 (by omega), h.1, h.2.2.1, h.2.1⟩)
      · skip
        refine g_iconst S dX2_merged_18 ?_
        refine g_istore S (lv' := [(4, .int (iI (-1))), (0, .ref (b)), (1, .ref (c)), (2, .ref (z + 1)), (3, .int (iI kq))]) dX2_merged_19 (Nat.le_of_ble_eq_true rfl) rfl ?_
        have L24 : ∀ (nf : Nat) (yv_q7 : Int) (nx_q7 : Int), (0 ≤ yv_q7 ∧ yv_q7 ≤ g.1) → (NXT g dn_q7 yv_q7 nx_q7) → (g.1 - yv_q7 < (nf : Int)) → G xp l xe ({ frames := 1, cells := 34, slots := 544, locals := 23 }) xs xm xa xb xh xc 6 (fun q => z ≤ q) kc ks (MQ xb (QR (fun c H => ∃ (z1 : Nat) (GG : SpT) (rr : Int → Nat), (VL GG pg ∧ ∀ q, cov GG q ↔ cov g q) ∧ H.size = z1 ∧ MR E z c GG rr H ∧ W0 H) (fun q => z ≤ q)) xa xs 34 544 (fun q => z ≤ q)) 24 [(0, .ref (b)), (1, .ref (c)), (2, .ref (z + 1)), (3, .int (iI kq)), (4, .int (iI nx_q7)), (5, .int (iI yv_q7))] [] (fun H => H.size = zz_q7 ∧ W0 H ∧ (MR E z c GG rr) H ∧ vZ E (z + 1) g.1 dn_q7 H) := by
          intro nf
          induction nf with
          | zero =>
            intro yv_q7 nx_q7 hy_q7 hnx_q7 hmf
            exfalso
            omega
          | succ nf ihL24 =>
            intro yv_q7 nx_q7 hy_q7 hnx_q7 hmf
            have r9_q7 := nxt_r hnx_q7
            refine g_iload S dX2_merged_24 5 rfl ?_
            refine g_aload_n S dX2_merged_26 rfl 0 rfl ?_
            refine g_lenR S xK (t := 3) (by decide) (n := g.1) (f := r) (fun _ h => (hR _ h.2.1).1) (by omega) dX2_merged_27 ?_
            refine g_icmp_ge S (tgt := 68) dX2_merged_28 (by decide) (by omega) (fun c28_q7 => ?_) (fun c28_q7 => ?_)
            · skip
              have hnx9_q7 := nxt_e hnx_q7 hd_q7.1 hd_q7.2 h16.1 (by omega) (by omega) (by omega)
              have hG9_q7 := mg_s hG_q7 hb (by omega) hnx9_q7.1 hnx9_q7.2
              have b8_q7 := hb nx_q7 (by omega) (by omega)
              have u9_q7 := cnt_up hd_q7.1 hd_q7.2 (y := nx_q7) (by omega) hnx9_q7.1.2.2
              refine g_aload_n S dX2_merged_68 rfl 2 rfl ?_
              refine g_iload S dX2_merged_69 4 rfl ?_
              refine g_iconst S dX2_merged_71 ?_
              refine g_zast S xK (Wp' := fun H => H.size = zz_q7 ∧ W0 H ∧ (MR E z c GG rr) H ∧ vZ E (z + 1) g.1 (upI dn_q7 nx_q7 1) H) (n := (g.1 : Int).toNat) (F := dn_q7) (Or.inr rfl) (fun _ h => h.2.2.2) (by omega) (by omega) (by omega) (fun _ _ h hv z1 oq => ⟨z1.trans h.1, hk _ _ h.2.1 (by have y9_q7 := h.1; omega) (fun q q1 => oq q (by omega)), h.2.2.1.keep2 (hl_q7) oq, hv⟩) dX2_merged_72 ?_
              refine g_aload_n S dX2_merged_73 rfl 1 rfl ?_
              refine g_lenR S xK (t := 3) (by decide) (n := GG.1) (f := rr) (fun _ h => h.2.2.1.1.1) (by omega) dX2_merged_74 ?_
              refine g_if_ne S (tgt := 82) dX2_merged_75 (by decide) (by omega) (fun c75_q7 => ?_) (fun c75_q7 => ?_)
              · skip
                refine g_aload_n S dX2_merged_82 rfl 1 rfl ?_
                refine g_aload_n S dX2_merged_83 rfl 1 rfl ?_
                refine g_lenR S xK (t := 3) (by decide) (n := GG.1) (f := rr) (fun _ h => h.2.2.1.1.1) (by omega) dX2_merged_84 ?_
                refine g_iconst S dX2_merged_85 ?_
                refine g_isub S dX2_merged_86 ?_
                refine g_ldR S xK (t := 3) (by decide) (n := GG.1) (f := rr) (fun _ h => h.2.2.1.1.1) (by omega) dX2_merged_87 ?_
                refine g_astore S (lv' := [(5, .ref (rr (GG.1 - 1))), (0, .ref (b)), (1, .ref (c)), (2, .ref (z + 1)), (3, .int (iI kq)), (4, .int (iI nx_q7))]) dX2_merged_88 (Nat.le_of_ble_eq_true rfl) rfl ?_
                refine g_aload S dX2_merged_90 0 rfl ?_
                refine g_ifnull S dX2_merged_92 ?_
                have l9_q7 := hG_q7.1.1.2.2.1 (GG.1 - 1) (by omega) (by omega)
                refine g_aload_n S dX2_merged_95 rfl 1 rfl ?_
                refine g_iload S dX2_merged_96 5 rfl ?_
                refine g_ldR S xK (t := 3) (by decide) (n := g.1) (f := r) (fun _ h => (hR _ h.2.1).1) (by omega) dX2_merged_98 ?_
                refine g_iconst S dX2_merged_99 ?_
                refine g_iald S xK (n := (2 : Int).toNat) (F := pr (g.2.1 nx_q7) (g.2.2 nx_q7)) (fun _ h => (hR _ h.2.1).2 nx_q7 (by omega) (by omega)) (by omega) (by omega) dX2_merged_100 ?_
                refine g_st1 (v2 := .int (iI (g.2.1 nx_q7))) rfl ?_
                refine g_aload S dX2_merged_101 0 rfl ?_
                refine g_iconst S dX2_merged_103 ?_
                refine g_iald S xK (n := (2 : Int).toNat) (F := pr (GG.2.1 (GG.1 - 1)) (GG.2.2 (GG.1 - 1))) (fun _ h => h.2.2.1.1.2 (GG.1 - 1) (by omega) (by omega)) (by omega) (by omega) dX2_merged_104 ?_
                refine g_st1 (v2 := .int (iI (GG.2.2 (GG.1 - 1)))) rfl ?_
                refine g_iconst S dX2_merged_105 ?_
                refine g_iadd S dX2_merged_106 ?_
                refine g_icmp_gt S (tgt := 130) dX2_merged_107 (by decide) (by omega) (fun c107_q7 => ?_) (fun c107_q7 => ?_)
                · skip
                  refine g_aload_n S dX2_merged_130 rfl 2 rfl ?_
                  refine g_iconst S dX2_merged_131 ?_
                  refine g_newIZ S xK (Wp' := fun H => H.size = zz_q7 + 1 ∧ W0 H ∧ (MR E z c GG rr) H ∧ vZ E (z + 1) g.1 (upI dn_q7 nx_q7 1) H ∧ vI E zz_q7 2 (fun _ => 0) H) (n := 2) (a := zz_q7) kaI (by omega) ⟨show kc + 1 ≤ 34 by omega, show ks + (2 : Int).toNat ≤ 544 by omega⟩ (fun _ h => h.1) (fun _ _ h hv z1 hq => ⟨z1, hk _ _ h.2.1 (by have y9_q7 := h.1; omega) (fun q q1 => hq q (by have y9_q7 := h.1; omega)), MR.lw _ _ h.2.2.1 (by have y9_q7 := h.1; omega) (fun q q1 => hq q (by have y9_q7 := h.1; omega)), h.2.2.2.kept (hq _ (by have w9_q7 := h.2.2.2.lt; have y9_q7 := h.1; omega)), hv⟩) dX2_merged_132 ?_
                  refine g_dup S dX2_merged_134 rfl ?_
                  refine g_iconst S dX2_merged_135 ?_
                  refine g_aload_n S dX2_merged_136 rfl 1 rfl ?_
                  refine g_iload S dX2_merged_137 5 rfl ?_
                  refine g_ldR S xK (t := 3) (by decide) (n := g.1) (f := r) (fun _ h => (hR _ h.2.1).1) (by omega) dX2_merged_139 ?_
                  refine g_iconst S dX2_merged_140 ?_
                  refine g_iald S xK (n := (2 : Int).toNat) (F := pr (g.2.1 nx_q7) (g.2.2 nx_q7)) (fun _ h => (hR _ h.2.1).2 nx_q7 (by omega) (by omega)) (by omega) (by omega) dX2_merged_141 ?_
                  refine g_st1 (v2 := .int (iI (g.2.1 nx_q7))) rfl ?_
                  refine g_iast S xK (Wp' := fun H => H.size = zz_q7 + 1 ∧ W0 H ∧ (MR E z c GG rr) H ∧ vZ E (z + 1) g.1 (upI dn_q7 nx_q7 1) H ∧ vI E zz_q7 2 (upI (fun _ => 0) 0 (g.2.1 nx_q7)) H) (n := (2 : Int).toNat) (F := fun _ => 0) (fun _ h => h.2.2.2.2) (by omega) (by omega) (by omega) (fun _ _ h hv z1 oq => ⟨z1.trans h.1, hk _ _ h.2.1 (by have y9_q7 := h.1; omega) (fun q q1 => oq q (by omega)), h.2.2.1.keep (by omega) oq, h.2.2.2.1.kept (oq _ (by omega)), hv⟩) dX2_merged_142 ?_
                  refine g_dup S dX2_merged_143 rfl ?_
                  refine g_iconst S dX2_merged_144 ?_
                  refine g_aload_n S dX2_merged_145 rfl 1 rfl ?_
                  refine g_iload S dX2_merged_146 5 rfl ?_
                  refine g_ldR S xK (t := 3) (by decide) (n := g.1) (f := r) (fun _ h => (hR _ h.2.1).1) (by omega) dX2_merged_148 ?_
                  refine g_iconst S dX2_merged_149 ?_
                  refine g_iald S xK (n := (2 : Int).toNat) (F := pr (g.2.1 nx_q7) (g.2.2 nx_q7)) (fun _ h => (hR _ h.2.1).2 nx_q7 (by omega) (by omega)) (by omega) (by omega) dX2_merged_150 ?_
                  refine g_st1 (v2 := .int (iI (g.2.2 nx_q7))) rfl ?_
                  refine g_iast S xK (Wp' := fun H => H.size = zz_q7 + 1 ∧ W0 H ∧ (MR E z c GG rr) H ∧ vZ E (z + 1) g.1 (upI dn_q7 nx_q7 1) H ∧ vI E zz_q7 2 (upI (upI (fun _ => 0) 0 (g.2.1 nx_q7)) 1 (g.2.2 nx_q7)) H) (n := (2 : Int).toNat) (F := upI (fun _ => 0) 0 (g.2.1 nx_q7)) (fun _ h => h.2.2.2.2) (by omega) (by omega) (by omega) (fun _ _ h hv z1 oq => ⟨z1.trans h.1, hk _ _ h.2.1 (by have y9_q7 := h.1; omega) (fun q q1 => oq q (by omega)), h.2.2.1.keep (by omega) oq, h.2.2.2.1.kept (oq _ (by omega)), hv⟩) dX2_merged_151 ?_
                  refine g_callSS S xK xO (As := [.ref (c), .ref (zz_q7)]) (st := []) (stk' := [.ref (zz_q7 + 1)]) (Wp' := fun H => H.size = zz_q7 + 2 ∧ W0 H ∧ (MR E z (zz_q7 + 1) (apn GG (g.2.1 nx_q7) (g.2.2 nx_q7)) (upI rr GG.1 zz_q7)) H ∧ vZ E (z + 1) g.1 (upI dn_q7 nx_q7 1) H) (m_X2_with l E (zz_q7 + 1) (FZ.kp (z := zz_q7 + 1) (W := fun H => W0 H ∧ (MR E z c GG rr) H ∧ vZ E (z + 1) g.1 (upI dn_q7 nx_q7 1) H ∧ vI E zz_q7 2 (upI (upI (fun _ => 0) 0 (g.2.1 nx_q7)) 1 (g.2.2 nx_q7)) H)) GG.1 rr c zz_q7 (by omega) (fun _ h => (h.out (ST.and (KP.st hk (by omega)) (ST.and (LW.st MR.lw) (ST.and (LW.st LW.at) (LW.st LW.at))))).2.1.1.1) (fun _ h k k0 k1 => ⟨_, _, (h.out (ST.and (KP.st hk (by omega)) (ST.and (LW.st MR.lw) (ST.and (LW.st LW.at) (LW.st LW.at))))).2.1.1.2 k k0 k1⟩) (fun _ h => ⟨_, _, (h.out (ST.and (KP.st hk (by omega)) (ST.and (LW.st MR.lw) (ST.and (LW.st LW.at) (LW.st LW.at))))).2.2.2⟩)) (cwS 2 S.2.2.2.2 gX2_merged_X2_with rfl rfl rfl (by decide +kernel) ⟨Nat.le_of_ble_eq_true rfl, Nat.le_of_ble_eq_true rfl⟩) rfl rfl rfl (Nat.le_of_ble_eq_true rfl) ⟨show kc + 1 + 1 ≤ 34 by omega, show ks + (2 : Int).toNat + 31 ≤ 544 by omega⟩ (fun q (hq : zz_q7 + 1 ≤ q) => (by show z ≤ q; omega)) (fun _ h => ⟨h.1, FZ.mk h.1 h.2⟩) (fun _ _ _ h _ _ => ⟨h.1, (h.2.2.out (ST.and (KP.st hk (by omega)) (ST.and (LW.st MR.lw) (ST.and (LW.st LW.at) (LW.st LW.at))))).1, MR.push (h.2.2.out (ST.and (KP.st hk (by omega)) (ST.and (LW.st MR.lw) (ST.and (LW.st LW.at) (LW.st LW.at))))).2.1 (by omega) (by have w9_q7 := (h.2.2.out (ST.and (KP.st hk (by omega)) (ST.and (LW.st MR.lw) (ST.and (LW.st LW.at) (LW.st LW.at))))).2.2.2; rw [pr_m] at w9_q7; exact w9_q7) h.2.1 (fun _ _ => rfl), (h.2.2.out (ST.and (KP.st hk (by omega)) (ST.and (LW.st MR.lw) (ST.and (LW.st LW.at) (LW.st LW.at))))).2.2.1⟩) dX2_merged_152 ?_
                  refine g_astore_n S (lv' := [(1, .ref (zz_q7 + 1)), (5, .ref (rr (GG.1 - 1))), (0, .ref (b)), (2, .ref (z + 1)), (3, .int (iI kq)), (4, .int (iI nx_q7))]) dX2_merged_155 rfl (Nat.le_of_ble_eq_true rfl) rfl ?_
                  refine g_iinc S (lv' := [(3, .int (iI (kq + 1))), (1, .ref (zz_q7 + 1)), (5, .ref (rr (GG.1 - 1))), (0, .ref (b)), (2, .ref (z + 1)), (4, .int (iI nx_q7))]) dX2_merged_156 4 rfl (Nat.le_of_ble_eq_true rfl) rfl ?_
                  refine g_goto S (tgt := 12) dX2_merged_159 (by decide) ?_
                  refine g_lv [3, 1, 4, 0] rfl ?_
                  exact ihL12 (kq + 1) (upI dn_q7 nx_q7 1) (g.2.1 nx_q7) (zz_q7 + 2) (zz_q7 + 1) (apn GG (g.2.1 nx_q7) (g.2.2 nx_q7)) (upI rr GG.1 zz_q7) (kc + 1 + 1) (ks + (2 : Int).toNat + 31) (by omega) (by omega) (⟨by omega, low_s hl_q7.2 (by omega)⟩) (⟨upI_01 hd_q7.1 (Or.inr rfl), u9_q7.1⟩) (mg_n hG9_q7 (Or.inr (by omega)) (by omega)) (by omega) (by omega)
                · skip
                  refine g_ex (P := ∀ k : Int, 0 ≤ k → k < GG.1 → z ≤ rr k ∧ rr k < c) (fun _ h => h.2.2.1.2.2.1) (fun hml => ?_)
                  have m9_q7 := hml (GG.1 - 1) (by omega) (by omega)
                  have m8_q7 := hl_q7.2 (GG.1 - 1) (by omega) (by omega)
                  refine g_aload S dX2_merged_110 0 rfl ?_
                  refine g_iconst S dX2_merged_112 ?_
                  refine g_aload S dX2_merged_113 0 rfl ?_
                  refine g_iconst S dX2_merged_115 ?_
                  refine g_iald S xK (n := (2 : Int).toNat) (F := pr (GG.2.1 (GG.1 - 1)) (GG.2.2 (GG.1 - 1))) (fun _ h => h.2.2.1.1.2 (GG.1 - 1) (by omega) (by omega)) (by omega) (by omega) dX2_merged_116 ?_
                  refine g_st1 (v2 := .int (iI (GG.2.2 (GG.1 - 1)))) rfl ?_
                  refine g_aload_n S dX2_merged_117 rfl 1 rfl ?_
                  refine g_iload S dX2_merged_118 5 rfl ?_
                  refine g_ldR S xK (t := 3) (by decide) (n := g.1) (f := r) (fun _ h => (hR _ h.2.1).1) (by omega) dX2_merged_120 ?_
                  refine g_iconst S dX2_merged_121 ?_
                  refine g_iald S xK (n := (2 : Int).toNat) (F := pr (g.2.1 nx_q7) (g.2.2 nx_q7)) (fun _ h => (hR _ h.2.1).2 nx_q7 (by omega) (by omega)) (by omega) (by omega) dX2_merged_122 ?_
                  refine g_st1 (v2 := .int (iI (g.2.2 nx_q7))) rfl ?_
                  refine g_mmax S km34 ksmax kiMath kcmax (Nat.le_of_ble_eq_true rfl) (Nat.le_of_ble_eq_true rfl) ⟨show kc ≤ 34 by omega, show ks ≤ 544 by omega⟩ dX2_merged_123 (by omega) ?_
                  refine g_iast S xK (Wp' := fun H => H.size = zz_q7 ∧ W0 H ∧ (MR E z c (GG.1, upI GG.2.1 (GG.1 - 1) (GG.2.1 (GG.1 - 1)), upI GG.2.2 (GG.1 - 1) (max (GG.2.2 (GG.1 - 1)) (g.2.2 nx_q7))) rr) H ∧ vZ E (z + 1) g.1 (upI dn_q7 nx_q7 1) H) (n := (2 : Int).toNat) (F := pr (GG.2.1 (GG.1 - 1)) (GG.2.2 (GG.1 - 1))) (fun _ h => h.2.2.1.1.2 (GG.1 - 1) (by omega) (by omega)) (by omega) (by omega) ((show z ≤ rr (GG.1 - 1) from (hml (GG.1 - 1) (by omega) (by omega)).1)) (fun _ _ h hv z1 oq => ⟨z1.trans h.1, hk _ _ h.2.1 (by have y9_q7 := h.1; omega) (fun q q1 => oq q (by omega)), MR.set h.2.2.1 (k := (GG.1 - 1)) (by omega) (by rw [pr_u1] at hv; exact hv) oq, h.2.2.2.kept (oq _ (by omega))⟩) dX2_merged_126 ?_
                  refine g_goto S (tgt := 156) dX2_merged_127 (by decide) ?_
                  refine g_iinc S (lv' := [(3, .int (iI (kq + 1))), (5, .ref (rr (GG.1 - 1))), (0, .ref (b)), (1, .ref (c)), (2, .ref (z + 1)), (4, .int (iI nx_q7))]) dX2_merged_156 4 rfl (Nat.le_of_ble_eq_true rfl) rfl ?_
                  refine g_goto S (tgt := 12) dX2_merged_159 (by decide) ?_
                  refine g_lv [2, 3, 4, 0] rfl ?_
                  exact ihL12 (kq + 1) (upI dn_q7 nx_q7 1) (g.2.1 nx_q7) zz_q7 c (GG.1, upI GG.2.1 (GG.1 - 1) (GG.2.1 (GG.1 - 1)), upI GG.2.2 (GG.1 - 1) (max (GG.2.2 (GG.1 - 1)) (g.2.2 nx_q7))) rr kc ks (by omega) (by omega) (hl_q7) (⟨upI_01 hd_q7.1 (Or.inr rfl), u9_q7.1⟩) (mg_y hG9_q7 (by omega)) (by omega) (by omega)
              · skip
                refine g_null S dX2_merged_78 ?_
                refine g_goto S (tgt := 88) dX2_merged_79 (by decide) ?_
                refine g_astoreN S (lv' := [(5, .null), (0, .ref (b)), (1, .ref (c)), (2, .ref (z + 1)), (3, .int (iI kq)), (4, .int (iI nx_q7))]) dX2_merged_88 (Nat.le_of_ble_eq_true rfl) rfl ?_
                refine g_aloadN S dX2_merged_90 0 rfl ?_
                refine g_ifnullN S (tgt := 130) dX2_merged_92 (by decide) ?_
                refine g_aload_n S dX2_merged_130 rfl 2 rfl ?_
                refine g_iconst S dX2_merged_131 ?_
                refine g_newIZ S xK (Wp' := fun H => H.size = zz_q7 + 1 ∧ W0 H ∧ (MR E z c GG rr) H ∧ vZ E (z + 1) g.1 (upI dn_q7 nx_q7 1) H ∧ vI E zz_q7 2 (fun _ => 0) H) (n := 2) (a := zz_q7) kaI (by omega) ⟨show kc + 1 ≤ 34 by omega, show ks + (2 : Int).toNat ≤ 544 by omega⟩ (fun _ h => h.1) (fun _ _ h hv z1 hq => ⟨z1, hk _ _ h.2.1 (by have y9_q7 := h.1; omega) (fun q q1 => hq q (by have y9_q7 := h.1; omega)), MR.lw _ _ h.2.2.1 (by have y9_q7 := h.1; omega) (fun q q1 => hq q (by have y9_q7 := h.1; omega)), h.2.2.2.kept (hq _ (by have w9_q7 := h.2.2.2.lt; have y9_q7 := h.1; omega)), hv⟩) dX2_merged_132 ?_
                refine g_dup S dX2_merged_134 rfl ?_
                refine g_iconst S dX2_merged_135 ?_
                refine g_aload_n S dX2_merged_136 rfl 1 rfl ?_
                refine g_iload S dX2_merged_137 5 rfl ?_
                refine g_ldR S xK (t := 3) (by decide) (n := g.1) (f := r) (fun _ h => (hR _ h.2.1).1) (by omega) dX2_merged_139 ?_
                refine g_iconst S dX2_merged_140 ?_
                refine g_iald S xK (n := (2 : Int).toNat) (F := pr (g.2.1 nx_q7) (g.2.2 nx_q7)) (fun _ h => (hR _ h.2.1).2 nx_q7 (by omega) (by omega)) (by omega) (by omega) dX2_merged_141 ?_
                refine g_st1 (v2 := .int (iI (g.2.1 nx_q7))) rfl ?_
                refine g_iast S xK (Wp' := fun H => H.size = zz_q7 + 1 ∧ W0 H ∧ (MR E z c GG rr) H ∧ vZ E (z + 1) g.1 (upI dn_q7 nx_q7 1) H ∧ vI E zz_q7 2 (upI (fun _ => 0) 0 (g.2.1 nx_q7)) H) (n := (2 : Int).toNat) (F := fun _ => 0) (fun _ h => h.2.2.2.2) (by omega) (by omega) (by omega) (fun _ _ h hv z1 oq => ⟨z1.trans h.1, hk _ _ h.2.1 (by have y9_q7 := h.1; omega) (fun q q1 => oq q (by omega)), h.2.2.1.keep (by omega) oq, h.2.2.2.1.kept (oq _ (by omega)), hv⟩) dX2_merged_142 ?_
                refine g_dup S dX2_merged_143 rfl ?_
                refine g_iconst S dX2_merged_144 ?_
                refine g_aload_n S dX2_merged_145 rfl 1 rfl ?_
                refine g_iload S dX2_merged_146 5 rfl ?_
                refine g_ldR S xK (t := 3) (by decide) (n := g.1) (f := r) (fun _ h => (hR _ h.2.1).1) (by omega) dX2_merged_148 ?_
                refine g_iconst S dX2_merged_149 ?_
                refine g_iald S xK (n := (2 : Int).toNat) (F := pr (g.2.1 nx_q7) (g.2.2 nx_q7)) (fun _ h => (hR _ h.2.1).2 nx_q7 (by omega) (by omega)) (by omega) (by omega) dX2_merged_150 ?_
                refine g_st1 (v2 := .int (iI (g.2.2 nx_q7))) rfl ?_
                refine g_iast S xK (Wp' := fun H => H.size = zz_q7 + 1 ∧ W0 H ∧ (MR E z c GG rr) H ∧ vZ E (z + 1) g.1 (upI dn_q7 nx_q7 1) H ∧ vI E zz_q7 2 (upI (upI (fun _ => 0) 0 (g.2.1 nx_q7)) 1 (g.2.2 nx_q7)) H) (n := (2 : Int).toNat) (F := upI (fun _ => 0) 0 (g.2.1 nx_q7)) (fun _ h => h.2.2.2.2) (by omega) (by omega) (by omega) (fun _ _ h hv z1 oq => ⟨z1.trans h.1, hk _ _ h.2.1 (by have y9_q7 := h.1; omega) (fun q q1 => oq q (by omega)), h.2.2.1.keep (by omega) oq, h.2.2.2.1.kept (oq _ (by omega)), hv⟩) dX2_merged_151 ?_
                refine g_callSS S xK xO (As := [.ref (c), .ref (zz_q7)]) (st := []) (stk' := [.ref (zz_q7 + 1)]) (Wp' := fun H => H.size = zz_q7 + 2 ∧ W0 H ∧ (MR E z (zz_q7 + 1) (apn GG (g.2.1 nx_q7) (g.2.2 nx_q7)) (upI rr GG.1 zz_q7)) H ∧ vZ E (z + 1) g.1 (upI dn_q7 nx_q7 1) H) (m_X2_with l E (zz_q7 + 1) (FZ.kp (z := zz_q7 + 1) (W := fun H => W0 H ∧ (MR E z c GG rr) H ∧ vZ E (z + 1) g.1 (upI dn_q7 nx_q7 1) H ∧ vI E zz_q7 2 (upI (upI (fun _ => 0) 0 (g.2.1 nx_q7)) 1 (g.2.2 nx_q7)) H)) GG.1 rr c zz_q7 (by omega) (fun _ h => (h.out (ST.and (KP.st hk (by omega)) (ST.and (LW.st MR.lw) (ST.and (LW.st LW.at) (LW.st LW.at))))).2.1.1.1) (fun _ h k k0 k1 => ⟨_, _, (h.out (ST.and (KP.st hk (by omega)) (ST.and (LW.st MR.lw) (ST.and (LW.st LW.at) (LW.st LW.at))))).2.1.1.2 k k0 k1⟩) (fun _ h => ⟨_, _, (h.out (ST.and (KP.st hk (by omega)) (ST.and (LW.st MR.lw) (ST.and (LW.st LW.at) (LW.st LW.at))))).2.2.2⟩)) (cwS 2 S.2.2.2.2 gX2_merged_X2_with rfl rfl rfl (by decide +kernel) ⟨Nat.le_of_ble_eq_true rfl, Nat.le_of_ble_eq_true rfl⟩) rfl rfl rfl (Nat.le_of_ble_eq_true rfl) ⟨show kc + 1 + 1 ≤ 34 by omega, show ks + (2 : Int).toNat + 31 ≤ 544 by omega⟩ (fun q (hq : zz_q7 + 1 ≤ q) => (by show z ≤ q; omega)) (fun _ h => ⟨h.1, FZ.mk h.1 h.2⟩) (fun _ _ _ h _ _ => ⟨h.1, (h.2.2.out (ST.and (KP.st hk (by omega)) (ST.and (LW.st MR.lw) (ST.and (LW.st LW.at) (LW.st LW.at))))).1, MR.push (h.2.2.out (ST.and (KP.st hk (by omega)) (ST.and (LW.st MR.lw) (ST.and (LW.st LW.at) (LW.st LW.at))))).2.1 (by omega) (by have w9_q7 := (h.2.2.out (ST.and (KP.st hk (by omega)) (ST.and (LW.st MR.lw) (ST.and (LW.st LW.at) (LW.st LW.at))))).2.2.2; rw [pr_m] at w9_q7; exact w9_q7) h.2.1 (fun _ _ => rfl), (h.2.2.out (ST.and (KP.st hk (by omega)) (ST.and (LW.st MR.lw) (ST.and (LW.st LW.at) (LW.st LW.at))))).2.2.1⟩) dX2_merged_152 ?_
                refine g_astore_n S (lv' := [(1, .ref (zz_q7 + 1)), (5, .null), (0, .ref (b)), (2, .ref (z + 1)), (3, .int (iI kq)), (4, .int (iI nx_q7))]) dX2_merged_155 rfl (Nat.le_of_ble_eq_true rfl) rfl ?_
                refine g_iinc S (lv' := [(3, .int (iI (kq + 1))), (1, .ref (zz_q7 + 1)), (5, .null), (0, .ref (b)), (2, .ref (z + 1)), (4, .int (iI nx_q7))]) dX2_merged_156 4 rfl (Nat.le_of_ble_eq_true rfl) rfl ?_
                refine g_goto S (tgt := 12) dX2_merged_159 (by decide) ?_
                refine g_lv [3, 1, 4, 0] rfl ?_
                exact ihL12 (kq + 1) (upI dn_q7 nx_q7 1) (g.2.1 nx_q7) (zz_q7 + 2) (zz_q7 + 1) (apn GG (g.2.1 nx_q7) (g.2.2 nx_q7)) (upI rr GG.1 zz_q7) (kc + 1 + 1) (ks + (2 : Int).toNat + 31) (by omega) (by omega) (⟨by omega, low_s hl_q7.2 (by omega)⟩) (⟨upI_01 hd_q7.1 (Or.inr rfl), u9_q7.1⟩) (mg_n hG9_q7 (Or.inl (by omega)) (by omega)) (by omega) (by omega)
            · skip
              refine g_aload_n S dX2_merged_31 rfl 2 rfl ?_
              refine g_iload S dX2_merged_32 5 rfl ?_
              refine g_zald S xK (n := (g.1 : Int).toNat) (F := dn_q7) (fun _ h => h.2.2.2) (by omega) (by omega) dX2_merged_34 ?_
              have d35_q7 := hd_q7.1 yv_q7
              refine g_if_ne S (tgt := 62) dX2_merged_35 (by decide) (by omega) (fun c35_q7 => ?_) (fun c35_q7 => ?_)
              · skip
                refine g_iinc S (lv' := [(5, .int (iI (yv_q7 + 1))), (0, .ref (b)), (1, .ref (c)), (2, .ref (z + 1)), (3, .int (iI kq)), (4, .int (iI nx_q7))]) dX2_merged_62 5 rfl (Nat.le_of_ble_eq_true rfl) rfl ?_
                refine g_goto S (tgt := 24) dX2_merged_65 (by decide) ?_
                refine g_lv [1, 2, 3, 4, 5, 0] rfl ?_
                exact ihL24 (yv_q7 + 1) nx_q7 (by omega) (nxt_d hnx_q7 hd_q7.1 (by omega)) (by omega)
              · skip
                refine g_iload S dX2_merged_38 4 rfl ?_
                refine g_if_lt S (tgt := 58) dX2_merged_40 (by decide) (by omega) (fun c40_q7 => ?_) (fun c40_q7 => ?_)
                · skip
                  refine g_iload S dX2_merged_58 5 rfl ?_
                  refine g_istore S (lv' := [(4, .int (iI yv_q7)), (0, .ref (b)), (1, .ref (c)), (2, .ref (z + 1)), (3, .int (iI kq)), (5, .int (iI yv_q7))]) dX2_merged_60 (Nat.le_of_ble_eq_true rfl) rfl ?_
                  refine g_iinc S (lv' := [(5, .int (iI (yv_q7 + 1))), (4, .int (iI yv_q7)), (0, .ref (b)), (1, .ref (c)), (2, .ref (z + 1)), (3, .int (iI kq))]) dX2_merged_62 5 rfl (Nat.le_of_ble_eq_true rfl) rfl ?_
                  refine g_goto S (tgt := 24) dX2_merged_65 (by decide) ?_
                  refine g_lv [2, 3, 4, 5, 1, 0] rfl ?_
                  exact ihL24 (yv_q7 + 1) yv_q7 (by omega) (nxt_f hnx_q7 hd_q7.1 hy_q7.1 (by omega) (by omega)) (by omega)
                · skip
                  have b9_q7 := hb yv_q7 (by omega) (by omega)
                  have b8_q7 := hb nx_q7 (by omega) (by omega)
                  refine g_aload_n S dX2_merged_43 rfl 0 rfl ?_
                  refine g_iload S dX2_merged_44 5 rfl ?_
                  refine g_ldR S xK (t := 3) (by decide) (n := g.1) (f := r) (fun _ h => (hR _ h.2.1).1) (by omega) dX2_merged_46 ?_
                  refine g_iconst S dX2_merged_47 ?_
                  refine g_iald S xK (n := (2 : Int).toNat) (F := pr (g.2.1 yv_q7) (g.2.2 yv_q7)) (fun _ h => (hR _ h.2.1).2 yv_q7 (by omega) (by omega)) (by omega) (by omega) dX2_merged_48 ?_
                  refine g_st1 (v2 := .int (iI (g.2.1 yv_q7))) rfl ?_
                  refine g_aload_n S dX2_merged_49 rfl 0 rfl ?_
                  refine g_iload S dX2_merged_50 4 rfl ?_
                  refine g_ldR S xK (t := 3) (by decide) (n := g.1) (f := r) (fun _ h => (hR _ h.2.1).1) (by omega) dX2_merged_52 ?_
                  refine g_iconst S dX2_merged_53 ?_
                  refine g_iald S xK (n := (2 : Int).toNat) (F := pr (g.2.1 nx_q7) (g.2.2 nx_q7)) (fun _ h => (hR _ h.2.1).2 nx_q7 (by omega) (by omega)) (by omega) (by omega) dX2_merged_54 ?_
                  refine g_st1 (v2 := .int (iI (g.2.1 nx_q7))) rfl ?_
                  refine g_icmp_ge S (tgt := 62) dX2_merged_55 (by decide) (by omega) (fun c55_q7 => ?_) (fun c55_q7 => ?_)
                  · skip
                    refine g_iinc S (lv' := [(5, .int (iI (yv_q7 + 1))), (0, .ref (b)), (1, .ref (c)), (2, .ref (z + 1)), (3, .int (iI kq)), (4, .int (iI nx_q7))]) dX2_merged_62 5 rfl (Nat.le_of_ble_eq_true rfl) rfl ?_
                    refine g_goto S (tgt := 24) dX2_merged_65 (by decide) ?_
                    refine g_lv [1, 2, 3, 4, 5, 0] rfl ?_
                    exact ihL24 (yv_q7 + 1) nx_q7 (by omega) (nxt_g hnx_q7 (by omega) (by omega)) (by omega)
                  · skip
                    refine g_iload S dX2_merged_58 5 rfl ?_
                    refine g_istore S (lv' := [(4, .int (iI yv_q7)), (0, .ref (b)), (1, .ref (c)), (2, .ref (z + 1)), (3, .int (iI kq)), (5, .int (iI yv_q7))]) dX2_merged_60 (Nat.le_of_ble_eq_true rfl) rfl ?_
                    refine g_iinc S (lv' := [(5, .int (iI (yv_q7 + 1))), (4, .int (iI yv_q7)), (0, .ref (b)), (1, .ref (c)), (2, .ref (z + 1)), (3, .int (iI kq))]) dX2_merged_62 5 rfl (Nat.le_of_ble_eq_true rfl) rfl ?_
                    refine g_goto S (tgt := 24) dX2_merged_65 (by decide) ?_
                    refine g_lv [2, 3, 4, 5, 1, 0] rfl ?_
                    exact ihL24 (yv_q7 + 1) yv_q7 (by omega) (nxt_l hnx_q7 hy_q7.1 (by omega) (by omega) (by omega)) (by omega)
        refine g_iconst S dX2_merged_21 ?_
        refine g_istore S (lv' := [(5, .int (iI 0)), (4, .int (iI (-1))), (0, .ref (b)), (1, .ref (c)), (2, .ref (z + 1)), (3, .int (iI kq))]) dX2_merged_22 (Nat.le_of_ble_eq_true rfl) rfl ?_
        refine g_lv [2, 3, 4, 5, 1, 0] rfl ?_
        exact L24 ((g.1 - 0) + 1).toNat 0 (-1) (by omega) (nxt_0) (by omega)
  refine g_lv [3, 2, 1, 0] rfl ?_
  exact L12 ((g.1 - 0) + 1).toNat 0 (fun _ => 0) 0 (z + 2) z ((0, fun _ => 0, fun _ => 0) : SpT) (fun _ => 0) (0 + 1 + 1) (0 + (0 : Int).toNat + (g.1 : Int).toNat) (by omega) (by omega) (⟨by omega, fun j j0 j1_q7 => by have j1_q7 : j < 0 := j1_q7; omega⟩) (⟨fun _ => Or.inl rfl, smI_z _⟩) (mg_0 hb _ _) (by omega) (by omega)
