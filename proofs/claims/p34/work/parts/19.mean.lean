/-! THE MEAN, in the class and in the model -/
set_option maxHeartbeats 4000000 in
set_option maxRecDepth 100000 in
theorem m_X1_meanPages (l : Launch) (E : EN) {ad : Int → Nat} (hj : INJ ad) (sp : Int → SpT) (se : Int → Int) (al : Int → Nat) (ta : Int → Int) (n pg : Int) (hn : 0 ≤ n ∧ n ≤ 24) (hpg : 1 ≤ pg ∧ pg ≤ 300) (hsp : SPV sp n pg) : MetD lw_cs l yX1_meanPages wsX1_meanPages ({ frames := 2, cells := 0, slots := 0, locals := 43 }) (CI E [.ref (ad 0)] (CW E ad sp se al ta n pg)) (QD (MV (SUMP sp n) (CNTP sp n)) (CW E ad sp se al ta n pg) (fun _ => False)) 0 0 (fun _ => False) := by
  refine g_metD (cc := cX1_meanPages) (maxL := 5) (ret := (some .double)) (lv := [(0, .ref (ad 0))]) (by decide) rfl (Nat.le_of_ble_eq_true rfl) rfl ?_
  intro xp xe xs xm xa xb xh xc S xK xr xlk
  have kf36 := S.2.2.2.2 (.fieldLink RX1 36 "BookIndex" "headingCount" "I") (by decide +kernel)
  have hin1 : ∀ w ∈ wsX10, w ∈ wsX1_meanPages := by decide +kernel
  have L6 : ∀ (nf : Nat) (o : Int) (t : Int) (w : Int), (0 ≤ o ∧ o ≤ n) → (t = smI (fun i => PGS (sp i)) o.toNat) → (w = smI (fun i => pI (0 < PGS (sp i))) o.toNat) → (n - o < (nf : Int)) → G xp l xe ({ frames := 2, cells := 0, slots := 0, locals := 43 }) (xs.setDrawn xs.drawn) xm xa xb xh xc 5 (fun _ => False) 0 0 (MQD lw_cs xb (QD (MV (SUMP sp n) (CNTP sp n)) (CW E ad sp se al ta n pg) (fun _ => False)) xa xs 0 0 (fun _ => False)) 6 [(0, .ref (ad 0)), (1, .int (iI t)), (2, .int (iI w)), (3, .int (iI o))] [] (CW E ad sp se al ta n pg) := by
    intro nf
    induction nf with
    | zero =>
      intro o t w ho ht hw hmf
      exfalso
      omega
    | succ nf ihL6 =>
      intro o t w ho ht hw hmf
      have bw := smI_01 (f := fun i => pI (0 < PGS (sp i))) ho.1 (fun _ _ _ => pI_b _)
      rw [← hw] at bw
      refine g_iload_n S dX1_meanPages_6 rfl 3 rfl ?_
      refine g_aload_n S dX1_meanPages_7 rfl 0 rfl ?_
      refine g_get S xK (ref := "BookIndex") hin1 7 (by decide) (show vwCl[1]? = some (RX1, TX1, 9) from rfl) kf36 (fun _ h9 => h9) (fun _ h => cw_x h) rfl dX1_meanPages_8 ?_
      refine g_icmp_ge S (tgt := 43) dX1_meanPages_11 (by decide) (by omega) (fun c11 => ?_) (fun c11 => ?_)
      · skip
        refine g_iload_n S dX1_meanPages_43 rfl 2 rfl ?_
        refine g_if_ne S (tgt := 51) dX1_meanPages_44 (by decide) (by omega) (fun c44 => ?_) (fun c44 => ?_)
        · skip
          refine g_iload_n S dX1_meanPages_51 rfl 1 rfl ?_
          refine g_i2d S dX1_meanPages_52 ?_
          refine g_iload_n S dX1_meanPages_53 rfl 2 rfl ?_
          refine g_i2d S dX1_meanPages_54 ?_
          exact g_ddret S xr xlk dX1_meanPages_55 dX1_meanPages_56 (fun r hal => by have e1 : SUMP sp n = t := (by rw [ht, show o = n by omega]); have e2 : CNTP sp n = w := (by rw [hw, show o = n by omega]); show MV _ _ _; rw [e1, e2]; unfold MV; rw [if_neg c44]; exact hal) (fun _ h => h)
        · skip
          refine g_dconst0 S dX1_meanPages_47 ?_
          refine g_goto S (tgt := 56) dX1_meanPages_48 (by decide) ?_
          exact g_d0ret S xr xlk dX1_meanPages_56 (by have e1 : SUMP sp n = t := (by rw [ht, show o = n by omega]); have e2 : CNTP sp n = w := (by rw [hw, show o = n by omega]); show MV _ _ _; rw [e1, e2]; unfold MV; rw [if_pos c44]) (fun _ h => h)
      · skip
        refine g_aload_n S dX1_meanPages_14 rfl 0 rfl ?_
        refine g_iload_n S dX1_meanPages_15 rfl 3 rfl ?_
        refine g_callV S xK (As := [.int (iI o)]) (st := []) (stk' := [.ref (ad (5 + 3 * o))]) (Wp' := CW E ad sp se al ta n pg) (r := (RX1, TX1, 9)) (m_X1_spansAt l E hj sp se al ta n pg o (by omega) hn) (cwV 1 S.2.2.2.2 gX1_meanPages_X1_spansAt rfl rfl rfl (by decide +kernel) ⟨Nat.le_of_ble_eq_true rfl, Nat.le_of_ble_eq_true rfl⟩) rfl rfl rfl rfl (Nat.le_of_ble_eq_true rfl) ⟨Nat.le_of_ble_eq_true rfl, Nat.le_of_ble_eq_true rfl⟩ (fun _ q => q.elim) (fun _ h => cw_x h) (fun _ h => h) (fun _ _ _ h _ _ => h) dX1_meanPages_16 ?_
        refine g_callV S xK (As := []) (st := []) (stk' := [.int (iI (smI (fun k => (sp o).2.2 k - (sp o).2.1 k + 1) ((sp o).1).toNat))]) (Wp' := CW E ad sp se al ta n pg) (r := (RX0, TX0, 3)) (m_X0_pages l E hj sp se al ta n pg o (by omega) (sp o) (rfl) (vl_wb (by omega) (hsp o (by omega) (by omega)).1)) (cwV 0 S.2.2.2.2 gX1_meanPages_X0_pages rfl rfl rfl (by decide +kernel) ⟨Nat.le_of_ble_eq_true rfl, Nat.le_of_ble_eq_true rfl⟩) rfl rfl rfl rfl (Nat.le_of_ble_eq_true rfl) ⟨Nat.le_of_ble_eq_true rfl, Nat.le_of_ble_eq_true rfl⟩ (fun _ q => q.elim) (fun _ h => cw_o (i := o) h (by omega) (rfl)) (fun _ h => h) (fun _ _ _ h _ _ => h) dX1_meanPages_19 ?_
        rw [show smI (fun k => (sp o).2.2 k - (sp o).2.1 k + 1) ((sp o).1).toNat = PGS (sp o) from rfl]
        refine g_istore S (lv' := [(4, .int (iI (PGS (sp o)))), (0, .ref (ad 0)), (1, .int (iI t)), (2, .int (iI w)), (3, .int (iI o))]) dX1_meanPages_22 (Nat.le_of_ble_eq_true rfl) rfl ?_
        refine g_iload S dX1_meanPages_24 0 rfl ?_
        have b26 := pgs_b (hsp o (by omega) (by omega)).1 (pg := pg) (by omega)
        refine g_if_le S (tgt := 37) dX1_meanPages_26 (by decide) (by omega) (fun c26 => ?_) (fun c26 => ?_)
        · skip
          refine g_iinc S (lv' := [(3, .int (iI (o + 1))), (4, .int (iI (PGS (sp o)))), (0, .ref (ad 0)), (1, .int (iI t)), (2, .int (iI w))]) dX1_meanPages_37 4 rfl (Nat.le_of_ble_eq_true rfl) rfl ?_
          refine g_goto S (tgt := 6) dX1_meanPages_40 (by decide) ?_
          refine g_lv [2, 3, 4, 0] rfl ?_
          exact ihL6 (o + 1) t w (by omega) (by rw [smI_s _ ho.1, ← ht]; omega) (by rw [smI_s _ ho.1, ← hw, pI_f (by omega)]; omega) (by omega)
        · skip
          refine g_iload_n S dX1_meanPages_29 rfl 2 rfl ?_
          refine g_iload S dX1_meanPages_30 0 rfl ?_
          refine g_iadd S dX1_meanPages_32 ?_
          refine g_istore_n S (lv' := [(1, .int (iI (t + PGS (sp o)))), (4, .int (iI (PGS (sp o)))), (0, .ref (ad 0)), (2, .int (iI w)), (3, .int (iI o))]) dX1_meanPages_33 rfl (Nat.le_of_ble_eq_true rfl) rfl ?_
          refine g_iinc S (lv' := [(2, .int (iI (w + 1))), (1, .int (iI (t + PGS (sp o)))), (4, .int (iI (PGS (sp o)))), (0, .ref (ad 0)), (3, .int (iI o))]) dX1_meanPages_34 3 rfl (Nat.le_of_ble_eq_true rfl) rfl ?_
          refine g_iinc S (lv' := [(3, .int (iI (o + 1))), (2, .int (iI (w + 1))), (1, .int (iI (t + PGS (sp o)))), (4, .int (iI (PGS (sp o)))), (0, .ref (ad 0))]) dX1_meanPages_37 4 rfl (Nat.le_of_ble_eq_true rfl) rfl ?_
          refine g_goto S (tgt := 6) dX1_meanPages_40 (by decide) ?_
          refine g_lv [4, 2, 1, 0] rfl ?_
          exact ihL6 (o + 1) (t + PGS (sp o)) (w + 1) (by omega) (by rw [smI_s _ ho.1, ← ht]) (by rw [smI_s _ ho.1, ← hw, pI_t (by omega)]) (by omega)
  refine g_iconst S dX1_meanPages_0 ?_
  refine g_istore_n S (lv' := [(1, .int (iI 0)), (0, .ref (ad 0))]) dX1_meanPages_1 rfl (Nat.le_of_ble_eq_true rfl) rfl ?_
  refine g_iconst S dX1_meanPages_2 ?_
  refine g_istore_n S (lv' := [(2, .int (iI 0)), (1, .int (iI 0)), (0, .ref (ad 0))]) dX1_meanPages_3 rfl (Nat.le_of_ble_eq_true rfl) rfl ?_
  refine g_iconst S dX1_meanPages_4 ?_
  refine g_istore_n S (lv' := [(3, .int (iI 0)), (2, .int (iI 0)), (1, .int (iI 0)), (0, .ref (ad 0))]) dX1_meanPages_5 rfl (Nat.le_of_ble_eq_true rfl) rfl ?_
  refine g_lv [3, 2, 1, 0] rfl ?_
  exact L6 ((n - 0) + 1).toNat 0 0 0 (by omega) (rfl) (rfl) (by omega)
