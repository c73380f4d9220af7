/-! THE MODEL: its digest -/
theorem dgF6 {F : Int → Int} {d : Int64} {a0 a1 a2 a3 a4 a5 : Int} (h0 : F 0 = a0) (h1 : F 1 = a1) (h2 : F 2 = a2) (h3 : F 3 = a3) (h4 : F 4 = a4) (h5 : F 5 = a5) : dgF F d 6 = dgL d [a0, a1, a2, a3, a4, a5] := by
  subst h0; subst h1; subst h2; subst h3; subst h4; subst h5
  rfl
theorem dgF8 {F : Int → Int} {d : Int64} {a0 a1 a2 a3 a4 a5 a6 a7 : Int} (h0 : F 0 = a0) (h1 : F 1 = a1) (h2 : F 2 = a2) (h3 : F 3 = a3) (h4 : F 4 = a4) (h5 : F 5 = a5) (h6 : F 6 = a6) (h7 : F 7 = a7) : dgF F d 8 = dgL d [a0, a1, a2, a3, a4, a5, a6, a7] := by
  subst h0; subst h1; subst h2; subst h3; subst h4; subst h5; subst h6; subst h7
  rfl
set_option maxHeartbeats 4000000 in
set_option maxRecDepth 100000 in
theorem m_X2_digest (l : Launch) (E : EN) {am : Int → Nat} (hj : INM am) (th pg n : Int) (on se : Int → Int) (al : Int → Nat) (sp : Int → SpT) (hn : 0 ≤ n ∧ n ≤ 24) (hpg : 1 ≤ pg ∧ pg ≤ 300) (hrl : RPS on sp n) (hsp : SPV sp n pg) (hon : ∀ k, on k = 0 ∨ on k = 1) (hgr : GR se al n) : Met l yX2_digest wsX2_digest ({ frames := 3, cells := 25, slots := 198, locals := 71 }) (CI E [.ref (am 0)] (MW E am th pg n on se al)) (QW (some (.long (dgA sp se al n (dgL 2113 (TLS sp se al n pg)) n.toNat))) (MW E am 0 pg n on se al) (AM am)) 25 198 (AM am) := by
  refine g_met (cc := cX2_digest) (maxL := 11) (ret := (some .long)) (lv := [(0, .ref (am 0))]) (by decide) rfl (Nat.le_of_ble_eq_true rfl) rfl ?_
  intro xp xe xs xm xa xb xh xc S xK xr xlk xin
  have kf24 := S.2.2.2.2 (.fieldLink RX2 24 "BookIndexModel" "thrown" "I") (by decide +kernel)
  have kaI := S.2.2.2.2 (.arrayClass .int) (by decide +kernel)
  have kf9 := S.2.2.2.2 (.fieldLink RX2 9 "BookIndexModel" "pages" "I") (by decide +kernel)
  have kf27 := S.2.2.2.2 (.fieldLink RX2 27 "BookIndexModel" "headings" "I") (by decide +kernel)
  have kc129 := S.2.2.2.2 (.constantLong RX2 129 2113) (by decide +kernel)
  have kf17 := S.2.2.2.2 (.fieldLink RX2 17 "BookIndexModel" "see" "[I") (by decide +kernel)
  have kf21 := S.2.2.2.2 (.fieldLink RX2 21 "BookIndexModel" "also" "[I") (by decide +kernel)
  have kc131 := S.2.2.2.2 (.constantLong RX2 131 31) (by decide +kernel)
  have hin2 : ∀ w ∈ wsX20, w ∈ wsX2_digest := by decide +kernel
  refine g_aload_n S dX2_digest_0 rfl 0 rfl ?_
  refine g_iconst S dX2_digest_1 ?_
  refine g_put S xK (Wp' := MW E am 0 pg n on se al) (ref := "BookIndexModel") (ty := .int) hin2 tyX2 tyX2_ok nmX2 0 (by decide) (show vwCl[2]? = some (RX2, TX2, 6) from rfl) kf24 (fun _ h9 => h9) rfl (by decide +kernel) rfl rfl (fun _ h => mw_x h) (Nat.le_of_ble_eq_true rfl) (am_in (by omega)) (fun _ _ h hv _ oq => mw_sX hj h hv oq) dX2_digest_2 ?_
  refine g_bipush S dX2_digest_5 (by decide) ?_
  refine g_newI S xK (n := 6) (Wn := fun xq9 => MD E am 0 pg n on se al xq9 6 (fun _ => 0)) kaI (by decide) ⟨show 0 + 1 ≤ 25 by omega, show 0 + 6 ≤ 198 by omega⟩ (fun _ _ h hv hq => md_new h hv hq) dX2_digest_7 (fun xq7 hbxq7 => ?_)
  refine g_dup S dX2_digest_9 rfl ?_
  refine g_iconst S dX2_digest_10 ?_
  refine g_aload_n S dX2_digest_11 rfl 0 rfl ?_
  refine g_get S xK (ref := "BookIndexModel") hin2 1 (by decide) (show vwCl[2]? = some (RX2, TX2, 6) from rfl) kf9 (fun _ h9 => h9) (fun _ h => mw_x h.2.1) rfl dX2_digest_12 ?_
  refine g_iastF S xK (Wp' := MD E am 0 pg n on se al xq7 6 (upI (fun _ => 0) 0 pg)) (n := 6) (fun _ h => h.2.2) (by omega) (by decide) hbxq7 (fun _ _ h hv _ oq => md_st h hv oq) dX2_digest_15 ?_
  refine g_dup S dX2_digest_16 rfl ?_
  refine g_iconst S dX2_digest_17 ?_
  refine g_aload_n S dX2_digest_18 rfl 0 rfl ?_
  refine g_get S xK (ref := "BookIndexModel") hin2 2 (by decide) (show vwCl[2]? = some (RX2, TX2, 6) from rfl) kf27 (fun _ h9 => h9) (fun _ h => mw_x h.2.1) rfl dX2_digest_19 ?_
  refine g_iastF S xK (Wp' := MD E am 0 pg n on se al xq7 6 (upI (upI (fun _ => 0) 0 pg) 1 n)) (n := 6) (fun _ h => h.2.2) (by omega) (by decide) hbxq7 (fun _ _ h hv _ oq => md_st h hv oq) dX2_digest_22 ?_
  refine g_dup S dX2_digest_23 rfl ?_
  refine g_iconst S dX2_digest_24 ?_
  refine g_aload_n S dX2_digest_25 rfl 0 rfl ?_
  refine g_callV S xK (As := []) (st := [.int (iI 2), .ref (xq7), .ref (xq7)]) (stk' := [.int (iI (smI (fun k => pI (smI (fun o => on (302 * o + (k + 1))) n.toNat = 0)) pg.toNat)), .int (iI 2), .ref (xq7), .ref (xq7)]) (Wp' := MD E am 0 pg n on se al xq7 6 (upI (upI (fun _ => 0) 0 pg) 1 n)) (r := (RX2, TX2, 6)) (m_X2_bare l E hj 0 pg n on se al  hn hpg hon) (cwV 0 S.2.2.2.2 gX2_digest_X2_bare rfl rfl rfl (by decide +kernel) ⟨Nat.le_of_ble_eq_true rfl, Nat.le_of_ble_eq_true rfl⟩) rfl rfl rfl rfl (Nat.le_of_ble_eq_true rfl) ⟨show 0 + 1 + 0 ≤ 25 by omega, show 0 + 6 + 0 ≤ 198 by omega⟩ (fun _ q => q.elim) (fun _ h => mw_x h.2.1) (fun _ h => h.2.1) (fun _ _ h h2 _ hq => md_call h h2 hq) dX2_digest_26 ?_
  rw [show smI (fun k => pI (smI (fun o => on (302 * o + (k + 1))) n.toNat = 0)) pg.toNat = BARE sp n pg from rl_bare hrl hon (by omega)]
  refine g_iastF S xK (Wp' := MD E am 0 pg n on se al xq7 6 (upI (upI (upI (fun _ => 0) 0 pg) 1 n) 2 (BARE sp n pg))) (n := 6) (fun _ h => h.2.2) (by omega) (by decide) hbxq7 (fun _ _ h hv _ oq => md_st h hv oq) dX2_digest_29 ?_
  refine g_dup S dX2_digest_30 rfl ?_
  refine g_iconst S dX2_digest_31 ?_
  refine g_aload_n S dX2_digest_32 rfl 0 rfl ?_
  refine g_callV S xK (As := []) (st := [.int (iI 3), .ref (xq7), .ref (xq7)]) (stk' := [.int (iI (flS (fun q => smI (fun o => on (302 * o + q)) n.toNat) (pg - 1).toNat)), .int (iI 3), .ref (xq7), .ref (xq7)]) (Wp' := MD E am 0 pg n on se al xq7 6 (upI (upI (upI (fun _ => 0) 0 pg) 1 n) 2 (BARE sp n pg))) (r := (RX2, TX2, 6)) (m_X2_fullest l E hj 0 pg n on se al  hn hpg hon) (cwV 0 S.2.2.2.2 gX2_digest_X2_fullest rfl rfl rfl (by decide +kernel) ⟨Nat.le_of_ble_eq_true rfl, Nat.le_of_ble_eq_true rfl⟩) rfl rfl rfl rfl (Nat.le_of_ble_eq_true rfl) ⟨show 0 + 1 + 0 ≤ 25 by omega, show 0 + 6 + 0 ≤ 198 by omega⟩ (fun _ q => q.elim) (fun _ h => mw_x h.2.1) (fun _ h => h.2.1) (fun _ _ h h2 _ hq => md_call h h2 hq) dX2_digest_33 ?_
  rw [show flS (fun q => smI (fun o => on (302 * o + q)) n.toNat) (pg - 1).toNat = FULL sp n pg from rl_full hrl hon (by omega)]
  refine g_iastF S xK (Wp' := MD E am 0 pg n on se al xq7 6 (upI (upI (upI (upI (fun _ => 0) 0 pg) 1 n) 2 (BARE sp n pg)) 3 (FULL sp n pg))) (n := 6) (fun _ h => h.2.2) (by omega) (by decide) hbxq7 (fun _ _ h hv _ oq => md_st h hv oq) dX2_digest_36 ?_
  refine g_dup S dX2_digest_37 rfl ?_
  refine g_iconst S dX2_digest_38 ?_
  refine g_aload_n S dX2_digest_39 rfl 0 rfl ?_
  refine g_callV S xK (As := []) (st := [.int (iI 4), .ref (xq7), .ref (xq7)]) (stk' := [.int (iI (smI (fun h => pI ((fun h => se h ≠ -1 ∧ (eS se (n + 1).toNat h = -1 ∨ smI (fun k => on (302 * eS se (n + 1).toNat h + (k + 1))) pg.toNat = 0)) h)) n.toNat)), .int (iI 4), .ref (xq7), .ref (xq7)]) (Wp' := MD E am 0 pg n on se al xq7 6 (upI (upI (upI (upI (fun _ => 0) 0 pg) 1 n) 2 (BARE sp n pg)) 3 (FULL sp n pg))) (r := (RX2, TX2, 6)) (m_X2_vain l E hj 0 pg n on se al  hn hpg hon hgr) (cwV 0 S.2.2.2.2 gX2_digest_X2_vain rfl rfl rfl (by decide +kernel) ⟨Nat.le_of_ble_eq_true rfl, Nat.le_of_ble_eq_true rfl⟩) rfl rfl rfl rfl (Nat.le_of_ble_eq_true rfl) ⟨show 0 + 1 + 0 ≤ 25 by omega, show 0 + 6 + 0 ≤ 198 by omega⟩ (fun _ q => q.elim) (fun _ h => mw_x h.2.1) (fun _ h => h.2.1) (fun _ _ h h2 _ hq => md_call h h2 hq) dX2_digest_40 ?_
  rw [show smI (fun h => pI ((fun h => se h ≠ -1 ∧ (eS se (n + 1).toNat h = -1 ∨ smI (fun k => on (302 * eS se (n + 1).toNat h + (k + 1))) pg.toNat = 0)) h)) n.toNat = VAIN sp se n from rl_vain hrl hsp hon (by omega) hn hgr]
  refine g_iastF S xK (Wp' := MD E am 0 pg n on se al xq7 6 (upI (upI (upI (upI (upI (fun _ => 0) 0 pg) 1 n) 2 (BARE sp n pg)) 3 (FULL sp n pg)) 4 (VAIN sp se n))) (n := 6) (fun _ h => h.2.2) (by omega) (by decide) hbxq7 (fun _ _ h hv _ oq => md_st h hv oq) dX2_digest_43 ?_
  refine g_dup S dX2_digest_44 rfl ?_
  refine g_iconst S dX2_digest_45 ?_
  refine g_aload_n S dX2_digest_46 rfl 0 rfl ?_
  refine g_callV S xK (As := []) (st := [.int (iI 5), .ref (xq7), .ref (xq7)]) (stk' := [.int (iI (n - ((pop (rS se al n n.toNat) 24 : Nat) : Int))), .int (iI 5), .ref (xq7), .ref (xq7)]) (Wp' := MD E am 0 pg n on se al xq7 6 (upI (upI (upI (upI (upI (fun _ => 0) 0 pg) 1 n) 2 (BARE sp n pg)) 3 (FULL sp n pg)) 4 (VAIN sp se n))) (r := (RX2, TX2, 6)) (m_X2_alone l E hj 0 pg n on se al  hn hgr) (cwV 0 S.2.2.2.2 gX2_digest_X2_alone rfl rfl rfl (by decide +kernel) ⟨Nat.le_of_ble_eq_true rfl, Nat.le_of_ble_eq_true rfl⟩) rfl rfl rfl rfl (Nat.le_of_ble_eq_true rfl) ⟨show 0 + 1 + 0 ≤ 25 by omega, show 0 + 6 + 0 ≤ 198 by omega⟩ (fun _ q => q.elim) (fun _ h => mw_x h.2.1) (fun _ h => h.2.1) (fun _ _ h h2 _ hq => md_call h h2 hq) dX2_digest_47 ?_
  rw [show n - ((pop (rS se al n n.toNat) 24 : Nat) : Int) = UNL se al n from rl_alone]
  refine g_iastF S xK (Wp' := MD E am 0 pg n on se al xq7 6 (upI (upI (upI (upI (upI (upI (fun _ => 0) 0 pg) 1 n) 2 (BARE sp n pg)) 3 (FULL sp n pg)) 4 (VAIN sp se n)) 5 (UNL se al n))) (n := 6) (fun _ h => h.2.2) (by omega) (by decide) hbxq7 (fun _ _ h hv _ oq => md_st h hv oq) dX2_digest_50 ?_
  refine g_astore_n S (lv' := [(1, .ref (xq7)), (0, .ref (am 0))]) dX2_digest_51 rfl (Nat.le_of_ble_eq_true rfl) rfl ?_
  refine g_ldc2 S kc129 dX2_digest_52 ?_
  refine g_lstore_n S (lv' := [(2, .long 2113), (1, .ref (xq7)), (0, .ref (am 0))]) dX2_digest_55 rfl (Nat.le_of_ble_eq_true rfl) rfl ?_
  refine g_aload_n S dX2_digest_56 rfl 1 rfl ?_
  refine g_astore S (lv' := [(4, .ref (xq7)), (2, .long 2113), (1, .ref (xq7)), (0, .ref (am 0))]) dX2_digest_57 (Nat.le_of_ble_eq_true rfl) rfl ?_
  refine g_aload S dX2_digest_59 0 rfl ?_
  refine g_alen S xK (n := 6) (x := 0) 0 rfl (fun _ h => h.2.2) dX2_digest_61 ?_
  refine g_istore S (lv' := [(5, .int (iI 6)), (4, .ref (xq7)), (2, .long 2113), (1, .ref (xq7)), (0, .ref (am 0))]) dX2_digest_62 (Nat.le_of_ble_eq_true rfl) rfl ?_
  refine g_iconst S dX2_digest_64 ?_
  refine g_istore S (lv' := [(6, .int (iI 0)), (5, .int (iI 6)), (4, .ref (xq7)), (2, .long 2113), (1, .ref (xq7)), (0, .ref (am 0))]) dX2_digest_65 (Nat.le_of_ble_eq_true rfl) rfl ?_
  have L100 : ∀ (nf : Nat) (w : Int) (dd : Int64) (cv : Nat) (tv : Nat), (0 ≤ w ∧ w ≤ n) → ((cv : Int) ≤ 1 + w ∧ (tv : Int) ≤ 6 + 8 * w) → (dd = dgA sp se al n (dgL 2113 (TLS sp se al n pg)) w.toNat) → (n - w < (nf : Int)) → G xp l xe ({ frames := 3, cells := 25, slots := 198, locals := 71 }) xs xm xa xb xh xc 11 (AM am) cv tv (MQ xb (QW (some (.long (dgA sp se al n (dgL 2113 (TLS sp se al n pg)) n.toNat))) (MW E am 0 pg n on se al) (AM am)) xa xs 25 198 (AM am)) 100 [(0, .ref (am 0)), (2, .long dd), (4, .int (iI w))] [] (MW E am 0 pg n on se al) := by
    intro nf
    induction nf with
    | zero =>
      intro w dd cv tv ho hc hd hmf
      exfalso
      omega
    | succ nf ihL100 =>
      intro w dd cv tv ho hc hd hmf
      refine g_iload S dX2_digest_100 2 rfl ?_
      refine g_aload_n S dX2_digest_102 rfl 0 rfl ?_
      refine g_get S xK (ref := "BookIndexModel") hin2 2 (by decide) (show vwCl[2]? = some (RX2, TX2, 6) from rfl) kf27 (fun _ h9 => h9) (fun _ h => mw_x h) rfl dX2_digest_103 ?_
      refine g_icmp_ge S (tgt := 308) dX2_digest_106 (by decide) (by omega) (fun c106 => ?_) (fun c106 => ?_)
      · skip
        refine g_lload_n S dX2_digest_308 rfl 1 rfl ?_
        refine g_wid (k := 25) (n := 198) (by omega) (by omega) ?_
        rw [show (dgA sp se al n (dgL 2113 (TLS sp se al n pg)) n.toNat) = dd from by rw [hd, show w = n by omega]]
        exact g_lret S xr xlk dX2_digest_309 (fun _ h => h)
      · skip
        have v9o := hsp w (by omega) (by omega)
        have w9o := v9o.1.1
        have h1l : 2 ^ w.toNat < 2 ^ n.toNat := Nat.pow_lt_pow_right (by decide) (by omega)
        refine g_aload_n S dX2_digest_109 rfl 0 rfl ?_
        refine g_iload S dX2_digest_110 2 rfl ?_
        refine g_iload S dX2_digest_112 2 rfl ?_
        refine g_iconst S dX2_digest_114 ?_
        refine g_callV S xK (As := [.int (iI w), .int (iI w), .int (iI 0)]) (st := []) (stk' := [.int (iI ((spS (fun x => on (302 * w + x) = 1 ∨ on (302 * w + x) = 1) 0 pg.toNat).1))]) (Wp' := MW E am 0 pg n on se al) (r := (RX2, TX2, 6)) (m_X2_spans l E hj 0 pg n on se al w w 0 (by omega) (by omega) (by omega) hpg hon) (cwV 3 S.2.2.2.2 gX2_digest_X2_spans rfl rfl rfl (by decide +kernel) ⟨Nat.le_of_ble_eq_true rfl, Nat.le_of_ble_eq_true rfl⟩) rfl rfl rfl rfl (Nat.le_of_ble_eq_true rfl) ⟨show cv + 0 ≤ 25 by omega, show tv + 0 ≤ 198 by omega⟩ (fun _ q => q.elim) (fun _ h => mw_x h) (fun _ h => h) (fun _ _ _ h _ _ => h) dX2_digest_115 ?_
        rw [show (spS (fun x => on (302 * w + x) = 1 ∨ on (302 * w + x) = 1) 0 pg.toNat).1 = (sp w).1 from rl_spans0 hrl hsp (by omega) (by omega)]
        refine g_istore S (lv' := [(5, .int (iI ((sp w).1))), (0, .ref (am 0)), (2, .long dd), (4, .int (iI w))]) dX2_digest_118 (Nat.le_of_ble_eq_true rfl) rfl ?_
        refine g_bipush S dX2_digest_120 (by decide) ?_
        refine g_newI S xK (n := 8) (Wn := fun xq9 => MD E am 0 pg n on se al xq9 8 (fun _ => 0)) kaI (by decide) ⟨show cv + 1 ≤ 25 by omega, show tv + 8 ≤ 198 by omega⟩ (fun _ _ h hv hq => md_new h hv hq) dX2_digest_122 (fun xq122 hbxq122 => ?_)
        refine g_dup S dX2_digest_124 rfl ?_
        refine g_iconst S dX2_digest_125 ?_
        refine g_iload S dX2_digest_126 0 rfl ?_
        refine g_iastF S xK (Wp' := MD E am 0 pg n on se al xq122 8 (upI (fun _ => 0) 0 ((sp w).1))) (n := 8) (fun _ h => h.2.2) (by omega) (by decide) hbxq122 (fun _ _ h hv _ oq => md_st h hv oq) dX2_digest_128 ?_
        refine g_dup S dX2_digest_129 rfl ?_
        refine g_iconst S dX2_digest_130 ?_
        refine g_aload_n S dX2_digest_131 rfl 1 rfl ?_
        refine g_iload S dX2_digest_132 3 rfl ?_
        refine g_callV S xK (As := [.int (iI w)]) (st := [.int (iI 1), .ref (xq122), .ref (xq122)]) (stk' := [.int (iI (smI (fun k => on (302 * w + (k + 1))) pg.toNat)), .int (iI 1), .ref (xq122), .ref (xq122)]) (Wp' := MD E am 0 pg n on se al xq122 8 (upI (fun _ => 0) 0 ((sp w).1))) (r := (RX2, TX2, 6)) (m_X2_many l E hj 0 pg n on se al w (by omega) hpg hon) (cwV 1 S.2.2.2.2 gX2_digest_X2_many rfl rfl rfl (by decide +kernel) ⟨Nat.le_of_ble_eq_true rfl, Nat.le_of_ble_eq_true rfl⟩) rfl rfl rfl rfl (Nat.le_of_ble_eq_true rfl) ⟨show cv + 1 + 0 ≤ 25 by omega, show tv + 8 + 0 ≤ 198 by omega⟩ (fun _ q => q.elim) (fun _ h => mw_x h.2.1) (fun _ h => h.2.1) (fun _ _ h h2 _ hq => md_call h h2 hq) dX2_digest_134 ?_
        rw [show smI (fun k => on (302 * w + (k + 1))) pg.toNat = PGS (sp w) from rl_many hrl hsp hon (by omega) (by omega)]
        refine g_iastF S xK (Wp' := MD E am 0 pg n on se al xq122 8 (upI (upI (fun _ => 0) 0 ((sp w).1)) 1 (PGS (sp w)))) (n := 8) (fun _ h => h.2.2) (by omega) (by decide) hbxq122 (fun _ _ h hv _ oq => md_st h hv oq) dX2_digest_137 ?_
        refine g_dup S dX2_digest_138 rfl ?_
        refine g_iconst S dX2_digest_139 ?_
        refine g_aload_n S dX2_digest_140 rfl 1 rfl ?_
        refine g_get S xK (ref := "BookIndexModel") hin2 4 (by decide) (show vwCl[2]? = some (RX2, TX2, 6) from rfl) kf17 (fun _ h9 => h9) (fun _ h => mw_x h.2.1) rfl dX2_digest_141 ?_
        refine g_iload S dX2_digest_144 3 rfl ?_
        refine g_iald S xK (n := 24) (fun _ h => mw_se h.2.1) (by omega) (by decide) dX2_digest_146 ?_
        refine g_iastF S xK (Wp' := MD E am 0 pg n on se al xq122 8 (upI (upI (upI (fun _ => 0) 0 ((sp w).1)) 1 (PGS (sp w))) 2 (se w))) (n := 8) (fun _ h => h.2.2) (by omega) (by decide) hbxq122 (fun _ _ h hv _ oq => md_st h hv oq) dX2_digest_147 ?_
        refine g_dup S dX2_digest_148 rfl ?_
        refine g_iconst S dX2_digest_149 ?_
        refine g_aload_n S dX2_digest_150 rfl 1 rfl ?_
        refine g_get S xK (ref := "BookIndexModel") hin2 5 (by decide) (show vwCl[2]? = some (RX2, TX2, 6) from rfl) kf21 (fun _ h9 => h9) (fun _ h => mw_x h.2.1) rfl dX2_digest_151 ?_
        refine g_iload S dX2_digest_154 3 rfl ?_
        refine g_iald S xK (n := 24) (fun _ h => mw_al h.2.1) (by omega) (by decide) dX2_digest_156 ?_
        refine g_callS S xK (As := [.int (iI ((al w : Nat) : Int))]) (st := [.int (iI 3), .ref (xq122), .ref (xq122)]) (stk' := [.int (iI ((pop (al w) 24 : Nat) : Int)), .int (iI 3), .ref (xq122), .ref (xq122)]) (Wp' := MD E am 0 pg n on se al xq122 8 (upI (upI (upI (fun _ => 0) 0 ((sp w).1)) 1 (PGS (sp w))) 2 (se w))) (m_J6_bitCount_0f7a4 l E (MD E am 0 pg n on se al xq122 8 (upI (upI (upI (fun _ => 0) 0 ((sp w).1)) 1 (PGS (sp w))) 2 (se w))) (al w) (lt24 hn (hgr.2 w (by omega) (by omega)))) (va_cwS 1 S.2.2.2.2 gX2_digest_J6_bitCount_0f7a4 rfl rfl rfl (by decide +kernel) ⟨Nat.le_of_ble_eq_true rfl, Nat.le_of_ble_eq_true rfl⟩) rfl rfl rfl (Nat.le_of_ble_eq_true rfl) ⟨show cv + 1 + 0 ≤ 25 by omega, show tv + 8 + 0 ≤ 198 by omega⟩ (fun _ q => q.elim) (fun _ h => h) (fun _ _ _ h _ _ => h) dX2_digest_157 ?_
        refine g_iastF S xK (Wp' := MD E am 0 pg n on se al xq122 8 (upI (upI (upI (upI (fun _ => 0) 0 ((sp w).1)) 1 (PGS (sp w))) 2 (se w)) 3 ((pop (al w) 24 : Nat) : Int))) (n := 8) (fun _ h => h.2.2) (by omega) (by decide) hbxq122 (fun _ _ h hv _ oq => md_st h hv oq) dX2_digest_160 ?_
        refine g_dup S dX2_digest_161 rfl ?_
        refine g_iconst S dX2_digest_162 ?_
        refine g_aload_n S dX2_digest_163 rfl 1 rfl ?_
        refine g_iload S dX2_digest_164 3 rfl ?_
        refine g_callV S xK (As := [.int (iI w)]) (st := [.int (iI 4), .ref (xq122), .ref (xq122)]) (stk' := [.int (iI (eS se (n + 1).toNat w)), .int (iI 4), .ref (xq122), .ref (xq122)]) (Wp' := MD E am 0 pg n on se al xq122 8 (upI (upI (upI (upI (fun _ => 0) 0 ((sp w).1)) 1 (PGS (sp w))) 2 (se w)) 3 ((pop (al w) 24 : Nat) : Int))) (r := (RX2, TX2, 6)) (m_X2_end l E hj 0 pg n on se al w (by omega) hn hgr) (cwV 1 S.2.2.2.2 gX2_digest_X2_end rfl rfl rfl (by decide +kernel) ⟨Nat.le_of_ble_eq_true rfl, Nat.le_of_ble_eq_true rfl⟩) rfl rfl rfl rfl (Nat.le_of_ble_eq_true rfl) ⟨show cv + 1 + 0 ≤ 25 by omega, show tv + 8 + 0 ≤ 198 by omega⟩ (fun _ q => q.elim) (fun _ h => mw_x h.2.1) (fun _ h => h.2.1) (fun _ _ h h2 _ hq => md_call h h2 hq) dX2_digest_166 ?_
        rw [show eS se (n + 1).toNat w = eS se n.toNat w from eS_one hn hgr.1 (by omega)]
        refine g_iastF S xK (Wp' := MD E am 0 pg n on se al xq122 8 (upI (upI (upI (upI (upI (fun _ => 0) 0 ((sp w).1)) 1 (PGS (sp w))) 2 (se w)) 3 ((pop (al w) 24 : Nat) : Int)) 4 (eS se n.toNat w))) (n := 8) (fun _ h => h.2.2) (by omega) (by decide) hbxq122 (fun _ _ h hv _ oq => md_st h hv oq) dX2_digest_169 ?_
        refine g_dup S dX2_digest_170 rfl ?_
        refine g_iconst S dX2_digest_171 ?_
        refine g_aload_n S dX2_digest_172 rfl 1 rfl ?_
        refine g_iconst S dX2_digest_173 ?_
        refine g_iload S dX2_digest_174 3 rfl ?_
        refine g_ishl S (z := (iI ((2 ^ w.toNat : Nat) : Int))) dX2_digest_176 (iI_shl1 (by omega)) ?_
        refine g_callV S xK (As := [.int (iI ((2 ^ w.toNat : Nat) : Int))]) (st := [.int (iI 5), .ref (xq122), .ref (xq122)]) (stk' := [.int (iI ((itS se al n 24 (2 ^ w.toNat) : Nat) : Int)), .int (iI 5), .ref (xq122), .ref (xq122)]) (Wp' := MD E am 0 pg n on se al xq122 8 (upI (upI (upI (upI (upI (fun _ => 0) 0 ((sp w).1)) 1 (PGS (sp w))) 2 (se w)) 3 ((pop (al w) 24 : Nat) : Int)) 4 (eS se n.toNat w))) (r := (RX2, TX2, 6)) (m_X2_all l E hj 0 pg n on se al (2 ^ w.toNat) h1l hn hgr) (cwV 1 S.2.2.2.2 gX2_digest_X2_all rfl rfl rfl (by decide +kernel) ⟨Nat.le_of_ble_eq_true rfl, Nat.le_of_ble_eq_true rfl⟩) rfl rfl rfl rfl (Nat.le_of_ble_eq_true rfl) ⟨show cv + 1 + 0 ≤ 25 by omega, show tv + 8 + 0 ≤ 198 by omega⟩ (fun _ q => q.elim) (fun _ h => mw_x h.2.1) (fun _ h => h.2.1) (fun _ _ h h2 _ hq => md_call h h2 hq) dX2_digest_177 ?_
        refine g_callS S xK (As := [.int (iI ((itS se al n 24 (2 ^ w.toNat) : Nat) : Int))]) (st := [.int (iI 5), .ref (xq122), .ref (xq122)]) (stk' := [.int (iI ((pop (itS se al n 24 (2 ^ w.toNat)) 24 : Nat) : Int)), .int (iI 5), .ref (xq122), .ref (xq122)]) (Wp' := MD E am 0 pg n on se al xq122 8 (upI (upI (upI (upI (upI (fun _ => 0) 0 ((sp w).1)) 1 (PGS (sp w))) 2 (se w)) 3 ((pop (al w) 24 : Nat) : Int)) 4 (eS se n.toNat w))) (m_J6_bitCount_0f7a4 l E (MD E am 0 pg n on se al xq122 8 (upI (upI (upI (upI (upI (fun _ => 0) 0 ((sp w).1)) 1 (PGS (sp w))) 2 (se w)) 3 ((pop (al w) 24 : Nat) : Int)) 4 (eS se n.toNat w))) (itS se al n 24 (2 ^ w.toNat)) (lt24 hn (itS_lt hgr hn.1 24 _ h1l))) (va_cwS 1 S.2.2.2.2 gX2_digest_J6_bitCount_0f7a4 rfl rfl rfl (by decide +kernel) ⟨Nat.le_of_ble_eq_true rfl, Nat.le_of_ble_eq_true rfl⟩) rfl rfl rfl (Nat.le_of_ble_eq_true rfl) ⟨show cv + 1 + 0 ≤ 25 by omega, show tv + 8 + 0 ≤ 198 by omega⟩ (fun _ q => q.elim) (fun _ h => h) (fun _ _ _ h _ _ => h) dX2_digest_180 ?_
        rw [show ((pop (itS se al n 24 (2 ^ w.toNat)) 24 : Nat) : Int) = RCH se al n w from rfl]
        refine g_iastF S xK (Wp' := MD E am 0 pg n on se al xq122 8 (upI (upI (upI (upI (upI (upI (fun _ => 0) 0 ((sp w).1)) 1 (PGS (sp w))) 2 (se w)) 3 ((pop (al w) 24 : Nat) : Int)) 4 (eS se n.toNat w)) 5 (RCH se al n w))) (n := 8) (fun _ h => h.2.2) (by omega) (by decide) hbxq122 (fun _ _ h hv _ oq => md_st h hv oq) dX2_digest_183 ?_
        refine g_dup S dX2_digest_184 rfl ?_
        refine g_bipush S dX2_digest_185 (by decide) ?_
        refine g_aload_n S dX2_digest_187 rfl 1 rfl ?_
        refine g_iload S dX2_digest_188 3 rfl ?_
        refine g_callV S xK (As := [.int (iI w)]) (st := [.int (iI 6), .ref (xq122), .ref (xq122)]) (stk' := [.int (iI (pI ((itS se al n 24 (stS se al (2 ^ w.toNat) n.toNat)).testBit w.toNat = true))), .int (iI 6), .ref (xq122), .ref (xq122)]) (Wp' := MD E am 0 pg n on se al xq122 8 (upI (upI (upI (upI (upI (upI (fun _ => 0) 0 ((sp w).1)) 1 (PGS (sp w))) 2 (se w)) 3 ((pop (al w) 24 : Nat) : Int)) 4 (eS se n.toNat w)) 5 (RCH se al n w))) (r := (RX2, TX2, 6)) (m_X2_rings l E hj 0 pg n on se al w (by omega) hn hgr) (cwV 1 S.2.2.2.2 gX2_digest_X2_rings rfl rfl rfl (by decide +kernel) ⟨Nat.le_of_ble_eq_true rfl, Nat.le_of_ble_eq_true rfl⟩) rfl rfl rfl rfl (Nat.le_of_ble_eq_true rfl) ⟨show cv + 1 + 0 ≤ 25 by omega, show tv + 8 + 0 ≤ 198 by omega⟩ (fun _ q => q.elim) (fun _ h => mw_x h.2.1) (fun _ h => h.2.1) (fun _ _ h h2 _ hq => md_call h h2 hq) dX2_digest_190 ?_
        have z193 := pI_b ((itS se al n 24 (stS se al (2 ^ w.toNat) n.toNat)).testBit w.toNat = true)
        have L201 : ∀ (v9 : Int), (v9 = pI (RNG se al n w)) → G xp l xe ({ frames := 3, cells := 25, slots := 198, locals := 71 }) xs xm xa xb xh xc 11 (AM am) (cv + 1) (tv + 8) (MQ xb (QW (some (.long (dgA sp se al n (dgL 2113 (TLS sp se al n pg)) n.toNat))) (MW E am 0 pg n on se al) (AM am)) xa xs 25 198 (AM am)) 201 [(0, .ref (am 0)), (2, .long dd), (4, .int (iI w)), (5, .int (iI ((sp w).1)))] [.int (iI v9), .int (iI 6), .ref (xq122), .ref (xq122)] (MD E am 0 pg n on se al xq122 8 (upI (upI (upI (upI (upI (upI (fun _ => 0) 0 ((sp w).1)) 1 (PGS (sp w))) 2 (se w)) 3 ((pop (al w) 24 : Nat) : Int)) 4 (eS se n.toNat w)) 5 (RCH se al n w))) := by
          intro v9 hv9
          refine g_iastF S xK (Wp' := MD E am 0 pg n on se al xq122 8 (upI (upI (upI (upI (upI (upI (upI (fun _ => 0) 0 ((sp w).1)) 1 (PGS (sp w))) 2 (se w)) 3 ((pop (al w) 24 : Nat) : Int)) 4 (eS se n.toNat w)) 5 (RCH se al n w)) 6 v9)) (n := 8) (fun _ h => h.2.2) (by omega) (by decide) hbxq122 (fun _ _ h hv _ oq => md_st h hv oq) dX2_digest_201 ?_
          refine g_dup S dX2_digest_202 rfl ?_
          refine g_bipush S dX2_digest_203 (by decide) ?_
          refine g_aload_n S dX2_digest_205 rfl 0 rfl ?_
          refine g_iload S dX2_digest_206 2 rfl ?_
          refine g_callV S xK (As := [.int (iI w)]) (st := [.int (iI 7), .ref (xq122), .ref (xq122)]) (stk' := [.int (iI ((nrS (fun o => if o = w then 0 else smI (fun k => pI (on (302 * w + (k + 1)) = 1 ∧ on (302 * o + (k + 1)) = 1)) pg.toNat) n.toNat).1)), .int (iI 7), .ref (xq122), .ref (xq122)]) (Wp' := MD E am 0 pg n on se al xq122 8 (upI (upI (upI (upI (upI (upI (upI (fun _ => 0) 0 ((sp w).1)) 1 (PGS (sp w))) 2 (se w)) 3 ((pop (al w) 24 : Nat) : Int)) 4 (eS se n.toNat w)) 5 (RCH se al n w)) 6 v9)) (r := (RX2, TX2, 6)) (m_X2_near l E hj 0 pg n on se al w (by omega) hn hpg hon) (cwV 1 S.2.2.2.2 gX2_digest_X2_near rfl rfl rfl (by decide +kernel) ⟨Nat.le_of_ble_eq_true rfl, Nat.le_of_ble_eq_true rfl⟩) rfl rfl rfl rfl (Nat.le_of_ble_eq_true rfl) ⟨show cv + 1 + 0 ≤ 25 by omega, show tv + 8 + 0 ≤ 198 by omega⟩ (fun _ q => q.elim) (fun _ h => mw_x h.2.1) (fun _ h => h.2.1) (fun _ _ h h2 _ hq => md_call h h2 hq) dX2_digest_208 ?_
          rw [show (nrS (fun o => if o = w then 0 else smI (fun k => pI (on (302 * w + (k + 1)) = 1 ∧ on (302 * o + (k + 1)) = 1)) pg.toNat) n.toNat).1 = NEAR sp n w from rl_near hrl hsp (by omega) (by omega)]
          refine g_iastF S xK (Wp' := MD E am 0 pg n on se al xq122 8 (upI (upI (upI (upI (upI (upI (upI (upI (fun _ => 0) 0 ((sp w).1)) 1 (PGS (sp w))) 2 (se w)) 3 ((pop (al w) 24 : Nat) : Int)) 4 (eS se n.toNat w)) 5 (RCH se al n w)) 6 v9) 7 (NEAR sp n w))) (n := 8) (fun _ h => h.2.2) (by omega) (by decide) hbxq122 (fun _ _ h hv _ oq => md_st h hv oq) dX2_digest_211 ?_
          refine g_astore S (lv' := [(6, .ref (xq122)), (0, .ref (am 0)), (2, .long dd), (4, .int (iI w)), (5, .int (iI ((sp w).1)))]) dX2_digest_212 (Nat.le_of_ble_eq_true rfl) rfl ?_
          refine g_aload S dX2_digest_214 0 rfl ?_
          refine g_astore S (lv' := [(7, .ref (xq122)), (6, .ref (xq122)), (0, .ref (am 0)), (2, .long dd), (4, .int (iI w)), (5, .int (iI ((sp w).1)))]) dX2_digest_216 (Nat.le_of_ble_eq_true rfl) rfl ?_
          refine g_aload S dX2_digest_218 0 rfl ?_
          refine g_alen S xK (n := 8) (x := 0) 0 rfl (fun _ h => h.2.2) dX2_digest_220 ?_
          refine g_istore S (lv' := [(8, .int (iI 8)), (7, .ref (xq122)), (6, .ref (xq122)), (0, .ref (am 0)), (2, .long dd), (4, .int (iI w)), (5, .int (iI ((sp w).1)))]) dX2_digest_221 (Nat.le_of_ble_eq_true rfl) rfl ?_
          refine g_iconst S dX2_digest_223 ?_
          refine g_istore S (lv' := [(9, .int (iI 0)), (8, .int (iI 8)), (7, .ref (xq122)), (6, .ref (xq122)), (0, .ref (am 0)), (2, .long dd), (4, .int (iI w)), (5, .int (iI ((sp w).1)))]) dX2_digest_224 (Nat.le_of_ble_eq_true rfl) rfl ?_
          have L259 : ∀ (nf : Nat) (k3 : Int) (d3 : Int64), (0 ≤ k3 ∧ k3 ≤ (sp w).1) → (d3 = dgS (sp w) (dgL dd [(sp w).1, PGS (sp w), se w, ((pop (al w) 24 : Nat) : Int), eS se n.toNat w, RCH se al n w, pI (RNG se al n w), NEAR sp n w]) k3.toNat) → ((sp w).1 - k3 < (nf : Int)) → G xp l xe ({ frames := 3, cells := 25, slots := 198, locals := 71 }) xs xm xa xb xh xc 11 (AM am) (cv + 1) (tv + 8) (MQ xb (QW (some (.long (dgA sp se al n (dgL 2113 (TLS sp se al n pg)) n.toNat))) (MW E am 0 pg n on se al) (AM am)) xa xs 25 198 (AM am)) 259 [(0, .ref (am 0)), (2, .long d3), (4, .int (iI w)), (5, .int (iI ((sp w).1))), (7, .int (iI k3))] [] (MW E am 0 pg n on se al) := by
            intro nf
            induction nf with
            | zero =>
              intro k3 d3 hk3 hd3 hmf
              exfalso
              omega
            | succ nf ihL259 =>
              intro k3 d3 hk3 hd3 hmf
              refine g_iload S dX2_digest_259 4 rfl ?_
              refine g_iload S dX2_digest_261 3 rfl ?_
              refine g_icmp_ge S (tgt := 302) dX2_digest_263 (by decide) (by omega) (fun c263 => ?_) (fun c263 => ?_)
              · skip
                refine g_iinc S (lv' := [(4, .int (iI (w + 1))), (0, .ref (am 0)), (2, .long d3), (5, .int (iI ((sp w).1))), (7, .int (iI k3))]) dX2_digest_302 2 rfl (Nat.le_of_ble_eq_true rfl) rfl ?_
                refine g_goto S (tgt := 100) dX2_digest_305 (by decide) ?_
                refine g_lv [1, 2, 0] rfl ?_
                exact ihL100 (w + 1) d3 (cv + 1) (tv + 8) (by omega) (by omega) (by rw [dgA_s _ _ _ _ _ ho.1, ← hd, hd3, show k3 = (sp w).1 by omega]) (by omega)
              · skip
                refine g_lload_n S dX2_digest_266 rfl 1 rfl ?_
                refine g_ldc2 S kc131 dX2_digest_267 ?_
                refine g_lmul S dX2_digest_270 ?_
                refine g_aload_n S dX2_digest_271 rfl 0 rfl ?_
                refine g_iload S dX2_digest_272 2 rfl ?_
                refine g_iload S dX2_digest_274 4 rfl ?_
                refine g_callV S xK (As := [.int (iI w), .int (iI k3)]) (st := [.long (d3 * 31)]) (stk' := [.int (iI ((sp w).2.1 k3)), .long (d3 * 31)]) (Wp' := MW E am 0 pg n on se al) (r := (RX2, TX2, 6)) (m_X2_begins l E hj 0 pg n on se al (sp w) w k3 (by omega) (by omega) (by omega) hpg hon v9o.1 (fun q q0 q1 => hrl w (by omega) (by omega) q q0 q1)) (cwV 2 S.2.2.2.2 gX2_digest_X2_begins rfl rfl rfl (by decide +kernel) ⟨Nat.le_of_ble_eq_true rfl, Nat.le_of_ble_eq_true rfl⟩) rfl rfl rfl rfl (Nat.le_of_ble_eq_true rfl) ⟨show cv + 1 + 0 ≤ 25 by omega, show tv + 8 + 0 ≤ 198 by omega⟩ (fun _ q => q.elim) (fun _ h => mw_x h) (fun _ h => h) (fun _ _ _ h _ _ => h) dX2_digest_276 ?_
                refine g_i2l S dX2_digest_279 ?_
                refine g_ladd S dX2_digest_280 ?_
                refine g_ldc2 S kc131 dX2_digest_281 ?_
                refine g_lmul S dX2_digest_284 ?_
                refine g_aload_n S dX2_digest_285 rfl 0 rfl ?_
                refine g_iload S dX2_digest_286 2 rfl ?_
                refine g_iload S dX2_digest_288 4 rfl ?_
                refine g_callV S xK (As := [.int (iI w), .int (iI k3)]) (st := [.long (((d3 * 31) + (((iI ((sp w).2.1 k3)) : Int32).toInt64)) * 31)]) (stk' := [.int (iI ((sp w).2.2 k3)), .long (((d3 * 31) + (((iI ((sp w).2.1 k3)) : Int32).toInt64)) * 31)]) (Wp' := MW E am 0 pg n on se al) (r := (RX2, TX2, 6)) (m_X2_ends l E hj 0 pg n on se al (sp w) w k3 (by omega) (by omega) (by omega) hpg hon v9o.1 (fun q q0 q1 => hrl w (by omega) (by omega) q q0 q1)) (cwV 2 S.2.2.2.2 gX2_digest_X2_ends rfl rfl rfl (by decide +kernel) ⟨Nat.le_of_ble_eq_true rfl, Nat.le_of_ble_eq_true rfl⟩) rfl rfl rfl rfl (Nat.le_of_ble_eq_true rfl) ⟨show cv + 1 + 0 ≤ 25 by omega, show tv + 8 + 0 ≤ 198 by omega⟩ (fun _ q => q.elim) (fun _ h => mw_x h) (fun _ h => h) (fun _ _ _ h _ _ => h) dX2_digest_290 ?_
                refine g_i2l S dX2_digest_293 ?_
                refine g_ladd S dX2_digest_294 ?_
                refine g_lstore_n S (lv' := [(2, .long ((((d3 * 31) + (((iI ((sp w).2.1 k3)) : Int32).toInt64)) * 31) + (((iI ((sp w).2.2 k3)) : Int32).toInt64))), (0, .ref (am 0)), (4, .int (iI w)), (5, .int (iI ((sp w).1))), (7, .int (iI k3))]) dX2_digest_295 rfl (Nat.le_of_ble_eq_true rfl) rfl ?_
                refine g_iinc S (lv' := [(7, .int (iI (k3 + 1))), (2, .long ((((d3 * 31) + (((iI ((sp w).2.1 k3)) : Int32).toInt64)) * 31) + (((iI ((sp w).2.2 k3)) : Int32).toInt64))), (0, .ref (am 0)), (4, .int (iI w)), (5, .int (iI ((sp w).1)))]) dX2_digest_296 4 rfl (Nat.le_of_ble_eq_true rfl) rfl ?_
                refine g_goto S (tgt := 259) dX2_digest_299 (by decide) ?_
                refine g_lv [2, 1, 3, 4, 0] rfl ?_
                exact ihL259 (k3 + 1) ((((d3 * 31) + (((iI ((sp w).2.1 k3)) : Int32).toInt64)) * 31) + (((iI ((sp w).2.2 k3)) : Int32).toInt64)) (by omega) (by rw [dgS_s _ _ hk3.1, ← hd3]; rfl) (by omega)
          have L226 : ∀ (nf : Nat) (k2 : Int) (d2 : Int64) (F8 : Int → Int), (0 ≤ k2 ∧ k2 ≤ 8) → (d2 = dgF F8 dd k2.toNat) → (F8 0 = (sp w).1) → (F8 1 = PGS (sp w)) → (F8 2 = se w) → (F8 3 = ((pop (al w) 24 : Nat) : Int)) → (F8 4 = eS se n.toNat w) → (F8 5 = RCH se al n w) → (F8 6 = pI (RNG se al n w)) → (F8 7 = NEAR sp n w) → ((8 : Int) - k2 < (nf : Int)) → G xp l xe ({ frames := 3, cells := 25, slots := 198, locals := 71 }) xs xm xa xb xh xc 11 (AM am) (cv + 1) (tv + 8) (MQ xb (QW (some (.long (dgA sp se al n (dgL 2113 (TLS sp se al n pg)) n.toNat))) (MW E am 0 pg n on se al) (AM am)) xa xs 25 198 (AM am)) 226 [(0, .ref (am 0)), (2, .long d2), (4, .int (iI w)), (5, .int (iI ((sp w).1))), (7, .ref (xq122)), (8, .int (iI 8)), (9, .int (iI k2))] [] (MD E am 0 pg n on se al xq122 8 F8) := by
            intro nf
            induction nf with
            | zero =>
              intro k2 d2 F8 hk2 hd2 fF80 fF81 fF82 fF83 fF84 fF85 fF86 fF87 hmf
              exfalso
              omega
            | succ nf ihL226 =>
              intro k2 d2 F8 hk2 hd2 fF80 fF81 fF82 fF83 fF84 fF85 fF86 fF87 hmf
              refine g_iload S dX2_digest_226 6 rfl ?_
              refine g_iload S dX2_digest_228 5 rfl ?_
              refine g_icmp_ge S (tgt := 256) dX2_digest_230 (by decide) (by omega) (fun c230 => ?_) (fun c230 => ?_)
              · skip
                refine g_iconst S dX2_digest_256 ?_
                refine g_istore S (lv' := [(7, .int (iI 0)), (0, .ref (am 0)), (2, .long d2), (4, .int (iI w)), (5, .int (iI ((sp w).1))), (8, .int (iI 8)), (9, .int (iI k2))]) dX2_digest_257 (Nat.le_of_ble_eq_true rfl) rfl ?_
                refine g_lv [1, 2, 3, 4, 0] rfl ?_
                refine g_w (fun _ h => h.2.1) ?_
                exact L259 (((sp w).1 - 0) + 1).toNat 0 d2 (by omega) (by rw [hd2, show k2 = 8 by omega]; exact dgF8 fF80 fF81 fF82 fF83 fF84 fF85 fF86 fF87) (by omega)
              · skip
                refine g_aload S dX2_digest_233 4 rfl ?_
                refine g_iload S dX2_digest_235 6 rfl ?_
                refine g_iald S xK (n := 8) (fun _ h => h.2.2) (by omega) (by decide) dX2_digest_237 ?_
                refine g_istore S (lv' := [(10, .int (iI (F8 k2))), (0, .ref (am 0)), (2, .long d2), (4, .int (iI w)), (5, .int (iI ((sp w).1))), (7, .ref (xq122)), (8, .int (iI 8)), (9, .int (iI k2))]) dX2_digest_238 (Nat.le_of_ble_eq_true rfl) rfl ?_
                refine g_lload_n S dX2_digest_240 rfl 2 rfl ?_
                refine g_ldc2 S kc131 dX2_digest_241 ?_
                refine g_lmul S dX2_digest_244 ?_
                refine g_iload S dX2_digest_245 0 rfl ?_
                refine g_i2l S dX2_digest_247 ?_
                refine g_ladd S dX2_digest_248 ?_
                refine g_lstore_n S (lv' := [(2, .long ((d2 * 31) + (((iI (F8 k2)) : Int32).toInt64))), (10, .int (iI (F8 k2))), (0, .ref (am 0)), (4, .int (iI w)), (5, .int (iI ((sp w).1))), (7, .ref (xq122)), (8, .int (iI 8)), (9, .int (iI k2))]) dX2_digest_249 rfl (Nat.le_of_ble_eq_true rfl) rfl ?_
                refine g_iinc S (lv' := [(9, .int (iI (k2 + 1))), (2, .long ((d2 * 31) + (((iI (F8 k2)) : Int32).toInt64))), (10, .int (iI (F8 k2))), (0, .ref (am 0)), (4, .int (iI w)), (5, .int (iI ((sp w).1))), (7, .ref (xq122)), (8, .int (iI 8))]) dX2_digest_250 7 rfl (Nat.le_of_ble_eq_true rfl) rfl ?_
                refine g_goto S (tgt := 226) dX2_digest_253 (by decide) ?_
                refine g_lv [3, 1, 4, 5, 6, 7, 0] rfl ?_
                exact ihL226 (k2 + 1) ((d2 * 31) + (((iI (F8 k2)) : Int32).toInt64)) F8 (by omega) (by rw [dgF_s _ _ hk2.1, ← hd2]; rfl) (fF80) (fF81) (fF82) (fF83) (fF84) (fF85) (fF86) (fF87) (by omega)
          refine g_lv [4, 5, 6, 7, 2, 1, 0] rfl ?_
          exact L226 (((8 : Int) - 0) + 1).toNat 0 dd (upI (upI (upI (upI (upI (upI (upI (upI (fun _ => 0) 0 ((sp w).1)) 1 (PGS (sp w))) 2 (se w)) 3 ((pop (al w) 24 : Nat) : Int)) 4 (eS se n.toNat w)) 5 (RCH se al n w)) 6 v9) 7 (NEAR sp n w)) (by omega) (rfl) (rfl) (rfl) (rfl) (rfl) (rfl) (rfl) (hv9) (rfl) (by omega)
        refine g_if_eq S (tgt := 200) dX2_digest_193 (by decide) (by omega) (fun c193 => ?_) (fun c193 => ?_)
        · skip
          refine g_iconst S dX2_digest_200 ?_
          refine g_lv [1, 2, 3, 0] rfl ?_
          exact L201 0 ((pI_f (pI_eq0 c193)).symm)
        · skip
          refine g_iconst S dX2_digest_196 ?_
          refine g_goto S (tgt := 201) dX2_digest_197 (by decide) ?_
          refine g_lv [1, 2, 3, 0] rfl ?_
          exact L201 1 ((pI_t (pI_ne0 c193)).symm)
  have L67 : ∀ (nf : Nat) (k : Int) (dd : Int64) (F6 : Int → Int), (0 ≤ k ∧ k ≤ 6) → (dd = dgF F6 2113 k.toNat) → (F6 0 = pg) → (F6 1 = n) → (F6 2 = BARE sp n pg) → (F6 3 = FULL sp n pg) → (F6 4 = VAIN sp se n) → (F6 5 = UNL se al n) → ((6 : Int) - k < (nf : Int)) → G xp l xe ({ frames := 3, cells := 25, slots := 198, locals := 71 }) xs xm xa xb xh xc 11 (AM am) 1 6 (MQ xb (QW (some (.long (dgA sp se al n (dgL 2113 (TLS sp se al n pg)) n.toNat))) (MW E am 0 pg n on se al) (AM am)) xa xs 25 198 (AM am)) 67 [(0, .ref (am 0)), (2, .long dd), (4, .ref (xq7)), (5, .int (iI 6)), (6, .int (iI k))] [] (MD E am 0 pg n on se al xq7 6 F6) := by
    intro nf
    induction nf with
    | zero =>
      intro k dd F6 hk hd fF60 fF61 fF62 fF63 fF64 fF65 hmf
      exfalso
      omega
    | succ nf ihL67 =>
      intro k dd F6 hk hd fF60 fF61 fF62 fF63 fF64 fF65 hmf
      refine g_iload S dX2_digest_67 4 rfl ?_
      refine g_iload S dX2_digest_69 3 rfl ?_
      refine g_icmp_ge S (tgt := 97) dX2_digest_71 (by decide) (by omega) (fun c71 => ?_) (fun c71 => ?_)
      · skip
        refine g_iconst S dX2_digest_97 ?_
        refine g_istore S (lv' := [(4, .int (iI 0)), (0, .ref (am 0)), (2, .long dd), (5, .int (iI 6)), (6, .int (iI k))]) dX2_digest_98 (Nat.le_of_ble_eq_true rfl) rfl ?_
        refine g_lv [1, 2, 0] rfl ?_
        refine g_w (fun _ h => h.2.1) ?_
        exact L100 ((n - 0) + 1).toNat 0 dd 1 6 (by omega) (by omega) (by rw [hd, show k = 6 by omega]; exact dgF6 fF60 fF61 fF62 fF63 fF64 fF65) (by omega)
      · skip
        refine g_aload S dX2_digest_74 2 rfl ?_
        refine g_iload S dX2_digest_76 4 rfl ?_
        refine g_iald S xK (n := 6) (fun _ h => h.2.2) (by omega) (by decide) dX2_digest_78 ?_
        refine g_istore S (lv' := [(7, .int (iI (F6 k))), (0, .ref (am 0)), (2, .long dd), (4, .ref (xq7)), (5, .int (iI 6)), (6, .int (iI k))]) dX2_digest_79 (Nat.le_of_ble_eq_true rfl) rfl ?_
        refine g_lload_n S dX2_digest_81 rfl 2 rfl ?_
        refine g_ldc2 S kc131 dX2_digest_82 ?_
        refine g_lmul S dX2_digest_85 ?_
        refine g_iload S dX2_digest_86 0 rfl ?_
        refine g_i2l S dX2_digest_88 ?_
        refine g_ladd S dX2_digest_89 ?_
        refine g_lstore_n S (lv' := [(2, .long ((dd * 31) + (((iI (F6 k)) : Int32).toInt64))), (7, .int (iI (F6 k))), (0, .ref (am 0)), (4, .ref (xq7)), (5, .int (iI 6)), (6, .int (iI k))]) dX2_digest_90 rfl (Nat.le_of_ble_eq_true rfl) rfl ?_
        refine g_iinc S (lv' := [(6, .int (iI (k + 1))), (2, .long ((dd * 31) + (((iI (F6 k)) : Int32).toInt64))), (7, .int (iI (F6 k))), (0, .ref (am 0)), (4, .ref (xq7)), (5, .int (iI 6))]) dX2_digest_91 5 rfl (Nat.le_of_ble_eq_true rfl) rfl ?_
        refine g_goto S (tgt := 67) dX2_digest_94 (by decide) ?_
        refine g_lv [3, 1, 4, 5, 0] rfl ?_
        exact ihL67 (k + 1) ((dd * 31) + (((iI (F6 k)) : Int32).toInt64)) F6 (by omega) (by rw [dgF_s _ _ hk.1, ← hd]; rfl) (fF60) (fF61) (fF62) (fF63) (fF64) (fF65) (by omega)
  refine g_lv [5, 3, 2, 1, 0] rfl ?_
  exact L67 (((6 : Int) - 0) + 1).toNat 0 2113 (upI (upI (upI (upI (upI (upI (fun _ => 0) 0 pg) 1 n) 2 (BARE sp n pg)) 3 (FULL sp n pg)) 4 (VAIN sp se n)) 5 (UNL se al n)) (by omega) (rfl) (rfl) (rfl) (rfl) (rfl) (rfl) (rfl) (by omega)
