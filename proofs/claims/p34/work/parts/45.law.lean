/-! law: six times -/
theorem at_in {sp : Int → SpT} {se : Int → Int} {al : Int → Nat} {n pg av uv : Int} (J : JV sp se al n pg) (h : av = smI (fun i => PGS (sp i)) uv.toNat) (hu : uv = n) : av = smI (fun k => CHN sp n (k + 1)) pg.toNat - smI (fun k => CHN sp n (k + 1)) ((1 : Int) - 1).toNat := by
  have hpg := J.hpg
  rw [h, hu, all_pages J.hsp (show 0 ≤ pg by omega)]
  show _ = _ - (0 : Int)
  omega
set_option maxHeartbeats 16000000 in
set_option maxRecDepth 100000 in
theorem m_L_law (l : Launch) (E : EN) (hst : l.stackTraces = false) (zb zc sm : Nat) {ad : Int → Nat} (hj : INJ ad) (hax : HZ ad zb zc) (sb : Nat) (L : Int) (sc : Int → Int) (scr : Cell) (hP : SCRP scr L sc) {sp0 : Int → SpT} {se0 : Int → Int} {al0 : Int → Nat} (J0 : JV sp0 se0 al0 0 100) (hz : zb ≤ zc ∧ zc ≤ sm) (hsb : sb < zb) (hL : 0 ≤ L ∧ L ≤ 1000) {xp : Program} {xe : Env} {xs : State} {xm : MethodId} {xa : Array Value} {xb : List Frame} {xh : Method} {xc : Code} {xQ : State → Prop} (S : CallFix xp xm xc cL_law 25 xs xa wsL_law RL) (xK : KC E xs) (xX : TX zb xs) (xO : OA xs) (xN : NN scr xs) (hend : ∀ (lv : List (Nat × Value)) (W9 : Heap → Prop), G xp l xe ({ frames := 12, cells := 1032851, slots := 6002914, locals := 458 }) xs xm xa xb xh xc 25 (fun q0 => zb ≤ q0) 1032851 6002914 xQ 1346 lv [.int (iI 1)] W9) : G xp l xe ({ frames := 12, cells := 1032851, slots := 6002914, locals := 458 }) xs xm xa xb xh xc 25 (fun q0 => zb ≤ q0) 86 1328 xQ 8 [(1, .ref (ad 0)), (0, .ref (sb))] [] (fun H => H.size = sm ∧ (CA E ad sp0 se0 al0 0 100) H ∧ (vS scr sb) H) := by
  have km33 := S.2.2.2.2 (.methodLink RL 33 Lib.Math.min.name) (by decide +kernel)
  have ksmin := S.2.2.2.2 (.static Lib.Math.min.name) (by decide +kernel)
  have kiMath := S.2.2.2.2 (.initialized "java/lang/Math") (by decide +kernel)
  have kcmin := S.2.2.2.2 (.code Lib.Math.min.name Lib.Math.min.code 2 (some .int)) (by decide +kernel)
  have kf38 := S.2.2.2.2 (.fieldLink RL 38 "BookIndexLaw$Sim" "spans" "[[[I") (by decide +kernel)
  have kaI := S.2.2.2.2 (.arrayClass .int) (by decide +kernel)
  have kf9 := S.2.2.2.2 (.fieldLink RL 9 "BookIndexLaw$Sim" "see" "[I") (by decide +kernel)
  have km153 := S.2.2.2.2 (.methodLink RL 153 Lib.Math.max.name) (by decide +kernel)
  have ksmax := S.2.2.2.2 (.static Lib.Math.max.name) (by decide +kernel)
  have kcmax := S.2.2.2.2 (.code Lib.Math.max.name Lib.Math.max.code 2 (some .int)) (by decide +kernel)
  have hin2_q7 : ∀ w ∈ wsX20, w ∈ wsL_law := inlX2
  have hAb_q7 : ∀ q9 : Nat, (fun q0 => zb ≤ q0) q9 → zb ≤ q9 := fun _ h => h
  refine g_aload_n S dL_law_8 rfl 0 rfl ?_
  refine g_aload_n S dL_law_9 rfl 1 rfl ?_
  refine g_callSN S xK xX xO xN hAb_q7 (As := [.ref (ad 0), .ref sb]) (st := []) (stk' := [.ref sm]) (Wp' := fun H => (JS E ad zc sm 2) H ∧ (vS scr sb) H) (m_L_build l E hst zb zc sm hj hax sb L sc scr hP J0 hz hsb hL) (cwS 2 S.2.2.2.2 gL_law_L_build rfl rfl rfl (by decide +kernel) ⟨Nat.le_of_ble_eq_true rfl, Nat.le_of_ble_eq_true rfl⟩) rfl rfl rfl (Nat.le_of_ble_eq_true rfl) ⟨show 86 + 38000 ≤ 1032851 by omega, show 1328 + 612000 ≤ 6002914 by omega⟩ (fun _ h9 => h9) (fun _ h => h) (fun _ _ _ h2 _ _ => h2) dL_law_10 ?_
  refine g_astore_n S (lv' := [(2, .ref (sm)), (1, .ref (ad 0)), (0, .ref (sb))]) dL_law_13 rfl (Nat.le_of_ble_eq_true rfl) rfl ?_
  refine g_aload_n S dL_law_14 rfl 0 rfl ?_
  refine g_ifnonnull S (tgt := 20) dL_law_15 (by decide) ?_
  refine g_iconst S dL_law_20 ?_
  refine g_istore_n S (lv' := [(3, .int (iI 0)), (2, .ref (sm)), (1, .ref (ad 0)), (0, .ref (sb))]) dL_law_21 rfl (Nat.le_of_ble_eq_true rfl) rfl ?_
  have L22 : ∀ (nf : Nat) (tm_q7 : Int) (kc : Nat) (ks : Nat), (0 ≤ tm_q7 ∧ tm_q7 ≤ 6) → (kc ≤ 38100 + 5100 * tm_q7.toNat + 0 ∧ ks ≤ 613500 + 80100 * tm_q7.toNat + 0) → ((6 : Int) - tm_q7 < (nf : Int)) → G xp l xe ({ frames := 12, cells := 1032851, slots := 6002914, locals := 458 }) xs xm xa xb xh xc 25 (fun q0 => zb ≤ q0) kc ks xQ 22 [(0, .ref (sb)), (1, .ref (ad 0)), (2, .ref (sm)), (3, .int (iI tm_q7))] [] (fun H => (JS E ad zc sm 2) H ∧ (vS scr sb) H) := by
    intro nf
    induction nf with
    | zero =>
      intro tm_q7 kc ks htm_q7 hkt_q7 hmf
      exfalso
      omega
    | succ nf ihL22 =>
      intro tm_q7 kc ks htm_q7 hkt_q7 hmf
      refine g_iload_n S dL_law_22 rfl 3 rfl ?_
      refine g_bipush S dL_law_23 (by decide) ?_
      refine g_icmp_ge S (tgt := 1341) dL_law_25 (by decide) (by omega) (fun c25_q7 => ?_) (fun c25_q7 => ?_)
      · skip
        refine g_js (fun zq SS sp se al n pg hzq hT J hal hn2 => ?_)
        have gT_q7 := hT.sge
        refine g_aload_n S dL_law_1341 rfl 2 rfl ?_
        refine g_aload_n S dL_law_1342 rfl 1 rfl ?_
        refine g_callVS S xK xO (As := [.ref (ad 0)]) (st := []) (stk' := [.int (iI 1)]) (Wp' := fun _ => True) (r := (RX2, TX2, 4)) (m_X2_isSame l E zq zb zc sm hj hax SS J hT (by omega) hal) (cwV 1 S.2.2.2.2 gL_law_X2_isSame rfl rfl rfl (by decide +kernel) ⟨Nat.le_of_ble_eq_true rfl, Nat.le_of_ble_eq_true rfl⟩) rfl rfl rfl rfl (Nat.le_of_ble_eq_true rfl) ⟨show kc + 73 ≤ 1032851 by omega, show ks + 1752 ≤ 6002914 by omega⟩ (fun _ h9 => h9) (fun _ h => h.2.1) (fun _ h => ⟨h.1, h.2.1, h.2.2.1, h.2.2.2.1⟩) (fun _ _ _ _ _ _ => trivial) dL_law_1343 ?_
        refine g_wid (k := 1032851) (n := 6002914) (by omega) (by omega) ?_
        exact hend _ _
      · skip
        refine g_aload_n S dL_law_28 rfl 0 rfl ?_
        refine g_iload_n S dL_law_29 rfl 3 rfl ?_
        refine g_iconst S dL_law_30 ?_
        refine g_iadd S dL_law_31 ?_
        refine g_callSY S xK xN.2 (As := [.ref (sb), .int (iI (tm_q7 + 1))]) (st := []) (stk' := [.int (iI (cel sc L (tm_q7 + 1)))]) (Wp' := fun H => (JS E ad zc sm 2) H ∧ (vS scr sb) H) (m_L_cell2 l E (Wp := fun H => (JS E ad zc sm 2) H ∧ (vS scr sb) H) scr sb L sc hP (tm_q7 + 1) (fun _ h => h.2) hL (by omega)) (cwS 2 S.2.2.2.2 gL_law_L_cell rfl rfl rfl (by decide +kernel) ⟨Nat.le_of_ble_eq_true rfl, Nat.le_of_ble_eq_true rfl⟩) rfl rfl rfl (Nat.le_of_ble_eq_true rfl) ⟨show kc + 0 ≤ 1032851 by omega, show ks + 0 ≤ 6002914 by omega⟩ (fun _ q => q.elim) (fun _ h => h) (fun _ _ _ h _ _ => h) dL_law_32 ?_
        refine g_iconst S dL_law_35 ?_
        refine g_ishr S (z := (iI (shI (cel sc L (tm_q7 + 1)) 2))) dL_law_36 ((iI_of _).symm) ?_
        refine g_bipush S dL_law_37 (by decide) ?_
        refine g_iload_n S dL_law_39 rfl 3 rfl ?_
        refine g_imul S dL_law_40 ?_
        refine g_iadd S dL_law_41 ?_
        refine g_istore S (lv' := [(4, .int (iI (shI (cel sc L (tm_q7 + 1)) 2 + 53 * tm_q7))), (0, .ref (sb)), (1, .ref (ad 0)), (2, .ref (sm)), (3, .int (iI tm_q7))]) dL_law_42 (Nat.le_of_ble_eq_true rfl) rfl ?_
        refine g_iconst S dL_law_44 ?_
        refine g_istore S (lv' := [(5, .int (iI 0)), (4, .int (iI (shI (cel sc L (tm_q7 + 1)) 2 + 53 * tm_q7))), (0, .ref (sb)), (1, .ref (ad 0)), (2, .ref (sm)), (3, .int (iI tm_q7))]) dL_law_45 (Nat.le_of_ble_eq_true rfl) rfl ?_
        have L47 : ∀ (nf : Nat) (xx_q7 : Int) (k3 : Int) (kc : Nat) (ks : Nat), (0 ≤ k3 ∧ k3 ≤ 3) → (kc ≤ 38100 + 5100 * tm_q7.toNat + 1640 * k3.toNat ∧ ks ≤ 613500 + 80100 * tm_q7.toNat + 26400 * k3.toNat) → ((3 : Int) - k3 < (nf : Int)) → G xp l xe ({ frames := 12, cells := 1032851, slots := 6002914, locals := 458 }) xs xm xa xb xh xc 25 (fun q0 => zb ≤ q0) kc ks xQ 47 [(0, .ref (sb)), (1, .ref (ad 0)), (2, .ref (sm)), (3, .int (iI tm_q7)), (4, .int (iI xx_q7)), (5, .int (iI k3))] [] (fun H => (JS E ad zc sm 2) H ∧ (vS scr sb) H) := by
          intro nf
          induction nf with
          | zero =>
            intro xx_q7 k3 kc ks hk3_q7 hk4_q7 hmf
            exfalso
            omega
          | succ nf ihL47 =>
            intro xx_q7 k3 kc ks hk3_q7 hk4_q7 hmf
            refine g_iload S dL_law_47 5 rfl ?_
            refine g_iconst S dL_law_49 ?_
            refine g_icmp_ge S (tgt := 82) dL_law_50 (by decide) (by omega) (fun c50_q7 => ?_) (fun c50_q7 => ?_)
            · skip
              refine g_js (fun zq SS sp se al n pg hzq hT J hal hn2 => ?_)
              have gT_q7 := hT.sge
              have hn_q7 := J.hn
              have hpg_q7 := J.hpg
              refine g_aload_n S dL_law_82 rfl 1 rfl ?_
              refine g_callV S xK (As := []) (st := []) (stk' := [.long (DIG sp se al n pg)]) (Wp' := fun H => zq ≤ H.size ∧ va_at E.1 vwCl (sm, .inr (2, [.int (iI pg), .ref (s3 SS), .ref (s1 SS), .ref (s2 SS)])) H ∧ (SX E zc sm SS sp se n) H ∧ (CA E ad sp se al n pg) H ∧ (vS scr sb) H) (r := (RX1, TX1, 9)) (q_digest l E hj J  ) (cwV 0 S.2.2.2.2 gL_law_X1_digest rfl rfl rfl (by decide +kernel) ⟨Nat.le_of_ble_eq_true rfl, Nat.le_of_ble_eq_true rfl⟩) rfl rfl rfl rfl (Nat.le_of_ble_eq_true rfl) ⟨show kc + 0 ≤ 1032851 by omega, show ks + 0 ≤ 6002914 by omega⟩ (fun q9 h9 => (hax q9 h9).1) (fun _ h => h.2.2.2.1.cx) (fun _ h => h.2.2.2.1) (fun _ _ h h2 hle_q7 hq => ⟨Nat.le_trans (Nat.le_of_eq h.1.symm) hle_q7, h.2.1.kept (hq _ h.2.1.lt (fun w9_q7 => by have w8_q7 := hax _ w9_q7; omega)), h.2.2.1.far (fun q q1 q2 => hq q q1 (fun w9_q7 => by have w8_q7 := (hax q w9_q7).2; omega)), h2, h.2.2.2.2.kept (hq _ h.2.2.2.2.lt (fun w9_q7 => by have w8_q7 := hax _ w9_q7; omega))⟩) dL_law_83 ?_
              refine g_lstore S (lv' := [(5, .long (DIG sp se al n pg)), (0, .ref (sb)), (1, .ref (ad 0)), (2, .ref (sm)), (3, .int (iI tm_q7)), (4, .int (iI xx_q7))]) dL_law_86 (Nat.le_of_ble_eq_true rfl) rfl ?_
              refine g_aload_n S dL_law_88 rfl 2 rfl ?_
              refine g_callV S xK (As := []) (st := []) (stk' := [.int (iI n)]) (Wp' := fun H => zq ≤ H.size ∧ va_at E.1 vwCl (sm, .inr (2, [.int (iI pg), .ref (s3 SS), .ref (s1 SS), .ref (s2 SS)])) H ∧ (SX E zc sm SS sp se n) H ∧ (CA E ad sp se al n pg) H ∧ (vS scr sb) H) (r := (RX1, TX1, 9)) (q_headings l E hj J  ) (cwV 0 S.2.2.2.2 gL_law_X1_headings rfl rfl rfl (by decide +kernel) ⟨Nat.le_of_ble_eq_true rfl, Nat.le_of_ble_eq_true rfl⟩) rfl rfl rfl rfl (Nat.le_of_ble_eq_true rfl) ⟨show kc + 0 ≤ 1032851 by omega, show ks + 0 ≤ 6002914 by omega⟩ (fun q9 h9 => (hax q9 h9).1) (fun _ h => h.2.2.2.1.cx) (fun _ h => h.2.2.2.1) (fun _ _ h h2 hle_q7 hq => ⟨Nat.le_trans h.1 hle_q7, h.2.1.kept (hq _ h.2.1.lt (fun w9_q7 => by have w8_q7 := hax _ w9_q7; omega)), h.2.2.1.far (fun q q1 q2 => hq q q1 (fun w9_q7 => by have w8_q7 := (hax q w9_q7).2; omega)), h2, h.2.2.2.2.kept (hq _ h.2.2.2.2.lt (fun w9_q7 => by have w8_q7 := hax _ w9_q7; omega))⟩) dL_law_89 ?_
              refine g_istore S (lv' := [(7, .int (iI n)), (5, .long (DIG sp se al n pg)), (0, .ref (sb)), (1, .ref (ad 0)), (2, .ref (sm)), (3, .int (iI tm_q7)), (4, .int (iI xx_q7))]) dL_law_92 (Nat.le_of_ble_eq_true rfl) rfl ?_
              refine g_aload_n S dL_law_94 rfl 3 rfl ?_
              refine g_callV S xK (As := []) (st := []) (stk' := [.int (iI pg)]) (Wp' := fun H => zq ≤ H.size ∧ va_at E.1 vwCl (sm, .inr (2, [.int (iI pg), .ref (s3 SS), .ref (s1 SS), .ref (s2 SS)])) H ∧ (SX E zc sm SS sp se n) H ∧ (CA E ad sp se al n pg) H ∧ (vS scr sb) H) (r := (RX1, TX1, 9)) (q_bookPages l E hj J  ) (cwV 0 S.2.2.2.2 gL_law_X1_bookPages rfl rfl rfl (by decide +kernel) ⟨Nat.le_of_ble_eq_true rfl, Nat.le_of_ble_eq_true rfl⟩) rfl rfl rfl rfl (Nat.le_of_ble_eq_true rfl) ⟨show kc + 0 ≤ 1032851 by omega, show ks + 0 ≤ 6002914 by omega⟩ (fun q9 h9 => (hax q9 h9).1) (fun _ h => h.2.2.2.1.cx) (fun _ h => h.2.2.2.1) (fun _ _ h h2 hle_q7 hq => ⟨Nat.le_trans h.1 hle_q7, h.2.1.kept (hq _ h.2.1.lt (fun w9_q7 => by have w8_q7 := hax _ w9_q7; omega)), h.2.2.1.far (fun q q1 q2 => hq q q1 (fun w9_q7 => by have w8_q7 := (hax q w9_q7).2; omega)), h2, h.2.2.2.2.kept (hq _ h.2.2.2.2.lt (fun w9_q7 => by have w8_q7 := hax _ w9_q7; omega))⟩) dL_law_95 ?_
              refine g_istore S (lv' := [(8, .int (iI pg)), (7, .int (iI n)), (5, .long (DIG sp se al n pg)), (0, .ref (sb)), (1, .ref (ad 0)), (2, .ref (sm)), (3, .int (iI tm_q7)), (4, .int (iI xx_q7))]) dL_law_98 (Nat.le_of_ble_eq_true rfl) rfl ?_
              refine g_iconst S dL_law_100 ?_
              refine g_istore S (lv' := [(9, .int (iI 0)), (8, .int (iI pg)), (7, .int (iI n)), (5, .long (DIG sp se al n pg)), (0, .ref (sb)), (1, .ref (ad 0)), (2, .ref (sm)), (3, .int (iI tm_q7)), (4, .int (iI xx_q7))]) dL_law_101 (Nat.le_of_ble_eq_true rfl) rfl ?_
              refine g_iconst S dL_law_103 ?_
              refine g_istore S (lv' := [(10, .int (iI 0)), (9, .int (iI 0)), (8, .int (iI pg)), (7, .int (iI n)), (5, .long (DIG sp se al n pg)), (0, .ref (sb)), (1, .ref (ad 0)), (2, .ref (sm)), (3, .int (iI tm_q7)), (4, .int (iI xx_q7))]) dL_law_104 (Nat.le_of_ble_eq_true rfl) rfl ?_
              refine g_iconst S dL_law_106 ?_
              refine g_istore S (lv' := [(11, .int (iI 0)), (10, .int (iI 0)), (9, .int (iI 0)), (8, .int (iI pg)), (7, .int (iI n)), (5, .long (DIG sp se al n pg)), (0, .ref (sb)), (1, .ref (ad 0)), (2, .ref (sm)), (3, .int (iI tm_q7)), (4, .int (iI xx_q7))]) dL_law_107 (Nat.le_of_ble_eq_true rfl) rfl ?_
              refine g_iconst S dL_law_109 ?_
              refine g_istore S (lv' := [(12, .int (iI 0)), (11, .int (iI 0)), (10, .int (iI 0)), (9, .int (iI 0)), (8, .int (iI pg)), (7, .int (iI n)), (5, .long (DIG sp se al n pg)), (0, .ref (sb)), (1, .ref (ad 0)), (2, .ref (sm)), (3, .int (iI tm_q7)), (4, .int (iI xx_q7))]) dL_law_110 (Nat.le_of_ble_eq_true rfl) rfl ?_
              have L112 : ∀ (nf : Nat) (uv_q7 : Int) (av_q7 : Int), (0 ≤ uv_q7 ∧ uv_q7 ≤ n) → (av_q7 = smI (fun i => PGS (sp i)) uv_q7.toNat) → (n - uv_q7 < (nf : Int)) → G xp l xe ({ frames := 12, cells := 1032851, slots := 6002914, locals := 458 }) xs xm xa xb xh xc 25 (fun q0 => zb ≤ q0) kc ks xQ 112 [(0, .ref (sb)), (1, .ref (ad 0)), (2, .ref (sm)), (3, .int (iI tm_q7)), (4, .int (iI xx_q7)), (5, .long (DIG sp se al n pg)), (7, .int (iI n)), (8, .int (iI pg)), (9, .int (iI av_q7)), (10, .int (iI 0)), (11, .int (iI 0)), (12, .int (iI uv_q7))] [] (fun H => zq ≤ H.size ∧ va_at E.1 vwCl (sm, .inr (2, [.int (iI pg), .ref (s3 SS), .ref (s1 SS), .ref (s2 SS)])) H ∧ (SX E zc sm SS sp se n) H ∧ (CA E ad sp se al n pg) H ∧ (vS scr sb) H) := by
                intro nf
                induction nf with
                | zero =>
                  intro uv_q7 av_q7 huv_q7 hav_q7 hmf
                  exfalso
                  omega
                | succ nf ihL112 =>
                  intro uv_q7 av_q7 huv_q7 hav_q7 hmf
                  refine g_iload S dL_law_112 11 rfl ?_
                  refine g_iload S dL_law_114 6 rfl ?_
                  refine g_icmp_ge S (tgt := 402) dL_law_116 (by decide) (by omega) (fun c116_q7 => ?_) (fun c116_q7 => ?_)
                  · skip
                    refine g_iconst S dL_law_402 ?_
                    refine g_istore S (lv' := [(12, .int (iI 1)), (0, .ref (sb)), (1, .ref (ad 0)), (2, .ref (sm)), (3, .int (iI tm_q7)), (4, .int (iI xx_q7)), (5, .long (DIG sp se al n pg)), (7, .int (iI n)), (8, .int (iI pg)), (9, .int (iI av_q7)), (10, .int (iI 0)), (11, .int (iI 0))]) dL_law_403 (Nat.le_of_ble_eq_true rfl) rfl ?_
                    have L405 : ∀ (nf : Nat) (qv_q7 : Int) (at2_q7 : Int) (bv_q7 : Int) (mo_q7 : Int), (1 ≤ qv_q7 ∧ qv_q7 ≤ pg + 1) → (at2_q7 = smI (fun k => CHN sp n (k + 1)) pg.toNat - smI (fun k => CHN sp n (k + 1)) (qv_q7 - 1).toNat) → (bv_q7 = smI (fun k => pI (CHN sp n (k + 1) = 0)) (qv_q7 - 1).toNat) → (MOS (CHN sp n) qv_q7 mo_q7) → (0 ≤ mo_q7 ∧ mo_q7 ≤ 24) → (pg + 1 - qv_q7 < (nf : Int)) → G xp l xe ({ frames := 12, cells := 1032851, slots := 6002914, locals := 458 }) xs xm xa xb xh xc 25 (fun q0 => zb ≤ q0) kc ks xQ 405 [(0, .ref (sb)), (1, .ref (ad 0)), (2, .ref (sm)), (3, .int (iI tm_q7)), (4, .int (iI xx_q7)), (5, .long (DIG sp se al n pg)), (7, .int (iI n)), (8, .int (iI pg)), (9, .int (iI at2_q7)), (10, .int (iI bv_q7)), (11, .int (iI mo_q7)), (12, .int (iI qv_q7))] [] (fun H => zq ≤ H.size ∧ va_at E.1 vwCl (sm, .inr (2, [.int (iI pg), .ref (s3 SS), .ref (s1 SS), .ref (s2 SS)])) H ∧ (SX E zc sm SS sp se n) H ∧ (CA E ad sp se al n pg) H ∧ (vS scr sb) H) := by
                      intro nf
                      induction nf with
                      | zero =>
                        intro qv_q7 at2_q7 bv_q7 mo_q7 hqv_q7 hat_q7 hbv_q7 hmo_q7 hmr_q7 hmf
                        exfalso
                        omega
                      | succ nf ihL405 =>
                        intro qv_q7 at2_q7 bv_q7 mo_q7 hqv_q7 hat_q7 hbv_q7 hmo_q7 hmr_q7 hmf
                        refine g_iload S dL_law_405 11 rfl ?_
                        refine g_iload S dL_law_407 7 rfl ?_
                        refine g_icmp_gt S (tgt := 457) dL_law_409 (by decide) (by omega) (fun c409_q7 => ?_) (fun c409_q7 => ?_)
                        · skip
                          have q8_q7 : qv_q7 - 1 = pg := by omega
                          rw [q8_q7] at hat_q7 hbv_q7
                          have a8_q7 : at2_q7 = 0 := by omega
                          have hbB_q7 : bv_q7 = BARE sp n pg := hbv_q7
                          have rbB_q7 := smI_01 (f := fun k => pI (CHN sp n (k + 1) = 0)) (z := pg) (by omega) (fun _ _ _ => pI_b _)
                          rw [← hbv_q7] at rbB_q7
                          have fl9_q7 := (flS_sp (CHN sp n) (pg - 1).toNat).1
                          have fl8_q7 : 1 ≤ FULL sp n pg ∧ FULL sp n pg ≤ pg := ⟨fl9_q7.1, by have w9_q7 := fl9_q7.2; show flS (CHN sp n) (pg - 1).toNat ≤ pg; omega⟩
                          have hmF_q7 : CHN sp n (FULL sp n pg) = mo_q7 := mos_e (by rw [show pg + 1 = qv_q7 by omega]; exact hmo_q7) hpg_q7.1 (fun x => (CHN_b sp x hn_q7.1).1)
                          refine g_iload S dL_law_457 8 rfl ?_
                          refine g_if_ne S (tgt := 484) dL_law_459 (by decide) (by omega) (fun c459_q7 => ?_) (fun c459_q7 => ?_)
                          · skip
                            exact absurd c459_q7 (by omega)
                          · skip
                            refine g_iload S dL_law_462 9 rfl ?_
                            refine g_aload_n S dL_law_464 rfl 1 rfl ?_
                            refine g_callV S xK (As := []) (st := [.int (iI bv_q7)]) (stk' := [.int (iI (BARE sp n pg)), .int (iI bv_q7)]) (Wp' := fun H => zq ≤ H.size ∧ va_at E.1 vwCl (sm, .inr (2, [.int (iI pg), .ref (s3 SS), .ref (s1 SS), .ref (s2 SS)])) H ∧ (SX E zc sm SS sp se n) H ∧ (CA E ad sp se al n pg) H ∧ (vS scr sb) H) (r := (RX1, TX1, 9)) (q_barePages l E hj J  ) (cwV 0 S.2.2.2.2 gL_law_X1_barePages rfl rfl rfl (by decide +kernel) ⟨Nat.le_of_ble_eq_true rfl, Nat.le_of_ble_eq_true rfl⟩) rfl rfl rfl rfl (Nat.le_of_ble_eq_true rfl) ⟨show kc + 0 ≤ 1032851 by omega, show ks + 0 ≤ 6002914 by omega⟩ (fun q9 h9 => (hax q9 h9).1) (fun _ h => h.2.2.2.1.cx) (fun _ h => h.2.2.2.1) (fun _ _ h h2 hle_q7 hq => ⟨Nat.le_trans h.1 hle_q7, h.2.1.kept (hq _ h.2.1.lt (fun w9_q7 => by have w8_q7 := hax _ w9_q7; omega)), h.2.2.1.far (fun q q1 q2 => hq q q1 (fun w9_q7 => by have w8_q7 := (hax q w9_q7).2; omega)), h2, h.2.2.2.2.kept (hq _ h.2.2.2.2.lt (fun w9_q7 => by have w8_q7 := hax _ w9_q7; omega))⟩) dL_law_465 ?_
                            refine g_icmp_ne S (tgt := 484) dL_law_468 (by decide) (by omega) (fun c468_q7 => ?_) (fun c468_q7 => ?_)
                            · skip
                              exact absurd c468_q7 (by omega)
                            · skip
                              refine g_aload_n S dL_law_471 rfl 1 rfl ?_
                              refine g_aload_n S dL_law_472 rfl 1 rfl ?_
                              refine g_callV S xK (As := []) (st := [.ref (ad 0)]) (stk' := [.int (iI (FULL sp n pg)), .ref (ad 0)]) (Wp' := fun H => zq ≤ H.size ∧ va_at E.1 vwCl (sm, .inr (2, [.int (iI pg), .ref (s3 SS), .ref (s1 SS), .ref (s2 SS)])) H ∧ (SX E zc sm SS sp se n) H ∧ (CA E ad sp se al n pg) H ∧ (vS scr sb) H) (r := (RX1, TX1, 9)) (q_fullestPage l E hj J  ) (cwV 0 S.2.2.2.2 gL_law_X1_fullestPage rfl rfl rfl (by decide +kernel) ⟨Nat.le_of_ble_eq_true rfl, Nat.le_of_ble_eq_true rfl⟩) rfl rfl rfl rfl (Nat.le_of_ble_eq_true rfl) ⟨show kc + 0 ≤ 1032851 by omega, show ks + 0 ≤ 6002914 by omega⟩ (fun q9 h9 => (hax q9 h9).1) (fun _ h => h.2.2.2.1.cx) (fun _ h => h.2.2.2.1) (fun _ _ h h2 hle_q7 hq => ⟨Nat.le_trans h.1 hle_q7, h.2.1.kept (hq _ h.2.1.lt (fun w9_q7 => by have w8_q7 := hax _ w9_q7; omega)), h.2.2.1.far (fun q q1 q2 => hq q q1 (fun w9_q7 => by have w8_q7 := (hax q w9_q7).2; omega)), h2, h.2.2.2.2.kept (hq _ h.2.2.2.2.lt (fun w9_q7 => by have w8_q7 := hax _ w9_q7; omega))⟩) dL_law_473 ?_
                              refine g_callV S xK (As := [.int (iI (FULL sp n pg))]) (st := []) (stk' := [.int (iI (CHN sp n (FULL sp n pg)))]) (Wp' := fun H => zq ≤ H.size ∧ va_at E.1 vwCl (sm, .inr (2, [.int (iI pg), .ref (s3 SS), .ref (s1 SS), .ref (s2 SS)])) H ∧ (SX E zc sm SS sp se n) H ∧ (CA E ad sp se al n pg) H ∧ (vS scr sb) H) (r := (RX1, TX1, 9)) (q_headingsOn l E hj J (FULL sp n pg) (by omega)) (cwV 1 S.2.2.2.2 gL_law_X1_headingsOn rfl rfl rfl (by decide +kernel) ⟨Nat.le_of_ble_eq_true rfl, Nat.le_of_ble_eq_true rfl⟩) rfl rfl rfl rfl (Nat.le_of_ble_eq_true rfl) ⟨show kc + 0 ≤ 1032851 by omega, show ks + 0 ≤ 6002914 by omega⟩ (fun q9 h9 => (hax q9 h9).1) (fun _ h => h.2.2.2.1.cx) (fun _ h => h.2.2.2.1) (fun _ _ h h2 hle_q7 hq => ⟨Nat.le_trans h.1 hle_q7, h.2.1.kept (hq _ h.2.1.lt (fun w9_q7 => by have w8_q7 := hax _ w9_q7; omega)), h.2.2.1.far (fun q q1 q2 => hq q q1 (fun w9_q7 => by have w8_q7 := (hax q w9_q7).2; omega)), h2, h.2.2.2.2.kept (hq _ h.2.2.2.2.lt (fun w9_q7 => by have w8_q7 := hax _ w9_q7; omega))⟩) dL_law_476 ?_
                              refine g_iload S dL_law_479 10 rfl ?_
                              refine g_icmp_eq S (tgt := 486) dL_law_481 (by decide) (by omega) (fun c481_q7 => ?_) (fun c481_q7 => ?_)
                              · skip
                                refine g_iconst S dL_law_486 ?_
                                refine g_istore S (lv' := [(12, .int (iI 0)), (0, .ref (sb)), (1, .ref (ad 0)), (2, .ref (sm)), (3, .int (iI tm_q7)), (4, .int (iI xx_q7)), (5, .long (DIG sp se al n pg)), (7, .int (iI n)), (8, .int (iI pg)), (9, .int (iI at2_q7)), (10, .int (iI bv_q7)), (11, .int (iI mo_q7))]) dL_law_487 (Nat.le_of_ble_eq_true rfl) rfl ?_
                                refine g_iload S dL_law_489 7 rfl ?_
                                refine g_istore S (lv' := [(13, .int (iI n)), (12, .int (iI 0)), (0, .ref (sb)), (1, .ref (ad 0)), (2, .ref (sm)), (3, .int (iI tm_q7)), (4, .int (iI xx_q7)), (5, .long (DIG sp se al n pg)), (7, .int (iI n)), (8, .int (iI pg)), (9, .int (iI at2_q7)), (10, .int (iI bv_q7)), (11, .int (iI mo_q7))]) dL_law_491 (Nat.le_of_ble_eq_true rfl) rfl ?_
                                refine g_iconst S dL_law_493 ?_
                                refine g_istore S (lv' := [(14, .int (iI 0)), (13, .int (iI n)), (12, .int (iI 0)), (0, .ref (sb)), (1, .ref (ad 0)), (2, .ref (sm)), (3, .int (iI tm_q7)), (4, .int (iI xx_q7)), (5, .long (DIG sp se al n pg)), (7, .int (iI n)), (8, .int (iI pg)), (9, .int (iI at2_q7)), (10, .int (iI bv_q7)), (11, .int (iI mo_q7))]) dL_law_494 (Nat.le_of_ble_eq_true rfl) rfl ?_
                                have L496 : ∀ (nf : Nat) (aa_q7 : Int) (vn_q7 : Int) (un_q7 : Int), (0 ≤ aa_q7 ∧ aa_q7 ≤ n) → (vn_q7 = smI (fun h => pI (se h ≠ -1 ∧ (eS se n.toNat h = -1 ∨ (sp (eS se n.toNat h)).1 = 0))) aa_q7.toNat) → (un_q7 = n - smI (fun i => pI (LED se al n i)) aa_q7.toNat) → (n - aa_q7 < (nf : Int)) → G xp l xe ({ frames := 12, cells := 1032851, slots := 6002914, locals := 458 }) xs xm xa xb xh xc 25 (fun q0 => zb ≤ q0) kc ks xQ 496 [(0, .ref (sb)), (1, .ref (ad 0)), (2, .ref (sm)), (3, .int (iI tm_q7)), (4, .int (iI xx_q7)), (5, .long (DIG sp se al n pg)), (7, .int (iI n)), (8, .int (iI pg)), (12, .int (iI vn_q7)), (13, .int (iI un_q7)), (14, .int (iI aa_q7))] [] (fun H => zq ≤ H.size ∧ va_at E.1 vwCl (sm, .inr (2, [.int (iI pg), .ref (s3 SS), .ref (s1 SS), .ref (s2 SS)])) H ∧ (SX E zc sm SS sp se n) H ∧ (CA E ad sp se al n pg) H ∧ (vS scr sb) H) := by
                                  intro nf
                                  induction nf with
                                  | zero =>
                                    intro aa_q7 vn_q7 un_q7 haa_q7 hvn_q7 hun_q7 hmf
                                    exfalso
                                    omega
                                  | succ nf ihL496 =>
                                    intro aa_q7 vn_q7 un_q7 haa_q7 hvn_q7 hun_q7 hmf
                                    refine g_iload S dL_law_496 10 rfl ?_
                                    refine g_iload S dL_law_498 6 rfl ?_
                                    refine g_icmp_ge S (tgt := 1072) dL_law_500 (by decide) (by omega) (fun c500_q7 => ?_) (fun c500_q7 => ?_)
                                    · skip
                                      have ean_q7 : aa_q7 = n := by omega
                                      rw [ean_q7] at hvn_q7 hun_q7
                                      have hV9_q7 : vn_q7 = VAIN sp se n := hvn_q7
                                      have rV9_q7 := smI_01 (f := fun h => pI (se h ≠ -1 ∧ (eS se n.toNat h = -1 ∨ (sp (eS se n.toNat h)).1 = 0))) (z := n) hn_q7.1 (fun _ _ _ => pI_b _)
                                      rw [← hvn_q7] at rV9_q7
                                      have hU9_q7 : un_q7 = UNL se al n := hun_q7.trans (unl_c J.hgr hn_q7)
                                      have rU9_q7 := unl_r (se := se) (al := al) (n := n)
                                      refine g_iload S dL_law_1072 8 rfl ?_
                                      refine g_aload_n S dL_law_1074 rfl 1 rfl ?_
                                      refine g_callV S xK (As := []) (st := [.int (iI vn_q7)]) (stk' := [.int (iI (VAIN sp se n)), .int (iI vn_q7)]) (Wp' := fun H => zq ≤ H.size ∧ va_at E.1 vwCl (sm, .inr (2, [.int (iI pg), .ref (s3 SS), .ref (s1 SS), .ref (s2 SS)])) H ∧ (SX E zc sm SS sp se n) H ∧ (CA E ad sp se al n pg) H ∧ (vS scr sb) H) (r := (RX1, TX1, 9)) (q_vainSees l E hj J  ) (cwV 0 S.2.2.2.2 gL_law_X1_vainSees rfl rfl rfl (by decide +kernel) ⟨Nat.le_of_ble_eq_true rfl, Nat.le_of_ble_eq_true rfl⟩) rfl rfl rfl rfl (Nat.le_of_ble_eq_true rfl) ⟨show kc + 0 ≤ 1032851 by omega, show ks + 0 ≤ 6002914 by omega⟩ (fun q9 h9 => (hax q9 h9).1) (fun _ h => h.2.2.2.1.cx) (fun _ h => h.2.2.2.1) (fun _ _ h h2 hle_q7 hq => ⟨Nat.le_trans h.1 hle_q7, h.2.1.kept (hq _ h.2.1.lt (fun w9_q7 => by have w8_q7 := hax _ w9_q7; omega)), h.2.2.1.far (fun q q1 q2 => hq q q1 (fun w9_q7 => by have w8_q7 := (hax q w9_q7).2; omega)), h2, h.2.2.2.2.kept (hq _ h.2.2.2.2.lt (fun w9_q7 => by have w8_q7 := hax _ w9_q7; omega))⟩) dL_law_1075 ?_
                                      refine g_icmp_ne S (tgt := 1100) dL_law_1078 (by decide) (by omega) (fun c1078_q7 => ?_) (fun c1078_q7 => ?_)
                                      · skip
                                        exact absurd c1078_q7 (by omega)
                                      · skip
                                        refine g_iload S dL_law_1081 9 rfl ?_
                                        refine g_aload_n S dL_law_1083 rfl 1 rfl ?_
                                        refine g_callV S xK (As := []) (st := [.int (iI un_q7)]) (stk' := [.int (iI (UNL se al n)), .int (iI un_q7)]) (Wp' := fun H => zq ≤ H.size ∧ va_at E.1 vwCl (sm, .inr (2, [.int (iI pg), .ref (s3 SS), .ref (s1 SS), .ref (s2 SS)])) H ∧ (SX E zc sm SS sp se n) H ∧ (CA E ad sp se al n pg) H ∧ (vS scr sb) H) (r := (RX1, TX1, 9)) (q_unled l E hj J  ) (cwV 0 S.2.2.2.2 gL_law_X1_unled rfl rfl rfl (by decide +kernel) ⟨Nat.le_of_ble_eq_true rfl, Nat.le_of_ble_eq_true rfl⟩) rfl rfl rfl rfl (Nat.le_of_ble_eq_true rfl) ⟨show kc + 0 ≤ 1032851 by omega, show ks + 0 ≤ 6002914 by omega⟩ (fun q9 h9 => (hax q9 h9).1) (fun _ h => h.2.2.2.1.cx) (fun _ h => h.2.2.2.1) (fun _ _ h h2 hle_q7 hq => ⟨Nat.le_trans h.1 hle_q7, h.2.1.kept (hq _ h.2.1.lt (fun w9_q7 => by have w8_q7 := hax _ w9_q7; omega)), h.2.2.1.far (fun q q1 q2 => hq q q1 (fun w9_q7 => by have w8_q7 := (hax q w9_q7).2; omega)), h2, h.2.2.2.2.kept (hq _ h.2.2.2.2.lt (fun w9_q7 => by have w8_q7 := hax _ w9_q7; omega))⟩) dL_law_1084 ?_
                                        refine g_icmp_ne S (tgt := 1100) dL_law_1087 (by decide) (by omega) (fun c1087_q7 => ?_) (fun c1087_q7 => ?_)
                                        · skip
                                          exact absurd c1087_q7 (by omega)
                                        · skip
                                          refine g_aload_n S dL_law_1090 rfl 1 rfl ?_
                                          refine g_callV S xK (As := []) (st := []) (stk' := [.long (DIG sp se al n pg)]) (Wp' := fun H => zq ≤ H.size ∧ va_at E.1 vwCl (sm, .inr (2, [.int (iI pg), .ref (s3 SS), .ref (s1 SS), .ref (s2 SS)])) H ∧ (SX E zc sm SS sp se n) H ∧ (CA E ad sp se al n pg) H ∧ (vS scr sb) H) (r := (RX1, TX1, 9)) (q_digest l E hj J  ) (cwV 0 S.2.2.2.2 gL_law_X1_digest rfl rfl rfl (by decide +kernel) ⟨Nat.le_of_ble_eq_true rfl, Nat.le_of_ble_eq_true rfl⟩) rfl rfl rfl rfl (Nat.le_of_ble_eq_true rfl) ⟨show kc + 0 ≤ 1032851 by omega, show ks + 0 ≤ 6002914 by omega⟩ (fun q9 h9 => (hax q9 h9).1) (fun _ h => h.2.2.2.1.cx) (fun _ h => h.2.2.2.1) (fun _ _ h h2 hle_q7 hq => ⟨Nat.le_trans h.1 hle_q7, h.2.1.kept (hq _ h.2.1.lt (fun w9_q7 => by have w8_q7 := hax _ w9_q7; omega)), h.2.2.1.far (fun q q1 q2 => hq q q1 (fun w9_q7 => by have w8_q7 := (hax q w9_q7).2; omega)), h2, h.2.2.2.2.kept (hq _ h.2.2.2.2.lt (fun w9_q7 => by have w8_q7 := hax _ w9_q7; omega))⟩) dL_law_1091 ?_
                                          refine g_lload S dL_law_1094 5 rfl ?_
                                          refine g_lcmpE S rfl dL_law_1096 ?_
                                          refine g_if_eq S (tgt := 1102) dL_law_1097 (by decide) (by omega) (fun c1097_q7 => ?_) (fun c1097_q7 => ?_)
                                          · skip
                                            refine g_iconst S dL_law_1102 ?_
                                            refine g_iload S dL_law_1103 4 rfl ?_
                                            refine g_iconst S dL_law_1105 ?_
                                            refine g_ishr S (z := (iI (shI xx_q7 4))) dL_law_1106 ((iI_of _).symm) ?_
                                            refine g_iload S dL_law_1107 7 rfl ?_
                                            refine g_iconst S dL_law_1109 ?_
                                            refine g_iadd S dL_law_1110 ?_
                                            refine g_callS S xK (As := [.int (iI (shI xx_q7 4)), .int (iI (pg + 1))]) (st := [.int (iI 1)]) (stk' := [.int (iI (blw (shI xx_q7 4) (pg + 1))), .int (iI 1)]) (Wp' := fun H => zq ≤ H.size ∧ va_at E.1 vwCl (sm, .inr (2, [.int (iI pg), .ref (s3 SS), .ref (s1 SS), .ref (s2 SS)])) H ∧ (SX E zc sm SS sp se n) H ∧ (CA E ad sp se al n pg) H ∧ (vS scr sb) H) (m_L_below l E (Wp := fun H => zq ≤ H.size ∧ va_at E.1 vwCl (sm, .inr (2, [.int (iI pg), .ref (s3 SS), .ref (s1 SS), .ref (s2 SS)])) H ∧ (SX E zc sm SS sp se n) H ∧ (CA E ad sp se al n pg) H ∧ (vS scr sb) H) (shI xx_q7 4) (pg + 1) (by omega)) (cwS 2 S.2.2.2.2 gL_law_L_below rfl rfl rfl (by decide +kernel) ⟨Nat.le_of_ble_eq_true rfl, Nat.le_of_ble_eq_true rfl⟩) rfl rfl rfl (Nat.le_of_ble_eq_true rfl) ⟨show kc + 0 ≤ 1032851 by omega, show ks + 0 ≤ 6002914 by omega⟩ (fun _ q => q.elim) (fun _ h => h) (fun _ _ _ h _ _ => h) dL_law_1111 ?_
                                            have bl1111_q7 := blw_r (v := shI xx_q7 4) (n := pg + 1) (by omega)
                                            refine g_iadd S dL_law_1114 ?_
                                            refine g_istore S (lv' := [(14, .int (iI (1 + blw (shI xx_q7 4) (pg + 1)))), (0, .ref (sb)), (1, .ref (ad 0)), (2, .ref (sm)), (3, .int (iI tm_q7)), (4, .int (iI xx_q7)), (5, .long (DIG sp se al n pg)), (7, .int (iI n)), (8, .int (iI pg)), (12, .int (iI vn_q7)), (13, .int (iI un_q7))]) dL_law_1115 (Nat.le_of_ble_eq_true rfl) rfl ?_
                                            have L1160 : G xp l xe ({ frames := 12, cells := 1032851, slots := 6002914, locals := 458 }) xs xm xa xb xh xc 25 (fun q0 => zb ≤ q0) kc ks xQ 1160 [(0, .ref (sb)), (1, .ref (ad 0)), (2, .ref (sm)), (3, .int (iI tm_q7)), (4, .int (iI xx_q7)), (5, .long (DIG sp se al n pg)), (7, .int (iI n)), (8, .int (iI pg))] [] (fun H => zq ≤ H.size ∧ va_at E.1 vwCl (sm, .inr (2, [.int (iI pg), .ref (s3 SS), .ref (s1 SS), .ref (s2 SS)])) H ∧ (SX E zc sm SS sp se n) H ∧ (CA E ad sp se al n pg) H ∧ (vS scr sb) H) := by
                                              refine g_iload S dL_law_1160 4 rfl ?_
                                              refine g_iconst S dL_law_1162 ?_
                                              refine g_ishr S (z := (iI (shI xx_q7 3))) dL_law_1163 ((iI_of _).symm) ?_
                                              refine g_iload S dL_law_1164 6 rfl ?_
                                              refine g_callS S xK (As := [.int (iI (shI xx_q7 3)), .int (iI n)]) (st := []) (stk' := [.int (iI (blw (shI xx_q7 3) n))]) (Wp' := fun H => zq ≤ H.size ∧ va_at E.1 vwCl (sm, .inr (2, [.int (iI pg), .ref (s3 SS), .ref (s1 SS), .ref (s2 SS)])) H ∧ (SX E zc sm SS sp se n) H ∧ (CA E ad sp se al n pg) H ∧ (vS scr sb) H) (m_L_below l E (Wp := fun H => zq ≤ H.size ∧ va_at E.1 vwCl (sm, .inr (2, [.int (iI pg), .ref (s3 SS), .ref (s1 SS), .ref (s2 SS)])) H ∧ (SX E zc sm SS sp se n) H ∧ (CA E ad sp se al n pg) H ∧ (vS scr sb) H) (shI xx_q7 3) n (by omega)) (cwS 2 S.2.2.2.2 gL_law_L_below rfl rfl rfl (by decide +kernel) ⟨Nat.le_of_ble_eq_true rfl, Nat.le_of_ble_eq_true rfl⟩) rfl rfl rfl (Nat.le_of_ble_eq_true rfl) ⟨show kc + 0 ≤ 1032851 by omega, show ks + 0 ≤ 6002914 by omega⟩ (fun _ q => q.elim) (fun _ h => h) (fun _ _ _ h _ _ => h) dL_law_1166 ?_
                                              have bl1166_q7 := blw_r (v := shI xx_q7 3) (n := n) (by omega)
                                              refine g_istore S (lv' := [(15, .int (iI (blw (shI xx_q7 3) n))), (0, .ref (sb)), (1, .ref (ad 0)), (2, .ref (sm)), (3, .int (iI tm_q7)), (4, .int (iI xx_q7)), (5, .long (DIG sp se al n pg)), (7, .int (iI n)), (8, .int (iI pg))]) dL_law_1169 (Nat.le_of_ble_eq_true rfl) rfl ?_
                                              refine g_iconst S dL_law_1171 ?_
                                              refine g_iload S dL_law_1172 5 rfl ?_
                                              refine g_iconst S dL_law_1174 ?_
                                              refine g_ishr S (z := (iI (shI xx_q7 5))) dL_law_1175 ((iI_of _).symm) ?_
                                              refine g_iload S dL_law_1176 8 rfl ?_
                                              refine g_callS S xK (As := [.int (iI (shI xx_q7 5)), .int (iI pg)]) (st := [.int (iI 1)]) (stk' := [.int (iI (blw (shI xx_q7 5) pg)), .int (iI 1)]) (Wp' := fun H => zq ≤ H.size ∧ va_at E.1 vwCl (sm, .inr (2, [.int (iI pg), .ref (s3 SS), .ref (s1 SS), .ref (s2 SS)])) H ∧ (SX E zc sm SS sp se n) H ∧ (CA E ad sp se al n pg) H ∧ (vS scr sb) H) (m_L_below l E (Wp := fun H => zq ≤ H.size ∧ va_at E.1 vwCl (sm, .inr (2, [.int (iI pg), .ref (s3 SS), .ref (s1 SS), .ref (s2 SS)])) H ∧ (SX E zc sm SS sp se n) H ∧ (CA E ad sp se al n pg) H ∧ (vS scr sb) H) (shI xx_q7 5) pg (by omega)) (cwS 2 S.2.2.2.2 gL_law_L_below rfl rfl rfl (by decide +kernel) ⟨Nat.le_of_ble_eq_true rfl, Nat.le_of_ble_eq_true rfl⟩) rfl rfl rfl (Nat.le_of_ble_eq_true rfl) ⟨show kc + 0 ≤ 1032851 by omega, show ks + 0 ≤ 6002914 by omega⟩ (fun _ q => q.elim) (fun _ h => h) (fun _ _ _ h _ _ => h) dL_law_1178 ?_
                                              have bl1178_q7 := blw_r (v := shI xx_q7 5) (n := pg) (by omega)
                                              refine g_iadd S dL_law_1181 ?_
                                              refine g_istore S (lv' := [(16, .int (iI (1 + blw (shI xx_q7 5) pg))), (15, .int (iI (blw (shI xx_q7 3) n))), (0, .ref (sb)), (1, .ref (ad 0)), (2, .ref (sm)), (3, .int (iI tm_q7)), (4, .int (iI xx_q7)), (5, .long (DIG sp se al n pg)), (7, .int (iI n)), (8, .int (iI pg))]) dL_law_1182 (Nat.le_of_ble_eq_true rfl) rfl ?_
                                              refine g_iload S dL_law_1184 9 rfl ?_
                                              refine g_iload S dL_law_1186 0 rfl ?_
                                              refine g_iload S dL_law_1188 6 rfl ?_
                                              refine g_bipush S dL_law_1190 (by decide) ?_
                                              refine g_ishr S (z := (iI (shI xx_q7 7))) dL_law_1192 ((iI_of _).symm) ?_
                                              refine g_iconst S dL_law_1193 ?_
                                              refine g_callS S xK (As := [.int (iI (shI xx_q7 7)), .int (iI 5)]) (st := [.int (iI (1 + blw (shI xx_q7 5) pg)), .int (iI pg)]) (stk' := [.int (iI (blw (shI xx_q7 7) 5)), .int (iI (1 + blw (shI xx_q7 5) pg)), .int (iI pg)]) (Wp' := fun H => zq ≤ H.size ∧ va_at E.1 vwCl (sm, .inr (2, [.int (iI pg), .ref (s3 SS), .ref (s1 SS), .ref (s2 SS)])) H ∧ (SX E zc sm SS sp se n) H ∧ (CA E ad sp se al n pg) H ∧ (vS scr sb) H) (m_L_below l E (Wp := fun H => zq ≤ H.size ∧ va_at E.1 vwCl (sm, .inr (2, [.int (iI pg), .ref (s3 SS), .ref (s1 SS), .ref (s2 SS)])) H ∧ (SX E zc sm SS sp se n) H ∧ (CA E ad sp se al n pg) H ∧ (vS scr sb) H) (shI xx_q7 7) 5 (by omega)) (cwS 2 S.2.2.2.2 gL_law_L_below rfl rfl rfl (by decide +kernel) ⟨Nat.le_of_ble_eq_true rfl, Nat.le_of_ble_eq_true rfl⟩) rfl rfl rfl (Nat.le_of_ble_eq_true rfl) ⟨show kc + 0 ≤ 1032851 by omega, show ks + 0 ≤ 6002914 by omega⟩ (fun _ q => q.elim) (fun _ h => h) (fun _ _ _ h _ _ => h) dL_law_1194 ?_
                                              have bl1194_q7 := blw_r (v := shI xx_q7 7) (n := 5) (by omega)
                                              refine g_iadd S dL_law_1197 ?_
                                              refine g_mmin S km33 ksmin kiMath kcmin (Nat.le_of_ble_eq_true rfl) (Nat.le_of_ble_eq_true rfl) ⟨show kc ≤ 1032851 by omega, show ks ≤ 6002914 by omega⟩ dL_law_1198 (by omega) ?_
                                              refine g_istore S (lv' := [(17, .int (iI (min pg (1 + blw (shI xx_q7 5) pg + blw (shI xx_q7 7) 5)))), (16, .int (iI (1 + blw (shI xx_q7 5) pg))), (15, .int (iI (blw (shI xx_q7 3) n))), (0, .ref (sb)), (1, .ref (ad 0)), (2, .ref (sm)), (3, .int (iI tm_q7)), (4, .int (iI xx_q7)), (5, .long (DIG sp se al n pg)), (7, .int (iI n)), (8, .int (iI pg))]) dL_law_1201 (Nat.le_of_ble_eq_true rfl) rfl ?_
                                              have L1203 : ∀ (uv_q7 : Int) (fr_q7 : Int) (to_q7 : Int), (0 ≤ uv_q7 ∧ uv_q7 < n) → (1 ≤ fr_q7 ∧ fr_q7 ≤ to_q7 ∧ to_q7 ≤ pg) → G xp l xe ({ frames := 12, cells := 1032851, slots := 6002914, locals := 458 }) xs xm xa xb xh xc 25 (fun q0 => zb ≤ q0) kc ks xQ 1203 [(0, .ref (sb)), (1, .ref (ad 0)), (2, .ref (sm)), (3, .int (iI tm_q7)), (4, .int (iI xx_q7)), (5, .long (DIG sp se al n pg)), (7, .int (iI n)), (8, .int (iI pg)), (15, .int (iI uv_q7)), (16, .int (iI fr_q7)), (17, .int (iI to_q7))] [] (fun H => zq ≤ H.size ∧ va_at E.1 vwCl (sm, .inr (2, [.int (iI pg), .ref (s3 SS), .ref (s1 SS), .ref (s2 SS)])) H ∧ (SX E zc sm SS sp se n) H ∧ (CA E ad sp se al n pg) H ∧ (vS scr sb) H) := by
                                                intro uv_q7 fr_q7 to_q7 huv_q7 hft_q7
                                                have v9_q7 := J.hsp uv_q7 (by omega) (by omega)
                                                have y9_q7 := v9_q7.1.1
                                                have s9_q7 := J.hgr.1 uv_q7 (by omega) (by omega)
                                                refine g_sz (fun zs91 _ => ?_)
                                                refine g_ex (P := zq ≤ zs91) (fun _ h => by have y1_q7 := h.1; have y2_q7 := h.2.1; omega) (fun hzs91 => ?_)
                                                refine g_w (Wp' := fun H => H.size = zs91 ∧ va_at E.1 vwCl (sm, .inr (2, [.int (iI pg), .ref (s3 SS), .ref (s1 SS), .ref (s2 SS)])) H ∧ (SX E zc sm SS sp se n) H ∧ (CA E ad sp se al n pg) H ∧ (vS scr sb) H) (fun _ h => ⟨h.1, h.2.2⟩) ?_
                                                refine g_ex (P := LTS zs91 SS sp n) (fun _ h => SX.lts (FZ.mk h.1 h.2.2.1)) (fun hlt => ?_)
                                                refine g_aload_n S dL_law_1203 rfl 2 rfl ?_
                                                refine g_get S xK (ref := "BookIndexLaw$Sim") hin2_q7 1 (by decide) (show vwCl[2]? = some (RX2, TX2, 4) from rfl) kf38 (fun _ h9 => h9) (fun _ h => h.2.1) rfl dL_law_1204 ?_
                                                refine g_iload S dL_law_1207 8 rfl ?_
                                                refine g_ldR S xK (t := 4) (by decide) (n := n) (f := sB SS) (fun _ h => h.2.2.1.a3) (by omega) dL_law_1209 ?_
                                                refine g_iconst S dL_law_1210 ?_
                                                refine g_newIZ S xK (Wp' := fun H => H.size = zs91 + 1 ∧ va_at E.1 vwCl (sm, .inr (2, [.int (iI pg), .ref (s3 SS), .ref (s1 SS), .ref (s2 SS)])) H ∧ (SX E zc sm SS sp se n) H ∧ (CA E ad sp se al n pg) H ∧ (vS scr sb) H ∧ vI E zs91 2 (fun _ => 0) H) (n := 2) (a := zs91) kaI (by omega) ⟨show kc + 1 ≤ 1032851 by omega, show ks + (2 : Int).toNat ≤ 6002914 by omega⟩ (fun _ h => h.1) (fun _ _ h hv z1 hq => ⟨z1, h.2.1.kept (hq _ (by have w9_q7 := h.2.1.lt; have y9_q7 := h.1; omega)), SX.lw _ _ h.2.2.1 (by have y9_q7 := h.1; omega) (fun q q1 => hq q (by have y9_q7 := h.1; omega)), CA.lw _ _ h.2.2.2.1 (by have y9_q7 := h.1; omega) (fun q q1 => hq q (by have y9_q7 := h.1; omega)), LW.vS _ _ h.2.2.2.2 (by have y9_q7 := h.1; omega) (fun q q1 => hq q (by have y9_q7 := h.1; omega)), hv⟩) dL_law_1211 ?_
                                                refine g_dup S dL_law_1213 rfl ?_
                                                refine g_iconst S dL_law_1214 ?_
                                                refine g_iload S dL_law_1215 9 rfl ?_
                                                refine g_iast S xK (Wp' := fun H => H.size = zs91 + 1 ∧ va_at E.1 vwCl (sm, .inr (2, [.int (iI pg), .ref (s3 SS), .ref (s1 SS), .ref (s2 SS)])) H ∧ (SX E zc sm SS sp se n) H ∧ (CA E ad sp se al n pg) H ∧ (vS scr sb) H ∧ vI E zs91 2 (upI (fun _ => 0) 0 fr_q7) H) (n := (2 : Int).toNat) (F := fun _ => 0) (fun _ h => h.2.2.2.2.2) (by omega) (by omega) ((show zb ≤ _ by omega)) (fun _ _ h hv z1 oq => ⟨z1.trans h.1, h.2.1.kept (oq _ (by omega)), h.2.2.1.keepL hlt (by omega) oq, h.2.2.2.1.kept (fun q q1 => oq q (by have w8_q7 := (hax q q1).2; omega)), h.2.2.2.2.1.kept (oq _ (by omega)), hv⟩) dL_law_1217 ?_
                                                refine g_dup S dL_law_1218 rfl ?_
                                                refine g_iconst S dL_law_1219 ?_
                                                refine g_iload S dL_law_1220 10 rfl ?_
                                                refine g_iast S xK (Wp' := fun H => H.size = zs91 + 1 ∧ va_at E.1 vwCl (sm, .inr (2, [.int (iI pg), .ref (s3 SS), .ref (s1 SS), .ref (s2 SS)])) H ∧ (SX E zc sm SS sp se n) H ∧ (CA E ad sp se al n pg) H ∧ (vS scr sb) H ∧ vI E zs91 2 (upI (upI (fun _ => 0) 0 fr_q7) 1 to_q7) H) (n := (2 : Int).toNat) (F := upI (fun _ => 0) 0 fr_q7) (fun _ h => h.2.2.2.2.2) (by omega) (by omega) ((show zb ≤ _ by omega)) (fun _ _ h hv z1 oq => ⟨z1.trans h.1, h.2.1.kept (oq _ (by omega)), h.2.2.1.keepL hlt (by omega) oq, h.2.2.2.1.kept (fun q q1 => oq q (by have w8_q7 := (hax q q1).2; omega)), h.2.2.2.2.1.kept (oq _ (by omega)), hv⟩) dL_law_1222 ?_
                                                refine g_callSS S xK xO (As := [.ref (sB SS uv_q7), .ref (zs91)]) (st := []) (stk' := [.ref (zs91 + 1)]) (Wp' := fun H => H.size = zs91 + 2 ∧ va_at E.1 vwCl (sm, .inr (2, [.int (iI pg), .ref (s3 SS), .ref (s1 SS), .ref (s2 SS)])) H ∧ (SX E zc sm SS sp se n) H ∧ (CA E ad sp se al n pg) H ∧ (vS scr sb) H ∧ (RW E (zs91 + 1) (apn (sp uv_q7) fr_q7 to_q7) (upI (sR SS uv_q7) (sp uv_q7).1 zs91)) H) (m_X2_with l E (zs91 + 1) (FZ.kp (z := zs91 + 1) (W := fun H => va_at E.1 vwCl (sm, .inr (2, [.int (iI pg), .ref (s3 SS), .ref (s1 SS), .ref (s2 SS)])) H ∧ (SX E zc sm SS sp se n) H ∧ (CA E ad sp se al n pg) H ∧ (vS scr sb) H ∧ vI E zs91 2 (upI (upI (fun _ => 0) 0 fr_q7) 1 to_q7) H)) (sp uv_q7).1 (sR SS uv_q7) (sB SS uv_q7) zs91 (by omega) (fun _ h => (h.out (ST.and (LW.st LW.at) (ST.and (LW.st SX.lw) (ST.and (LW.st CA.lw) (ST.and (LW.st LW.vS) (LW.st LW.at)))))).2.1.b (u := uv_q7) (by omega)) (fun _ h k k0 k1 => ⟨_, _, (h.out (ST.and (LW.st LW.at) (ST.and (LW.st SX.lw) (ST.and (LW.st CA.lw) (ST.and (LW.st LW.vS) (LW.st LW.at)))))).2.1.r (u := uv_q7) (k := k) (by omega) ⟨k0, k1⟩⟩) (fun _ h => ⟨_, _, (h.out (ST.and (LW.st LW.at) (ST.and (LW.st SX.lw) (ST.and (LW.st CA.lw) (ST.and (LW.st LW.vS) (LW.st LW.at)))))).2.2.2.2⟩)) (va_cwS 2 S.2.2.2.2 gL_law_X2_with rfl rfl rfl (by decide +kernel) ⟨Nat.le_of_ble_eq_true rfl, Nat.le_of_ble_eq_true rfl⟩) rfl rfl rfl (Nat.le_of_ble_eq_true rfl) ⟨show kc + 1 + 1 ≤ 1032851 by omega, show ks + (2 : Int).toNat + 31 ≤ 6002914 by omega⟩ (fun q9 (hq9 : zs91 + 1 ≤ q9) => (by show zb ≤ q9; omega)) (fun _ h => ⟨h.1, FZ.mk h.1 h.2⟩) (fun _ _ _ h _ _ => ⟨h.1, (h.2.2.out (ST.and (LW.st LW.at) (ST.and (LW.st SX.lw) (ST.and (LW.st CA.lw) (ST.and (LW.st LW.vS) (LW.st LW.at)))))).1, (h.2.2.out (ST.and (LW.st LW.at) (ST.and (LW.st SX.lw) (ST.and (LW.st CA.lw) (ST.and (LW.st LW.vS) (LW.st LW.at)))))).2.1, (h.2.2.out (ST.and (LW.st LW.at) (ST.and (LW.st SX.lw) (ST.and (LW.st CA.lw) (ST.and (LW.st LW.vS) (LW.st LW.at)))))).2.2.1, (h.2.2.out (ST.and (LW.st LW.at) (ST.and (LW.st SX.lw) (ST.and (LW.st CA.lw) (ST.and (LW.st LW.vS) (LW.st LW.at)))))).2.2.2.1, RW.push ((h.2.2.out (ST.and (LW.st LW.at) (ST.and (LW.st SX.lw) (ST.and (LW.st CA.lw) (ST.and (LW.st LW.vS) (LW.st LW.at)))))).2.1.rw (u := uv_q7) (by omega)) (by have w9_q7 := (h.2.2.out (ST.and (LW.st LW.at) (ST.and (LW.st SX.lw) (ST.and (LW.st CA.lw) (ST.and (LW.st LW.vS) (LW.st LW.at)))))).2.2.2.2; rw [pr_m] at w9_q7; exact w9_q7) h.2.1⟩) dL_law_1223 ?_
                                                refine g_callSR S xK xO (As := [.ref (zs91 + 1)]) (st := []) (Wn := fun cy H => ∃ (zx : Nat) (Gb : SpT) (rb : Int → Nat), (VL Gb pg ∧ ∀ q0, cov Gb q0 ↔ cov (apn (sp uv_q7) fr_q7 to_q7) q0) ∧ H.size = zx ∧ (MR E (zs91 + 2) cy Gb rb) H ∧ va_at E.1 vwCl (sm, .inr (2, [.int (iI pg), .ref (s3 SS), .ref (s1 SS), .ref (s2 SS)])) H ∧ (FZ (zs91 + 2) (SX E zc sm SS sp se n)) H ∧ (CA E ad sp se al n pg) H ∧ (vS scr sb) H) (m_X2_merged l E (zs91 + 2) (FZ.kp (z := zs91 + 2) (W := fun H => va_at E.1 vwCl (sm, .inr (2, [.int (iI pg), .ref (s3 SS), .ref (s1 SS), .ref (s2 SS)])) H ∧ (SX E zc sm SS sp se n) H ∧ (CA E ad sp se al n pg) H ∧ (vS scr sb) H ∧ (RW E (zs91 + 1) (apn (sp uv_q7) fr_q7 to_q7) (upI (sR SS uv_q7) (sp uv_q7).1 zs91)) H)) (zs91 + 1) (apn (sp uv_q7) fr_q7 to_q7) (upI (sR SS uv_q7) (sp uv_q7).1 zs91) pg (fun _ h => (h.out (ST.and (LW.st LW.at) (ST.and (LW.st SX.lw) (ST.and (LW.st CA.lw) (ST.and (LW.st LW.vS) (LW.st RW.lw)))))).2.2.2.2) (⟨by show 0 ≤ (sp uv_q7).1 + 1; omega, by show (sp uv_q7).1 + 1 ≤ 16; omega⟩) (apn_rows v9_q7.1 (by omega)) (by omega)) (va_cwS 1 S.2.2.2.2 gL_law_X2_merged rfl rfl rfl (by decide +kernel) ⟨Nat.le_of_ble_eq_true rfl, Nat.le_of_ble_eq_true rfl⟩) rfl rfl (Nat.le_of_ble_eq_true rfl) ⟨show kc + 1 + 1 + 34 ≤ 1032851 by omega, show ks + (2 : Int).toNat + 31 + 544 ≤ 6002914 by omega⟩ (fun q9 (hq9 : zs91 + 2 ≤ q9) => (by show zb ≤ q9; omega)) (fun _ h => ⟨h.1, FZ.mk h.1 h.2⟩) (fun cy _ _ _ h _ _ => by obtain ⟨zx, Gb, rb, h1, h2, h3, h4⟩ := h; exact ⟨zx, Gb, rb, h1, h2, h3, (h4.out (ST.and (LW.st LW.at) (ST.and (LW.st SX.lw) (ST.and (LW.st CA.lw) (ST.and (LW.st LW.vS) (LW.st RW.lw)))))).1, (FZ.imp h4 (fun _ _ h => h.2.1)), (h4.out (ST.and (LW.st LW.at) (ST.and (LW.st SX.lw) (ST.and (LW.st CA.lw) (ST.and (LW.st LW.vS) (LW.st RW.lw)))))).2.2.1, (h4.out (ST.and (LW.st LW.at) (ST.and (LW.st SX.lw) (ST.and (LW.st CA.lw) (ST.and (LW.st LW.vS) (LW.st RW.lw)))))).2.2.2.1⟩) dL_law_1226 (fun cy => ?_)
                                                refine g_exU (fun zx => ?_)
                                                refine g_exU (fun Gb => ?_)
                                                refine g_exU (fun rb => ?_)
                                                refine g_preP (fun hGb => ?_)
                                                refine g_ex (P := zs91 + 2 ≤ cy ∧ cy < zx) (fun _ h => ⟨h.2.1.2.1.2, by have w8_q7 : cy < _ := h.2.1.1.1.lt; have y8_q7 := h.1; omega⟩) (fun hmb => ?_)
                                                have gb0_q7 := hGb.1.1
                                                have gb1_q7 := hGb.1.2.1
                                                refine g_astore S (lv' := [(18, .ref (cy)), (0, .ref (sb)), (1, .ref (ad 0)), (2, .ref (sm)), (3, .int (iI tm_q7)), (4, .int (iI xx_q7)), (5, .long (DIG sp se al n pg)), (7, .int (iI n)), (8, .int (iI pg)), (15, .int (iI uv_q7)), (16, .int (iI fr_q7)), (17, .int (iI to_q7))]) dL_law_1229 (Nat.le_of_ble_eq_true rfl) rfl ?_
                                                refine g_aload_n S dL_law_1231 rfl 3 rfl ?_
                                                refine g_get S xK (ref := "BookIndexLaw$Sim") hin2_q7 2 (by decide) (show vwCl[2]? = some (RX2, TX2, 4) from rfl) kf9 (fun _ h9 => h9) (fun _ h => h.2.2.1) rfl dL_law_1232 ?_
                                                refine g_iload S dL_law_1235 9 rfl ?_
                                                refine g_iald S xK (n := (n : Int).toNat) (F := se) (fun _ h => (h.2.2.2.1.out (LW.st SX.lw)).a1) (by omega) (by omega) dL_law_1237 ?_
                                                refine g_if_ge S (tgt := 1335) dL_law_1238 (by decide) (by omega) (fun c1238_q7 => ?_) (fun c1238_q7 => ?_)
                                                · skip
                                                  refine g_iinc S (lv' := [(3, .int (iI (tm_q7 + 1))), (18, .ref (cy)), (0, .ref (sb)), (1, .ref (ad 0)), (2, .ref (sm)), (4, .int (iI xx_q7)), (5, .long (DIG sp se al n pg)), (7, .int (iI n)), (8, .int (iI pg)), (15, .int (iI uv_q7)), (16, .int (iI fr_q7)), (17, .int (iI to_q7))]) dL_law_1335 4 rfl (Nat.le_of_ble_eq_true rfl) rfl ?_
                                                  refine g_goto S (tgt := 22) dL_law_1338 (by decide) ?_
                                                  refine g_lv [2, 3, 4, 0] rfl ?_
                                                  refine g_w (Wp' := fun H => (JS E ad zc sm 2) H ∧ (vS scr sb) H) (fun _ h => ⟨⟨SS, sp, se, al, n, pg, ⟨J, hal, hn2⟩, h.2.2.1, h.2.2.2.1.out (LW.st SX.lw), h.2.2.2.2.1⟩, h.2.2.2.2.2⟩) ?_
                                                  exact ihL22 (tm_q7 + 1) (kc + 1 + 1 + 34) (ks + (2 : Int).toNat + 31 + 544) (by omega) (by omega) (by omega)
                                                · skip
                                                  refine g_aload S dL_law_1241 0 rfl ?_
                                                  refine g_lenR S xK (t := 3) (by decide) (n := Gb.1) (f := rb) (fun _ h => h.2.1.1.1) (by omega) dL_law_1243 ?_
                                                  refine g_bipush S dL_law_1244 (by decide) ?_
                                                  refine g_icmp_le S (tgt := 1252) dL_law_1246 (by decide) (by omega) (fun c1246_q7 => ?_) (fun c1246_q7 => ?_)
                                                  · skip
                                                    refine g_aload_n S dL_law_1252 rfl 3 rfl ?_
                                                    refine g_get S xK (ref := "BookIndexLaw$Sim") hin2_q7 1 (by decide) (show vwCl[2]? = some (RX2, TX2, 4) from rfl) kf38 (fun _ h9 => h9) (fun _ h => h.2.2.1) rfl dL_law_1253 ?_
                                                    refine g_iload S dL_law_1256 9 rfl ?_
                                                    refine g_aload S dL_law_1258 0 rfl ?_
                                                    have hso_q7 : sm ≠ s3 SS := fun e => absurd (show sO SS sm = -2 by rw [e]; exact hT.2.2.1) (by rw [hT.2.1]; decide)
                                                    refine g_ex (P := s3 SS < zs91 + 2) (fun _ h => (SX.lts h.2.2.2.1).1) (fun hl3 => ?_)
                                                    refine g_stR S xK xO (t := 4) (by decide) (Wp' := fun H => ∃ S2 : SA, SD SS S2 ∧ H.size = zx ∧ va_at E.1 vwCl (sm, .inr (2, [.int (iI pg), .ref (s3 S2), .ref (s1 S2), .ref (s2 S2)])) H ∧ (SX E zc sm S2 (upI sp uv_q7 Gb) se n) H ∧ (CA E ad sp se al n pg) H ∧ (vS scr sb) H ∧ vR E 3 cy Gb.1 rb H) (n := n) (f := sB SS) (fun _ h => (h.2.2.2.1.out (LW.st SX.lw)).a3) (fun _ h => ⟨_, _, h.2.1.1.1⟩) (by omega) (show zb ≤ s3 SS by have w7_q7 := hT.g3; omega) (fun _ _ h hv z1 oq => by obtain ⟨S9, hd9, hs9⟩ := SX.setSp h.2.2.2.1 h.2.1 (by omega) (u := uv_q7) (by omega) (by omega) hv oq; exact ⟨S9, hd9, z1.trans h.1, by rw [hd9.1, hd9.2.1, hd9.2.2.1]; exact h.2.2.1.kept (oq _ hso_q7), hs9, h.2.2.2.2.1.kept (fun q q1 => oq q (by have w8_q7 := (hax q q1).2; have w7_q7 := hT.g3; omega)), h.2.2.2.2.2.kept (oq _ (by show sb ≠ s3 SS; have w7_q7 := hT.g3; omega)), h.2.1.1.1.kept (oq _ (by show cy ≠ s3 SS; omega))⟩) dL_law_1260 ?_
                                                    refine g_exU (fun S2 => ?_)
                                                    refine g_preP (fun hS2 => ?_)
                                                    refine g_aload_n S dL_law_1261 rfl 2 rfl ?_
                                                    refine g_iload S dL_law_1262 9 rfl ?_
                                                    refine g_iload S dL_law_1264 10 rfl ?_
                                                    refine g_iload S dL_law_1266 11 rfl ?_
                                                    have J2_q7 := jv_pages J (u := uv_q7) (G := Gb) (by omega) ⟨hGb.1, by omega⟩ (fun w9_q7 => absurd (show se uv_q7 = -1 by omega) w9_q7)
                                                    refine g_callV S xK (As := [.int (iI uv_q7), .int (iI fr_q7), .int (iI to_q7)]) (st := []) (stk' := [.int (iI Gb.1)]) (Wp' := fun H => zx ≤ H.size ∧ va_at E.1 vwCl (sm, .inr (2, [.int (iI pg), .ref (s3 S2), .ref (s1 S2), .ref (s2 S2)])) H ∧ (SX E zc sm S2 (upI sp uv_q7 Gb) se n) H ∧ (CA E ad (upI sp uv_q7 Gb) se al n pg) H ∧ (vS scr sb) H ∧ vR E 3 cy Gb.1 rb H) (r := (RX1, TX1, 9)) (q_addPages l E hj J uv_q7 fr_q7 to_q7 Gb (by omega) (by omega) (by omega) ⟨hGb.1, fun q => by rw [hGb.2 q, apn_cov v9_q7.1.1]⟩ (by omega)) (cwV 3 S.2.2.2.2 gL_law_X1_addPages rfl rfl rfl (by decide +kernel) ⟨Nat.le_of_ble_eq_true rfl, Nat.le_of_ble_eq_true rfl⟩) rfl rfl rfl rfl (Nat.le_of_ble_eq_true rfl) ⟨show kc + 1 + 1 + 34 + 0 ≤ 1032851 by omega, show ks + (2 : Int).toNat + 31 + 544 + 0 ≤ 6002914 by omega⟩ (fun q9 h9 => (hax q9 h9).1) (fun _ h => h.2.2.2.1.cx) (fun _ h => h.2.2.2.1) (fun _ _ h h2 hle_q7 hq => ⟨Nat.le_trans (Nat.le_of_eq h.1.symm) hle_q7, h.2.1.kept (hq _ h.2.1.lt (fun w9_q7 => by have w8_q7 := hax _ w9_q7; omega)), h.2.2.1.far (fun q q1 q2 => hq q q1 (fun w9_q7 => by have w8_q7 := (hax q w9_q7).2; omega)), h2, h.2.2.2.2.1.kept (hq _ h.2.2.2.2.1.lt (fun w9_q7 => by have w8_q7 := hax _ w9_q7; omega)), h.2.2.2.2.2.kept (hq _ h.2.2.2.2.2.lt (fun w9_q7 => by have w8_q7 := hax _ w9_q7; omega))⟩) dL_law_1268 ?_
                                                    refine g_aload S dL_law_1271 0 rfl ?_
                                                    refine g_lenR S xK (t := 3) (by decide) (n := Gb.1) (f := rb) (fun _ h => h.2.2.2.2.2) (by omega) dL_law_1273 ?_
                                                    refine g_icmp_eq S (tgt := 1279) dL_law_1274 (by decide) (by omega) (fun c1274_q7 => ?_) (fun c1274_q7 => ?_)
                                                    · skip
                                                      refine g_aload_n S dL_law_1279 rfl 2 rfl ?_
                                                      refine g_callV S xK (As := []) (st := []) (stk' := [.long (DIG (upI sp uv_q7 Gb) se al n pg)]) (Wp' := fun H => zx ≤ H.size ∧ va_at E.1 vwCl (sm, .inr (2, [.int (iI pg), .ref (s3 S2), .ref (s1 S2), .ref (s2 S2)])) H ∧ (SX E zc sm S2 (upI sp uv_q7 Gb) se n) H ∧ (CA E ad (upI sp uv_q7 Gb) se al n pg) H ∧ (vS scr sb) H ∧ vR E 3 cy Gb.1 rb H) (r := (RX1, TX1, 9)) (q_digest l E hj J2_q7  ) (cwV 0 S.2.2.2.2 gL_law_X1_digest rfl rfl rfl (by decide +kernel) ⟨Nat.le_of_ble_eq_true rfl, Nat.le_of_ble_eq_true rfl⟩) rfl rfl rfl rfl (Nat.le_of_ble_eq_true rfl) ⟨show kc + 1 + 1 + 34 + 0 ≤ 1032851 by omega, show ks + (2 : Int).toNat + 31 + 544 + 0 ≤ 6002914 by omega⟩ (fun q9 h9 => (hax q9 h9).1) (fun _ h => h.2.2.2.1.cx) (fun _ h => h.2.2.2.1) (fun _ _ h h2 hle_q7 hq => ⟨Nat.le_trans h.1 hle_q7, h.2.1.kept (hq _ h.2.1.lt (fun w9_q7 => by have w8_q7 := hax _ w9_q7; omega)), h.2.2.1.far (fun q q1 q2 => hq q q1 (fun w9_q7 => by have w8_q7 := (hax q w9_q7).2; omega)), h2, h.2.2.2.2.1.kept (hq _ h.2.2.2.2.1.lt (fun w9_q7 => by have w8_q7 := hax _ w9_q7; omega)), h.2.2.2.2.2.kept (hq _ h.2.2.2.2.2.lt (fun w9_q7 => by have w8_q7 := hax _ w9_q7; omega))⟩) dL_law_1280 ?_
                                                      refine g_lstore S (lv' := [(19, .long (DIG (upI sp uv_q7 Gb) se al n pg)), (18, .ref (cy)), (0, .ref (sb)), (1, .ref (ad 0)), (2, .ref (sm)), (3, .int (iI tm_q7)), (4, .int (iI xx_q7)), (5, .long (DIG sp se al n pg)), (7, .int (iI n)), (8, .int (iI pg)), (15, .int (iI uv_q7)), (16, .int (iI fr_q7)), (17, .int (iI to_q7))]) dL_law_1283 (Nat.le_of_ble_eq_true rfl) rfl ?_
                                                      refine g_aload_n S dL_law_1285 rfl 3 rfl ?_
                                                      refine g_iload S dL_law_1286 10 rfl ?_
                                                      refine g_iload S dL_law_1288 11 rfl ?_
                                                      refine g_iload S dL_law_1290 12 rfl ?_
                                                      refine g_callV S xK (As := [.int (iI uv_q7), .int (iI fr_q7), .int (iI to_q7)]) (st := []) (stk' := [.int (iI Gb.1)]) (Wp' := fun H => zx ≤ H.size ∧ va_at E.1 vwCl (sm, .inr (2, [.int (iI pg), .ref (s3 S2), .ref (s1 S2), .ref (s2 S2)])) H ∧ (SX E zc sm S2 (upI sp uv_q7 Gb) se n) H ∧ (CA E ad (upI (upI sp uv_q7 Gb) uv_q7 Gb) se al n pg) H ∧ (vS scr sb) H ∧ vR E 3 cy Gb.1 rb H) (r := (RX1, TX1, 9)) (q_addPages l E hj J2_q7 uv_q7 fr_q7 to_q7 Gb (by omega) (by omega) (by omega) ⟨hGb.1, fun q => by rw [upI_s, hGb.2 q, apn_cov v9_q7.1.1]; exact ⟨fun w => Or.inl w, fun w => w.elim id Or.inr⟩⟩ (by omega)) (cwV 3 S.2.2.2.2 gL_law_X1_addPages rfl rfl rfl (by decide +kernel) ⟨Nat.le_of_ble_eq_true rfl, Nat.le_of_ble_eq_true rfl⟩) rfl rfl rfl rfl (Nat.le_of_ble_eq_true rfl) ⟨show kc + 1 + 1 + 34 + 0 ≤ 1032851 by omega, show ks + (2 : Int).toNat + 31 + 544 + 0 ≤ 6002914 by omega⟩ (fun q9 h9 => (hax q9 h9).1) (fun _ h => h.2.2.2.1.cx) (fun _ h => h.2.2.2.1) (fun _ _ h h2 hle_q7 hq => ⟨Nat.le_trans h.1 hle_q7, h.2.1.kept (hq _ h.2.1.lt (fun w9_q7 => by have w8_q7 := hax _ w9_q7; omega)), h.2.2.1.far (fun q q1 q2 => hq q q1 (fun w9_q7 => by have w8_q7 := (hax q w9_q7).2; omega)), h2, h.2.2.2.2.1.kept (hq _ h.2.2.2.2.1.lt (fun w9_q7 => by have w8_q7 := hax _ w9_q7; omega)), h.2.2.2.2.2.kept (hq _ h.2.2.2.2.2.lt (fun w9_q7 => by have w8_q7 := hax _ w9_q7; omega))⟩) dL_law_1292 ?_
                                                      refine g_w (Wp' := fun H => zx ≤ H.size ∧ va_at E.1 vwCl (sm, .inr (2, [.int (iI pg), .ref (s3 S2), .ref (s1 S2), .ref (s2 S2)])) H ∧ (SX E zc sm S2 (upI sp uv_q7 Gb) se n) H ∧ (CA E ad (upI sp uv_q7 Gb) se al n pg) H ∧ (vS scr sb) H ∧ vR E 3 cy Gb.1 rb H) (fun _ h => ⟨h.1, h.2.1, h.2.2.1, by have w9_q7 := h.2.2.2.1; rw [upI_2] at w9_q7; exact w9_q7, h.2.2.2.2.1, h.2.2.2.2.2⟩) ?_
                                                      refine g_aload S dL_law_1295 1 rfl ?_
                                                      refine g_lenR S xK (t := 3) (by decide) (n := Gb.1) (f := rb) (fun _ h => h.2.2.2.2.2) (by omega) dL_law_1297 ?_
                                                      refine g_icmp_ne S (tgt := 1333) dL_law_1298 (by decide) (by omega) (fun c1298_q7 => ?_) (fun c1298_q7 => ?_)
                                                      · skip
                                                        exact absurd c1298_q7 (by omega)
                                                      · skip
                                                        refine g_aload_n S dL_law_1301 rfl 3 rfl ?_
                                                        refine g_callV S xK (As := []) (st := []) (stk' := [.long (DIG (upI sp uv_q7 Gb) se al n pg)]) (Wp' := fun H => zx ≤ H.size ∧ va_at E.1 vwCl (sm, .inr (2, [.int (iI pg), .ref (s3 S2), .ref (s1 S2), .ref (s2 S2)])) H ∧ (SX E zc sm S2 (upI sp uv_q7 Gb) se n) H ∧ (CA E ad (upI sp uv_q7 Gb) se al n pg) H ∧ (vS scr sb) H ∧ vR E 3 cy Gb.1 rb H) (r := (RX1, TX1, 9)) (q_digest l E hj J2_q7  ) (cwV 0 S.2.2.2.2 gL_law_X1_digest rfl rfl rfl (by decide +kernel) ⟨Nat.le_of_ble_eq_true rfl, Nat.le_of_ble_eq_true rfl⟩) rfl rfl rfl rfl (Nat.le_of_ble_eq_true rfl) ⟨show kc + 1 + 1 + 34 + 0 ≤ 1032851 by omega, show ks + (2 : Int).toNat + 31 + 544 + 0 ≤ 6002914 by omega⟩ (fun q9 h9 => (hax q9 h9).1) (fun _ h => h.2.2.2.1.cx) (fun _ h => h.2.2.2.1) (fun _ _ h h2 hle_q7 hq => ⟨Nat.le_trans h.1 hle_q7, h.2.1.kept (hq _ h.2.1.lt (fun w9_q7 => by have w8_q7 := hax _ w9_q7; omega)), h.2.2.1.far (fun q q1 q2 => hq q q1 (fun w9_q7 => by have w8_q7 := (hax q w9_q7).2; omega)), h2, h.2.2.2.2.1.kept (hq _ h.2.2.2.2.1.lt (fun w9_q7 => by have w8_q7 := hax _ w9_q7; omega)), h.2.2.2.2.2.kept (hq _ h.2.2.2.2.2.lt (fun w9_q7 => by have w8_q7 := hax _ w9_q7; omega))⟩) dL_law_1302 ?_
                                                        refine g_lload S dL_law_1305 0 rfl ?_
                                                        refine g_lcmpE S rfl dL_law_1307 ?_
                                                        refine g_if_ne S (tgt := 1333) dL_law_1308 (by decide) (by omega) (fun c1308_q7 => ?_) (fun c1308_q7 => ?_)
                                                        · skip
                                                          exact absurd c1308_q7 (by decide)
                                                        · skip
                                                          have i1_q7 : pI (cov (upI sp uv_q7 Gb uv_q7) fr_q7) = 1 := pI_t (by rw [upI_s, hGb.2, apn_cov v9_q7.1.1]; exact Or.inr (by omega))
                                                          have i2_q7 : pI (cov (upI sp uv_q7 Gb uv_q7) to_q7) = 1 := pI_t (by rw [upI_s, hGb.2, apn_cov v9_q7.1.1]; exact Or.inr (by omega))
                                                          refine g_aload_n S dL_law_1311 rfl 3 rfl ?_
                                                          refine g_iload S dL_law_1312 10 rfl ?_
                                                          refine g_iload S dL_law_1314 11 rfl ?_
                                                          refine g_callV S xK (As := [.int (iI uv_q7), .int (iI fr_q7)]) (st := []) (stk' := [.int (iI (pI (cov (upI sp uv_q7 Gb uv_q7) fr_q7)))]) (Wp' := fun H => zx ≤ H.size ∧ va_at E.1 vwCl (sm, .inr (2, [.int (iI pg), .ref (s3 S2), .ref (s1 S2), .ref (s2 S2)])) H ∧ (SX E zc sm S2 (upI sp uv_q7 Gb) se n) H ∧ (CA E ad (upI sp uv_q7 Gb) se al n pg) H ∧ (vS scr sb) H ∧ vR E 3 cy Gb.1 rb H) (r := (RX1, TX1, 9)) (q_isOn l E hj J2_q7 uv_q7 fr_q7 (by omega) (by omega)) (cwV 2 S.2.2.2.2 gL_law_X1_isOn rfl rfl rfl (by decide +kernel) ⟨Nat.le_of_ble_eq_true rfl, Nat.le_of_ble_eq_true rfl⟩) rfl rfl rfl rfl (Nat.le_of_ble_eq_true rfl) ⟨show kc + 1 + 1 + 34 + 0 ≤ 1032851 by omega, show ks + (2 : Int).toNat + 31 + 544 + 0 ≤ 6002914 by omega⟩ (fun q9 h9 => (hax q9 h9).1) (fun _ h => h.2.2.2.1.cx) (fun _ h => h.2.2.2.1) (fun _ _ h h2 hle_q7 hq => ⟨Nat.le_trans h.1 hle_q7, h.2.1.kept (hq _ h.2.1.lt (fun w9_q7 => by have w8_q7 := hax _ w9_q7; omega)), h.2.2.1.far (fun q q1 q2 => hq q q1 (fun w9_q7 => by have w8_q7 := (hax q w9_q7).2; omega)), h2, h.2.2.2.2.1.kept (hq _ h.2.2.2.2.1.lt (fun w9_q7 => by have w8_q7 := hax _ w9_q7; omega)), h.2.2.2.2.2.kept (hq _ h.2.2.2.2.2.lt (fun w9_q7 => by have w8_q7 := hax _ w9_q7; omega))⟩) dL_law_1316 ?_
                                                          refine g_if_eq S (tgt := 1333) dL_law_1319 (by decide) (by omega) (fun c1319_q7 => ?_) (fun c1319_q7 => ?_)
                                                          · skip
                                                            exact absurd c1319_q7 (by omega)
                                                          · skip
                                                            refine g_aload_n S dL_law_1322 rfl 3 rfl ?_
                                                            refine g_iload S dL_law_1323 10 rfl ?_
                                                            refine g_iload S dL_law_1325 12 rfl ?_
                                                            refine g_callV S xK (As := [.int (iI uv_q7), .int (iI to_q7)]) (st := []) (stk' := [.int (iI (pI (cov (upI sp uv_q7 Gb uv_q7) to_q7)))]) (Wp' := fun H => zx ≤ H.size ∧ va_at E.1 vwCl (sm, .inr (2, [.int (iI pg), .ref (s3 S2), .ref (s1 S2), .ref (s2 S2)])) H ∧ (SX E zc sm S2 (upI sp uv_q7 Gb) se n) H ∧ (CA E ad (upI sp uv_q7 Gb) se al n pg) H ∧ (vS scr sb) H ∧ vR E 3 cy Gb.1 rb H) (r := (RX1, TX1, 9)) (q_isOn l E hj J2_q7 uv_q7 to_q7 (by omega) (by omega)) (cwV 2 S.2.2.2.2 gL_law_X1_isOn rfl rfl rfl (by decide +kernel) ⟨Nat.le_of_ble_eq_true rfl, Nat.le_of_ble_eq_true rfl⟩) rfl rfl rfl rfl (Nat.le_of_ble_eq_true rfl) ⟨show kc + 1 + 1 + 34 + 0 ≤ 1032851 by omega, show ks + (2 : Int).toNat + 31 + 544 + 0 ≤ 6002914 by omega⟩ (fun q9 h9 => (hax q9 h9).1) (fun _ h => h.2.2.2.1.cx) (fun _ h => h.2.2.2.1) (fun _ _ h h2 hle_q7 hq => ⟨Nat.le_trans h.1 hle_q7, h.2.1.kept (hq _ h.2.1.lt (fun w9_q7 => by have w8_q7 := hax _ w9_q7; omega)), h.2.2.1.far (fun q q1 q2 => hq q q1 (fun w9_q7 => by have w8_q7 := (hax q w9_q7).2; omega)), h2, h.2.2.2.2.1.kept (hq _ h.2.2.2.2.1.lt (fun w9_q7 => by have w8_q7 := hax _ w9_q7; omega)), h.2.2.2.2.2.kept (hq _ h.2.2.2.2.2.lt (fun w9_q7 => by have w8_q7 := hax _ w9_q7; omega))⟩) dL_law_1327 ?_
                                                            refine g_if_ne S (tgt := 1335) dL_law_1330 (by decide) (by omega) (fun c1330_q7 => ?_) (fun c1330_q7 => ?_)
                                                            · skip
                                                              refine g_iinc S (lv' := [(3, .int (iI (tm_q7 + 1))), (19, .long (DIG (upI sp uv_q7 Gb) se al n pg)), (18, .ref (cy)), (0, .ref (sb)), (1, .ref (ad 0)), (2, .ref (sm)), (4, .int (iI xx_q7)), (5, .long (DIG sp se al n pg)), (7, .int (iI n)), (8, .int (iI pg)), (15, .int (iI uv_q7)), (16, .int (iI fr_q7)), (17, .int (iI to_q7))]) dL_law_1335 5 rfl (Nat.le_of_ble_eq_true rfl) rfl ?_
                                                              refine g_goto S (tgt := 22) dL_law_1338 (by decide) ?_
                                                              refine g_lv [3, 4, 5, 0] rfl ?_
                                                              refine g_w (Wp' := fun H => (JS E ad zc sm 2) H ∧ (vS scr sb) H) (fun _ h => ⟨⟨S2, upI sp uv_q7 Gb, se, al, n, pg, ⟨J2_q7, al2_sd hal hS2, hn2⟩, h.2.1, h.2.2.1, h.2.2.2.1⟩, h.2.2.2.2.1⟩) ?_
                                                              exact ihL22 (tm_q7 + 1) (kc + 1 + 1 + 34) (ks + (2 : Int).toNat + 31 + 544) (by omega) (by omega) (by omega)
                                                            · skip
                                                              exact absurd c1330_q7 (by omega)
                                                    · skip
                                                      exact absurd c1274_q7 (by omega)
                                                  · skip
                                                    refine g_goto S (tgt := 1335) dL_law_1249 (by decide) ?_
                                                    refine g_iinc S (lv' := [(3, .int (iI (tm_q7 + 1))), (18, .ref (cy)), (0, .ref (sb)), (1, .ref (ad 0)), (2, .ref (sm)), (4, .int (iI xx_q7)), (5, .long (DIG sp se al n pg)), (7, .int (iI n)), (8, .int (iI pg)), (15, .int (iI uv_q7)), (16, .int (iI fr_q7)), (17, .int (iI to_q7))]) dL_law_1335 4 rfl (Nat.le_of_ble_eq_true rfl) rfl ?_
                                                    refine g_goto S (tgt := 22) dL_law_1338 (by decide) ?_
                                                    refine g_lv [2, 3, 4, 0] rfl ?_
                                                    refine g_w (Wp' := fun H => (JS E ad zc sm 2) H ∧ (vS scr sb) H) (fun _ h => ⟨⟨SS, sp, se, al, n, pg, ⟨J, hal, hn2⟩, h.2.2.1, h.2.2.2.1.out (LW.st SX.lw), h.2.2.2.2.1⟩, h.2.2.2.2.2⟩) ?_
                                                    exact ihL22 (tm_q7 + 1) (kc + 1 + 1 + 34) (ks + (2 : Int).toNat + 31 + 544) (by omega) (by omega) (by omega)
                                              refine g_lv [3, 4, 5, 6, 7, 8, 9, 10, 2, 1, 0] rfl ?_
                                              exact L1203 (blw (shI xx_q7 3) n) (1 + blw (shI xx_q7 5) pg) (min pg (1 + blw (shI xx_q7 5) pg + blw (shI xx_q7 7) 5)) (by omega) (by omega)
                                            refine g_iload S dL_law_1117 8 rfl ?_
                                            refine g_sipush S dL_law_1119 (by decide) ?_
                                            refine g_icmp_ge S (tgt := 1160) dL_law_1122 (by decide) (by omega) (fun c1122_q7 => ?_) (fun c1122_q7 => ?_)
                                            · skip
                                              refine g_lv [1, 2, 3, 4, 5, 6, 7, 8] rfl ?_
                                              exact L1160  
                                            · skip
                                              refine g_aload_n S dL_law_1125 rfl 2 rfl ?_
                                              refine g_iload S dL_law_1126 0 rfl ?_
                                              refine g_iconst S dL_law_1128 ?_
                                              have io9_q7 := in_out J (q := 1 + blw (shI xx_q7 4) (pg + 1)) (by omega)
                                              have J1_q7 := jv_in J (q := 1 + blw (shI xx_q7 4) (pg + 1)) (mn := 1) (by omega)
                                              refine g_callV S xK (As := [.int (iI (1 + blw (shI xx_q7 4) (pg + 1))), .int (iI 1)]) (st := []) (stk' := [.int (iI (pg + 1))]) (Wp' := fun H => zq ≤ H.size ∧ va_at E.1 vwCl (sm, .inr (2, [.int (iI pg), .ref (s3 SS), .ref (s1 SS), .ref (s2 SS)])) H ∧ (SX E zc sm SS sp se n) H ∧ (CA E ad (fun i => mvd (sp i) (1 + blw (shI xx_q7 4) (pg + 1)) 1 (sp i).1) se al n (pg + 1)) H ∧ (vS scr sb) H) (r := (RX1, TX1, 9)) (q_putIn l E hj J (1 + blw (shI xx_q7 4) (pg + 1)) 1 (by omega)) (cwV 2 S.2.2.2.2 gL_law_X1_putIn rfl rfl rfl (by decide +kernel) ⟨Nat.le_of_ble_eq_true rfl, Nat.le_of_ble_eq_true rfl⟩) rfl rfl rfl rfl (Nat.le_of_ble_eq_true rfl) ⟨show kc + 0 ≤ 1032851 by omega, show ks + 0 ≤ 6002914 by omega⟩ (fun q9 h9 => (hax q9 h9).1) (fun _ h => h.2.2.2.1.cx) (fun _ h => h.2.2.2.1) (fun _ _ h h2 hle_q7 hq => ⟨Nat.le_trans h.1 hle_q7, h.2.1.kept (hq _ h.2.1.lt (fun w9_q7 => by have w8_q7 := hax _ w9_q7; omega)), h.2.2.1.far (fun q q1 q2 => hq q q1 (fun w9_q7 => by have w8_q7 := (hax q w9_q7).2; omega)), h2, h.2.2.2.2.kept (hq _ h.2.2.2.2.lt (fun w9_q7 => by have w8_q7 := hax _ w9_q7; omega))⟩) dL_law_1129 ?_
                                              refine g_iload S dL_law_1132 8 rfl ?_
                                              refine g_iconst S dL_law_1134 ?_
                                              refine g_iadd S dL_law_1135 ?_
                                              refine g_icmp_ne S (tgt := 1158) dL_law_1136 (by decide) (by omega) (fun c1136_q7 => ?_) (fun c1136_q7 => ?_)
                                              · skip
                                                exact absurd c1136_q7 (by omega)
                                              · skip
                                                refine g_aload_n S dL_law_1139 rfl 2 rfl ?_
                                                refine g_iload S dL_law_1140 0 rfl ?_
                                                have ch9_q7 := CHN_b (fun i => mvd (sp i) (1 + blw (shI xx_q7 4) (pg + 1)) 1 (sp i).1) (n := n) (1 + blw (shI xx_q7 4) (pg + 1)) hn_q7.1
                                                refine g_callV S xK (As := [.int (iI (1 + blw (shI xx_q7 4) (pg + 1)))]) (st := []) (stk' := [.int (iI (CHN (fun i => mvd (sp i) (1 + blw (shI xx_q7 4) (pg + 1)) 1 (sp i).1) n (1 + blw (shI xx_q7 4) (pg + 1))))]) (Wp' := fun H => zq ≤ H.size ∧ va_at E.1 vwCl (sm, .inr (2, [.int (iI pg), .ref (s3 SS), .ref (s1 SS), .ref (s2 SS)])) H ∧ (SX E zc sm SS sp se n) H ∧ (CA E ad sp se al n (pg + 1 - 1)) H ∧ (vS scr sb) H) (r := (RX1, TX1, 9)) (q_takeOut l E hj J1_q7 (1 + blw (shI xx_q7 4) (pg + 1)) sp (by omega) io9_q7 (fun i i0 i1_q7 => (J.hre i i0 i1_q7).1)) (cwV 1 S.2.2.2.2 gL_law_X1_takeOut rfl rfl rfl (by decide +kernel) ⟨Nat.le_of_ble_eq_true rfl, Nat.le_of_ble_eq_true rfl⟩) rfl rfl rfl rfl (Nat.le_of_ble_eq_true rfl) ⟨show kc + 0 ≤ 1032851 by omega, show ks + 0 ≤ 6002914 by omega⟩ (fun q9 h9 => (hax q9 h9).1) (fun _ h => h.2.2.2.1.cx) (fun _ h => h.2.2.2.1) (fun _ _ h h2 hle_q7 hq => ⟨Nat.le_trans h.1 hle_q7, h.2.1.kept (hq _ h.2.1.lt (fun w9_q7 => by have w8_q7 := hax _ w9_q7; omega)), h.2.2.1.far (fun q q1 q2 => hq q q1 (fun w9_q7 => by have w8_q7 := (hax q w9_q7).2; omega)), h2, h.2.2.2.2.kept (hq _ h.2.2.2.2.lt (fun w9_q7 => by have w8_q7 := hax _ w9_q7; omega))⟩) dL_law_1142 ?_
                                                refine g_if_lt S (tgt := 1158) dL_law_1145 (by decide) (by omega) (fun c1145_q7 => ?_) (fun c1145_q7 => ?_)
                                                · skip
                                                  exact absurd c1145_q7 (by omega)
                                                · skip
                                                  refine g_w (Wp' := fun H => zq ≤ H.size ∧ va_at E.1 vwCl (sm, .inr (2, [.int (iI pg), .ref (s3 SS), .ref (s1 SS), .ref (s2 SS)])) H ∧ (SX E zc sm SS sp se n) H ∧ (CA E ad sp se al n pg) H ∧ (vS scr sb) H) (fun _ h => ⟨h.1, h.2.1, h.2.2.1, by have w9_q7 := h.2.2.2.1; rw [show pg + 1 - 1 = pg by omega] at w9_q7; exact w9_q7, h.2.2.2.2⟩) ?_
                                                  refine g_aload_n S dL_law_1148 rfl 2 rfl ?_
                                                  refine g_callV S xK (As := []) (st := []) (stk' := [.long (DIG sp se al n pg)]) (Wp' := fun H => zq ≤ H.size ∧ va_at E.1 vwCl (sm, .inr (2, [.int (iI pg), .ref (s3 SS), .ref (s1 SS), .ref (s2 SS)])) H ∧ (SX E zc sm SS sp se n) H ∧ (CA E ad sp se al n pg) H ∧ (vS scr sb) H) (r := (RX1, TX1, 9)) (q_digest l E hj J  ) (cwV 0 S.2.2.2.2 gL_law_X1_digest rfl rfl rfl (by decide +kernel) ⟨Nat.le_of_ble_eq_true rfl, Nat.le_of_ble_eq_true rfl⟩) rfl rfl rfl rfl (Nat.le_of_ble_eq_true rfl) ⟨show kc + 0 ≤ 1032851 by omega, show ks + 0 ≤ 6002914 by omega⟩ (fun q9 h9 => (hax q9 h9).1) (fun _ h => h.2.2.2.1.cx) (fun _ h => h.2.2.2.1) (fun _ _ h h2 hle_q7 hq => ⟨Nat.le_trans h.1 hle_q7, h.2.1.kept (hq _ h.2.1.lt (fun w9_q7 => by have w8_q7 := hax _ w9_q7; omega)), h.2.2.1.far (fun q q1 q2 => hq q q1 (fun w9_q7 => by have w8_q7 := (hax q w9_q7).2; omega)), h2, h.2.2.2.2.kept (hq _ h.2.2.2.2.lt (fun w9_q7 => by have w8_q7 := hax _ w9_q7; omega))⟩) dL_law_1149 ?_
                                                  refine g_lload S dL_law_1152 6 rfl ?_
                                                  refine g_lcmpE S rfl dL_law_1154 ?_
                                                  refine g_if_eq S (tgt := 1160) dL_law_1155 (by decide) (by omega) (fun c1155_q7 => ?_) (fun c1155_q7 => ?_)
                                                  · skip
                                                    refine g_lv [1, 2, 3, 4, 5, 6, 7, 8] rfl ?_
                                                    exact L1160  
                                                  · skip
                                                    exact absurd c1155_q7 (by decide)
                                          · skip
                                            exact absurd c1097_q7 (by decide)
                                    · skip
                                      have s9_q7 := J.hgr.1 aa_q7 (by omega) (by omega)
                                      have er9_q7 := eS_rng J.hgr.1 n.toNat aa_q7 (by omega) (by omega)
                                      have ee9_q7 := eS_end (se := se) n.toNat aa_q7
                                      have es9_q7 := eS_self (se := se) (n := n) (a := aa_q7) (by omega)
                                      have va9_q7 := J.hsp aa_q7 (by omega) (by omega)
                                      have pa9_q7 := pgs_le va9_q7.1 (by omega)
                                      refine g_aload_n S dL_law_503 rfl 1 rfl ?_
                                      refine g_iload S dL_law_504 10 rfl ?_
                                      refine g_callV S xK (As := [.int (iI aa_q7)]) (st := []) (stk' := [.int (iI (eS se n.toNat aa_q7))]) (Wp' := fun H => zq ≤ H.size ∧ va_at E.1 vwCl (sm, .inr (2, [.int (iI pg), .ref (s3 SS), .ref (s1 SS), .ref (s2 SS)])) H ∧ (SX E zc sm SS sp se n) H ∧ (CA E ad sp se al n pg) H ∧ (vS scr sb) H) (r := (RX1, TX1, 9)) (q_leadsTo l E hj J aa_q7 (by omega)) (cwV 1 S.2.2.2.2 gL_law_X1_leadsTo rfl rfl rfl (by decide +kernel) ⟨Nat.le_of_ble_eq_true rfl, Nat.le_of_ble_eq_true rfl⟩) rfl rfl rfl rfl (Nat.le_of_ble_eq_true rfl) ⟨show kc + 0 ≤ 1032851 by omega, show ks + 0 ≤ 6002914 by omega⟩ (fun q9 h9 => (hax q9 h9).1) (fun _ h => h.2.2.2.1.cx) (fun _ h => h.2.2.2.1) (fun _ _ h h2 hle_q7 hq => ⟨Nat.le_trans h.1 hle_q7, h.2.1.kept (hq _ h.2.1.lt (fun w9_q7 => by have w8_q7 := hax _ w9_q7; omega)), h.2.2.1.far (fun q q1 q2 => hq q q1 (fun w9_q7 => by have w8_q7 := (hax q w9_q7).2; omega)), h2, h.2.2.2.2.kept (hq _ h.2.2.2.2.lt (fun w9_q7 => by have w8_q7 := hax _ w9_q7; omega))⟩) dL_law_506 ?_
                                      refine g_istore S (lv' := [(15, .int (iI (eS se n.toNat aa_q7))), (0, .ref (sb)), (1, .ref (ad 0)), (2, .ref (sm)), (3, .int (iI tm_q7)), (4, .int (iI xx_q7)), (5, .long (DIG sp se al n pg)), (7, .int (iI n)), (8, .int (iI pg)), (12, .int (iI vn_q7)), (13, .int (iI un_q7)), (14, .int (iI aa_q7))]) dL_law_509 (Nat.le_of_ble_eq_true rfl) rfl ?_
                                      refine g_iconst S dL_law_511 ?_
                                      refine g_istore S (lv' := [(16, .int (iI 0)), (15, .int (iI (eS se n.toNat aa_q7))), (0, .ref (sb)), (1, .ref (ad 0)), (2, .ref (sm)), (3, .int (iI tm_q7)), (4, .int (iI xx_q7)), (5, .long (DIG sp se al n pg)), (7, .int (iI n)), (8, .int (iI pg)), (12, .int (iI vn_q7)), (13, .int (iI un_q7)), (14, .int (iI aa_q7))]) dL_law_512 (Nat.le_of_ble_eq_true rfl) rfl ?_
                                      refine g_iconst S dL_law_514 ?_
                                      refine g_st1 (v2 := .int (iI (pI (LED se al 0 aa_q7)))) (by rw [pI_f led_0]) ?_
                                      refine g_istore S (lv' := [(17, .int (iI (pI (LED se al 0 aa_q7)))), (16, .int (iI 0)), (15, .int (iI (eS se n.toNat aa_q7))), (0, .ref (sb)), (1, .ref (ad 0)), (2, .ref (sm)), (3, .int (iI tm_q7)), (4, .int (iI xx_q7)), (5, .long (DIG sp se al n pg)), (7, .int (iI n)), (8, .int (iI pg)), (12, .int (iI vn_q7)), (13, .int (iI un_q7)), (14, .int (iI aa_q7))]) dL_law_515 (Nat.le_of_ble_eq_true rfl) rfl ?_
                                      refine g_iconst S dL_law_517 ?_
                                      refine g_st1 (v2 := .int (iI (pI (RGB se al n aa_q7 0)))) (by rw [pI_f rgb_0]) ?_
                                      refine g_istore S (lv' := [(18, .int (iI (pI (RGB se al n aa_q7 0)))), (17, .int (iI (pI (LED se al 0 aa_q7)))), (16, .int (iI 0)), (15, .int (iI (eS se n.toNat aa_q7))), (0, .ref (sb)), (1, .ref (ad 0)), (2, .ref (sm)), (3, .int (iI tm_q7)), (4, .int (iI xx_q7)), (5, .long (DIG sp se al n pg)), (7, .int (iI n)), (8, .int (iI pg)), (12, .int (iI vn_q7)), (13, .int (iI un_q7)), (14, .int (iI aa_q7))]) dL_law_518 (Nat.le_of_ble_eq_true rfl) rfl ?_
                                      have L534 : G xp l xe ({ frames := 12, cells := 1032851, slots := 6002914, locals := 458 }) xs xm xa xb xh xc 25 (fun q0 => zb ≤ q0) kc ks xQ 534 [(0, .ref (sb)), (1, .ref (ad 0)), (2, .ref (sm)), (3, .int (iI tm_q7)), (4, .int (iI xx_q7)), (5, .long (DIG sp se al n pg)), (7, .int (iI n)), (8, .int (iI pg)), (12, .int (iI vn_q7)), (13, .int (iI un_q7)), (14, .int (iI aa_q7)), (15, .int (iI (eS se n.toNat aa_q7))), (16, .int (iI 0)), (17, .int (iI (pI (LED se al 0 aa_q7)))), (18, .int (iI (pI (RGB se al n aa_q7 0))))] [] (fun H => zq ≤ H.size ∧ va_at E.1 vwCl (sm, .inr (2, [.int (iI pg), .ref (s3 SS), .ref (s1 SS), .ref (s2 SS)])) H ∧ (SX E zc sm SS sp se n) H ∧ (CA E ad sp se al n pg) H ∧ (vS scr sb) H) := by
                                        refine g_aload_n S dL_law_534 rfl 1 rfl ?_
                                        have L550 : G xp l xe ({ frames := 12, cells := 1032851, slots := 6002914, locals := 458 }) xs xm xa xb xh xc 25 (fun q0 => zb ≤ q0) kc ks xQ 550 [(0, .ref (sb)), (1, .ref (ad 0)), (2, .ref (sm)), (3, .int (iI tm_q7)), (4, .int (iI xx_q7)), (5, .long (DIG sp se al n pg)), (7, .int (iI n)), (8, .int (iI pg)), (12, .int (iI vn_q7)), (13, .int (iI un_q7)), (14, .int (iI aa_q7)), (15, .int (iI (eS se n.toNat aa_q7))), (16, .int (iI 0)), (17, .int (iI (pI (LED se al 0 aa_q7)))), (18, .int (iI (pI (RGB se al n aa_q7 0))))] [] (fun H => zq ≤ H.size ∧ va_at E.1 vwCl (sm, .inr (2, [.int (iI pg), .ref (s3 SS), .ref (s1 SS), .ref (s2 SS)])) H ∧ (SX E zc sm SS sp se n) H ∧ (CA E ad sp se al n pg) H ∧ (vS scr sb) H) := by
                                          refine g_aload_n S dL_law_550 rfl 1 rfl ?_
                                          have L574 : G xp l xe ({ frames := 12, cells := 1032851, slots := 6002914, locals := 458 }) xs xm xa xb xh xc 25 (fun q0 => zb ≤ q0) kc ks xQ 574 [(0, .ref (sb)), (1, .ref (ad 0)), (2, .ref (sm)), (3, .int (iI tm_q7)), (4, .int (iI xx_q7)), (5, .long (DIG sp se al n pg)), (7, .int (iI n)), (8, .int (iI pg)), (12, .int (iI vn_q7)), (13, .int (iI un_q7)), (14, .int (iI aa_q7)), (15, .int (iI (eS se n.toNat aa_q7))), (16, .int (iI 0)), (17, .int (iI (pI (LED se al 0 aa_q7)))), (18, .int (iI (pI (RGB se al n aa_q7 0))))] [] (fun H => zq ≤ H.size ∧ va_at E.1 vwCl (sm, .inr (2, [.int (iI pg), .ref (s3 SS), .ref (s1 SS), .ref (s2 SS)])) H ∧ (SX E zc sm SS sp se n) H ∧ (CA E ad sp se al n pg) H ∧ (vS scr sb) H) := by
                                            refine g_iload S dL_law_574 11 rfl ?_
                                            have L590 : G xp l xe ({ frames := 12, cells := 1032851, slots := 6002914, locals := 458 }) xs xm xa xb xh xc 25 (fun q0 => zb ≤ q0) kc ks xQ 590 [(0, .ref (sb)), (1, .ref (ad 0)), (2, .ref (sm)), (3, .int (iI tm_q7)), (4, .int (iI xx_q7)), (5, .long (DIG sp se al n pg)), (7, .int (iI n)), (8, .int (iI pg)), (12, .int (iI vn_q7)), (13, .int (iI un_q7)), (14, .int (iI aa_q7)), (15, .int (iI (eS se n.toNat aa_q7))), (16, .int (iI 0)), (17, .int (iI (pI (LED se al 0 aa_q7)))), (18, .int (iI (pI (RGB se al n aa_q7 0))))] [] (fun H => zq ≤ H.size ∧ va_at E.1 vwCl (sm, .inr (2, [.int (iI pg), .ref (s3 SS), .ref (s1 SS), .ref (s2 SS)])) H ∧ (SX E zc sm SS sp se n) H ∧ (CA E ad sp se al n pg) H ∧ (vS scr sb) H) := by
                                              refine g_iload S dL_law_590 11 rfl ?_
                                              have L607 : G xp l xe ({ frames := 12, cells := 1032851, slots := 6002914, locals := 458 }) xs xm xa xb xh xc 25 (fun q0 => zb ≤ q0) kc ks xQ 607 [(0, .ref (sb)), (1, .ref (ad 0)), (2, .ref (sm)), (3, .int (iI tm_q7)), (4, .int (iI xx_q7)), (5, .long (DIG sp se al n pg)), (7, .int (iI n)), (8, .int (iI pg)), (12, .int (iI vn_q7)), (13, .int (iI un_q7)), (14, .int (iI aa_q7)), (15, .int (iI (eS se n.toNat aa_q7))), (16, .int (iI 0)), (17, .int (iI (pI (LED se al 0 aa_q7)))), (18, .int (iI (pI (RGB se al n aa_q7 0))))] [] (fun H => zq ≤ H.size ∧ va_at E.1 vwCl (sm, .inr (2, [.int (iI pg), .ref (s3 SS), .ref (s1 SS), .ref (s2 SS)])) H ∧ (SX E zc sm SS sp se n) H ∧ (CA E ad sp se al n pg) H ∧ (vS scr sb) H) := by
                                                refine g_iload S dL_law_607 8 rfl ?_
                                                have L637 : ∀ (v5_q7 : Int), (v5_q7 = pI (se aa_q7 ≠ -1 ∧ (eS se n.toNat aa_q7 = -1 ∨ (sp (eS se n.toNat aa_q7)).1 = 0))) → G xp l xe ({ frames := 12, cells := 1032851, slots := 6002914, locals := 458 }) xs xm xa xb xh xc 25 (fun q0 => zb ≤ q0) kc ks xQ 637 [(0, .ref (sb)), (1, .ref (ad 0)), (2, .ref (sm)), (3, .int (iI tm_q7)), (4, .int (iI xx_q7)), (5, .long (DIG sp se al n pg)), (7, .int (iI n)), (8, .int (iI pg)), (13, .int (iI un_q7)), (14, .int (iI aa_q7)), (15, .int (iI (eS se n.toNat aa_q7))), (16, .int (iI 0)), (17, .int (iI (pI (LED se al 0 aa_q7)))), (18, .int (iI (pI (RGB se al n aa_q7 0))))] [.int (iI v5_q7), .int (iI vn_q7)] (fun H => zq ≤ H.size ∧ va_at E.1 vwCl (sm, .inr (2, [.int (iI pg), .ref (s3 SS), .ref (s1 SS), .ref (s2 SS)])) H ∧ (SX E zc sm SS sp se n) H ∧ (CA E ad sp se al n pg) H ∧ (vS scr sb) H) := by
                                                  intro v5_q7 hv5_q7
                                                  refine g_iadd S dL_law_637 ?_
                                                  refine g_istore S (lv' := [(12, .int (iI (vn_q7 + v5_q7))), (0, .ref (sb)), (1, .ref (ad 0)), (2, .ref (sm)), (3, .int (iI tm_q7)), (4, .int (iI xx_q7)), (5, .long (DIG sp se al n pg)), (7, .int (iI n)), (8, .int (iI pg)), (13, .int (iI un_q7)), (14, .int (iI aa_q7)), (15, .int (iI (eS se n.toNat aa_q7))), (16, .int (iI 0)), (17, .int (iI (pI (LED se al 0 aa_q7)))), (18, .int (iI (pI (RGB se al n aa_q7 0))))]) dL_law_638 (Nat.le_of_ble_eq_true rfl) rfl ?_
                                                  refine g_iconst S dL_law_640 ?_
                                                  refine g_istore S (lv' := [(19, .int (iI 0)), (12, .int (iI (vn_q7 + v5_q7))), (0, .ref (sb)), (1, .ref (ad 0)), (2, .ref (sm)), (3, .int (iI tm_q7)), (4, .int (iI xx_q7)), (5, .long (DIG sp se al n pg)), (7, .int (iI n)), (8, .int (iI pg)), (13, .int (iI un_q7)), (14, .int (iI aa_q7)), (15, .int (iI (eS se n.toNat aa_q7))), (16, .int (iI 0)), (17, .int (iI (pI (LED se al 0 aa_q7)))), (18, .int (iI (pI (RGB se al n aa_q7 0))))]) dL_law_641 (Nat.le_of_ble_eq_true rfl) rfl ?_
                                                  have L643 : ∀ (nf : Nat) (ob_q7 : Int) (vw_q7 : Int) (re_q7 : Int), (0 ≤ ob_q7 ∧ ob_q7 ≤ n) → (vw_q7 = smI (fun h => pI (se h ≠ -1 ∧ (eS se n.toNat h = -1 ∨ (sp (eS se n.toNat h)).1 = 0))) (aa_q7 + 1).toNat) → (re_q7 = smI (fun i => pI (0 ≤ FAR se al n aa_q7 i)) ob_q7.toNat) → (n - ob_q7 < (nf : Int)) → G xp l xe ({ frames := 12, cells := 1032851, slots := 6002914, locals := 458 }) xs xm xa xb xh xc 25 (fun q0 => zb ≤ q0) kc ks xQ 643 [(0, .ref (sb)), (1, .ref (ad 0)), (2, .ref (sm)), (3, .int (iI tm_q7)), (4, .int (iI xx_q7)), (5, .long (DIG sp se al n pg)), (7, .int (iI n)), (8, .int (iI pg)), (12, .int (iI vw_q7)), (13, .int (iI un_q7)), (14, .int (iI aa_q7)), (15, .int (iI (eS se n.toNat aa_q7))), (16, .int (iI re_q7)), (17, .int (iI (pI (LED se al ob_q7 aa_q7)))), (18, .int (iI (pI (RGB se al n aa_q7 ob_q7)))), (19, .int (iI ob_q7))] [] (fun H => zq ≤ H.size ∧ va_at E.1 vwCl (sm, .inr (2, [.int (iI pg), .ref (s3 SS), .ref (s1 SS), .ref (s2 SS)])) H ∧ (SX E zc sm SS sp se n) H ∧ (CA E ad sp se al n pg) H ∧ (vS scr sb) H) := by
                                                    intro nf
                                                    induction nf with
                                                    | zero =>
                                                      intro ob_q7 vw_q7 re_q7 hob_q7 hvw_q7 hre_q7 hmf
                                                      exfalso
                                                      omega
                                                    | succ nf ihL643 =>
                                                      intro ob_q7 vw_q7 re_q7 hob_q7 hvw_q7 hre_q7 hmf
                                                      refine g_iload S dL_law_643 15 rfl ?_
                                                      refine g_iload S dL_law_645 6 rfl ?_
                                                      refine g_icmp_ge S (tgt := 943) dL_law_647 (by decide) (by omega) (fun c647_q7 => ?_) (fun c647_q7 => ?_)
                                                      · skip
                                                        have eob_q7 : ob_q7 = n := by omega
                                                        have lb9_q7 := pI_b (LED se al ob_q7 aa_q7)
                                                        have L955 : ∀ (va_q7 : Int), (va_q7 = pI (LED se al n aa_q7)) → G xp l xe ({ frames := 12, cells := 1032851, slots := 6002914, locals := 458 }) xs xm xa xb xh xc 25 (fun q0 => zb ≤ q0) kc ks xQ 955 [(0, .ref (sb)), (1, .ref (ad 0)), (2, .ref (sm)), (3, .int (iI tm_q7)), (4, .int (iI xx_q7)), (5, .long (DIG sp se al n pg)), (7, .int (iI n)), (8, .int (iI pg)), (12, .int (iI vw_q7)), (14, .int (iI aa_q7)), (15, .int (iI (eS se n.toNat aa_q7))), (16, .int (iI re_q7)), (17, .int (iI (pI (LED se al ob_q7 aa_q7)))), (18, .int (iI (pI (RGB se al n aa_q7 ob_q7)))), (19, .int (iI ob_q7))] [.int (iI va_q7), .int (iI un_q7)] (fun H => zq ≤ H.size ∧ va_at E.1 vwCl (sm, .inr (2, [.int (iI pg), .ref (s3 SS), .ref (s1 SS), .ref (s2 SS)])) H ∧ (SX E zc sm SS sp se n) H ∧ (CA E ad sp se al n pg) H ∧ (vS scr sb) H) := by
                                                          intro va_q7 hva_q7
                                                          refine g_isub S dL_law_955 ?_
                                                          refine g_istore S (lv' := [(13, .int (iI (un_q7 - va_q7))), (0, .ref (sb)), (1, .ref (ad 0)), (2, .ref (sm)), (3, .int (iI tm_q7)), (4, .int (iI xx_q7)), (5, .long (DIG sp se al n pg)), (7, .int (iI n)), (8, .int (iI pg)), (12, .int (iI vw_q7)), (14, .int (iI aa_q7)), (15, .int (iI (eS se n.toNat aa_q7))), (16, .int (iI re_q7)), (17, .int (iI (pI (LED se al ob_q7 aa_q7)))), (18, .int (iI (pI (RGB se al n aa_q7 ob_q7)))), (19, .int (iI ob_q7))]) dL_law_956 (Nat.le_of_ble_eq_true rfl) rfl ?_
                                                          have rc9_q7 : re_q7 = RCH se al n aa_q7 := by rw [hre_q7, eob_q7]; exact rch_c J.hgr hn_q7 (by omega)
                                                          have rr9_q7 := rch_r (se := se) (al := al) (n := n) (a := aa_q7)
                                                          have rg9_q7 : pI (RGB se al n aa_q7 ob_q7) = pI (RNG se al n aa_q7) := by rw [eob_q7]; exact pI_c (rng_c J.hgr hn_q7 (by omega)).symm
                                                          have rb9_q7 := pI_b (RNG se al n aa_q7)
                                                          have nr9_q7 := near_sp J.hsp (show 0 ≤ pg by omega) hn_q7.1 (u := aa_q7) (by omega)
                                                          refine g_aload_n S dL_law_958 rfl 2 rfl ?_
                                                          refine g_iload S dL_law_959 10 rfl ?_
                                                          refine g_callV S xK (As := [.int (iI aa_q7)]) (st := []) (stk' := [.int (iI (NEAR sp n aa_q7))]) (Wp' := fun H => zq ≤ H.size ∧ va_at E.1 vwCl (sm, .inr (2, [.int (iI pg), .ref (s3 SS), .ref (s1 SS), .ref (s2 SS)])) H ∧ (SX E zc sm SS sp se n) H ∧ (CA E ad sp se al n pg) H ∧ (vS scr sb) H) (r := (RX1, TX1, 9)) (q_nearest l E hj J aa_q7 (by omega)) (cwV 1 S.2.2.2.2 gL_law_X1_nearest rfl rfl rfl (by decide +kernel) ⟨Nat.le_of_ble_eq_true rfl, Nat.le_of_ble_eq_true rfl⟩) rfl rfl rfl rfl (Nat.le_of_ble_eq_true rfl) ⟨show kc + 0 ≤ 1032851 by omega, show ks + 0 ≤ 6002914 by omega⟩ (fun q9 h9 => (hax q9 h9).1) (fun _ h => h.2.2.2.1.cx) (fun _ h => h.2.2.2.1) (fun _ _ h h2 hle_q7 hq => ⟨Nat.le_trans h.1 hle_q7, h.2.1.kept (hq _ h.2.1.lt (fun w9_q7 => by have w8_q7 := hax _ w9_q7; omega)), h.2.2.1.far (fun q q1 q2 => hq q q1 (fun w9_q7 => by have w8_q7 := (hax q w9_q7).2; omega)), h2, h.2.2.2.2.kept (hq _ h.2.2.2.2.lt (fun w9_q7 => by have w8_q7 := hax _ w9_q7; omega))⟩) dL_law_961 ?_
                                                          refine g_istore S (lv' := [(19, .int (iI (NEAR sp n aa_q7))), (13, .int (iI (un_q7 - va_q7))), (0, .ref (sb)), (1, .ref (ad 0)), (2, .ref (sm)), (3, .int (iI tm_q7)), (4, .int (iI xx_q7)), (5, .long (DIG sp se al n pg)), (7, .int (iI n)), (8, .int (iI pg)), (12, .int (iI vw_q7)), (14, .int (iI aa_q7)), (15, .int (iI (eS se n.toNat aa_q7))), (16, .int (iI re_q7)), (17, .int (iI (pI (LED se al ob_q7 aa_q7)))), (18, .int (iI (pI (RGB se al n aa_q7 ob_q7))))]) dL_law_964 (Nat.le_of_ble_eq_true rfl) rfl ?_
                                                          refine g_iload S dL_law_966 13 rfl ?_
                                                          refine g_aload_n S dL_law_968 rfl 3 rfl ?_
                                                          refine g_iload S dL_law_969 11 rfl ?_
                                                          refine g_callV S xK (As := [.int (iI aa_q7)]) (st := [.int (iI re_q7)]) (stk' := [.int (iI (RCH se al n aa_q7)), .int (iI re_q7)]) (Wp' := fun H => zq ≤ H.size ∧ va_at E.1 vwCl (sm, .inr (2, [.int (iI pg), .ref (s3 SS), .ref (s1 SS), .ref (s2 SS)])) H ∧ (SX E zc sm SS sp se n) H ∧ (CA E ad sp se al n pg) H ∧ (vS scr sb) H) (r := (RX1, TX1, 9)) (q_reachOf l E hj J aa_q7 (by omega)) (cwV 1 S.2.2.2.2 gL_law_X1_reachOf rfl rfl rfl (by decide +kernel) ⟨Nat.le_of_ble_eq_true rfl, Nat.le_of_ble_eq_true rfl⟩) rfl rfl rfl rfl (Nat.le_of_ble_eq_true rfl) ⟨show kc + 0 ≤ 1032851 by omega, show ks + 0 ≤ 6002914 by omega⟩ (fun q9 h9 => (hax q9 h9).1) (fun _ h => h.2.2.2.1.cx) (fun _ h => h.2.2.2.1) (fun _ _ h h2 hle_q7 hq => ⟨Nat.le_trans h.1 hle_q7, h.2.1.kept (hq _ h.2.1.lt (fun w9_q7 => by have w8_q7 := hax _ w9_q7; omega)), h.2.2.1.far (fun q q1 q2 => hq q q1 (fun w9_q7 => by have w8_q7 := (hax q w9_q7).2; omega)), h2, h.2.2.2.2.kept (hq _ h.2.2.2.2.lt (fun w9_q7 => by have w8_q7 := hax _ w9_q7; omega))⟩) dL_law_971 ?_
                                                          refine g_icmp_ne S (tgt := 1011) dL_law_974 (by decide) (by omega) (fun c974_q7 => ?_) (fun c974_q7 => ?_)
                                                          · skip
                                                            exact absurd c974_q7 (by omega)
                                                          · skip
                                                            refine g_iload S dL_law_977 15 rfl ?_
                                                            refine g_aload_n S dL_law_979 rfl 3 rfl ?_
                                                            refine g_iload S dL_law_980 11 rfl ?_
                                                            refine g_callV S xK (As := [.int (iI aa_q7)]) (st := [.int (iI (pI (RGB se al n aa_q7 ob_q7)))]) (stk' := [.int (iI (pI (RNG se al n aa_q7))), .int (iI (pI (RGB se al n aa_q7 ob_q7)))]) (Wp' := fun H => zq ≤ H.size ∧ va_at E.1 vwCl (sm, .inr (2, [.int (iI pg), .ref (s3 SS), .ref (s1 SS), .ref (s2 SS)])) H ∧ (SX E zc sm SS sp se n) H ∧ (CA E ad sp se al n pg) H ∧ (vS scr sb) H) (r := (RX1, TX1, 9)) (q_isInRing l E hj J aa_q7 (by omega)) (cwV 1 S.2.2.2.2 gL_law_X1_isInRing rfl rfl rfl (by decide +kernel) ⟨Nat.le_of_ble_eq_true rfl, Nat.le_of_ble_eq_true rfl⟩) rfl rfl rfl rfl (Nat.le_of_ble_eq_true rfl) ⟨show kc + 0 ≤ 1032851 by omega, show ks + 0 ≤ 6002914 by omega⟩ (fun q9 h9 => (hax q9 h9).1) (fun _ h => h.2.2.2.1.cx) (fun _ h => h.2.2.2.1) (fun _ _ h h2 hle_q7 hq => ⟨Nat.le_trans h.1 hle_q7, h.2.1.kept (hq _ h.2.1.lt (fun w9_q7 => by have w8_q7 := hax _ w9_q7; omega)), h.2.2.1.far (fun q q1 q2 => hq q q1 (fun w9_q7 => by have w8_q7 := (hax q w9_q7).2; omega)), h2, h.2.2.2.2.kept (hq _ h.2.2.2.2.lt (fun w9_q7 => by have w8_q7 := hax _ w9_q7; omega))⟩) dL_law_982 ?_
                                                            refine g_icmp_ne S (tgt := 1011) dL_law_985 (by decide) (by omega) (fun c985_q7 => ?_) (fun c985_q7 => ?_)
                                                            · skip
                                                              exact absurd c985_q7 (by omega)
                                                            · skip
                                                              refine g_iload S dL_law_988 0 rfl ?_
                                                              refine g_iload S dL_law_990 11 rfl ?_
                                                              refine g_icmp_eq S (tgt := 1011) dL_law_992 (by decide) (by rcases nr9_q7 with ⟨w9_q7, w8_q7⟩ | ⟨w9_q7, w8_q7, w7_q7, w6, w5⟩ <;> omega) (fun c992_q7 => ?_) (fun c992_q7 => ?_)
                                                              · skip
                                                                exact absurd c992_q7 (by rcases nr9_q7 with ⟨w9_q7, w8_q7⟩ | ⟨w9_q7, w8_q7, w7_q7, w6, w5⟩ <;> omega)
                                                              · skip
                                                                have L1013 : G xp l xe ({ frames := 12, cells := 1032851, slots := 6002914, locals := 458 }) xs xm xa xb xh xc 25 (fun q0 => zb ≤ q0) kc ks xQ 1013 [(0, .ref (sb)), (1, .ref (ad 0)), (2, .ref (sm)), (3, .int (iI tm_q7)), (4, .int (iI xx_q7)), (5, .long (DIG sp se al n pg)), (7, .int (iI n)), (8, .int (iI pg)), (12, .int (iI vw_q7)), (13, .int (iI (un_q7 - va_q7))), (14, .int (iI aa_q7)), (19, .int (iI (NEAR sp n aa_q7)))] [] (fun H => zq ≤ H.size ∧ va_at E.1 vwCl (sm, .inr (2, [.int (iI pg), .ref (s3 SS), .ref (s1 SS), .ref (s2 SS)])) H ∧ (SX E zc sm SS sp se n) H ∧ (CA E ad sp se al n pg) H ∧ (vS scr sb) H) := by
                                                                  refine g_iconst S dL_law_1013 ?_
                                                                  refine g_istore S (lv' := [(20, .int (iI 0)), (0, .ref (sb)), (1, .ref (ad 0)), (2, .ref (sm)), (3, .int (iI tm_q7)), (4, .int (iI xx_q7)), (5, .long (DIG sp se al n pg)), (7, .int (iI n)), (8, .int (iI pg)), (12, .int (iI vw_q7)), (13, .int (iI (un_q7 - va_q7))), (14, .int (iI aa_q7)), (19, .int (iI (NEAR sp n aa_q7)))]) dL_law_1014 (Nat.le_of_ble_eq_true rfl) rfl ?_
                                                                  have L1016 : ∀ (nf : Nat) (o2b_q7 : Int), (0 ≤ o2b_q7 ∧ o2b_q7 ≤ n) → (n - o2b_q7 < (nf : Int)) → G xp l xe ({ frames := 12, cells := 1032851, slots := 6002914, locals := 458 }) xs xm xa xb xh xc 25 (fun q0 => zb ≤ q0) kc ks xQ 1016 [(0, .ref (sb)), (1, .ref (ad 0)), (2, .ref (sm)), (3, .int (iI tm_q7)), (4, .int (iI xx_q7)), (5, .long (DIG sp se al n pg)), (7, .int (iI n)), (8, .int (iI pg)), (12, .int (iI vw_q7)), (13, .int (iI (un_q7 - va_q7))), (14, .int (iI aa_q7)), (19, .int (iI (NEAR sp n aa_q7))), (20, .int (iI o2b_q7))] [] (fun H => zq ≤ H.size ∧ va_at E.1 vwCl (sm, .inr (2, [.int (iI pg), .ref (s3 SS), .ref (s1 SS), .ref (s2 SS)])) H ∧ (SX E zc sm SS sp se n) H ∧ (CA E ad sp se al n pg) H ∧ (vS scr sb) H) := by
                                                                    intro nf
                                                                    induction nf with
                                                                    | zero =>
                                                                      intro o2b_q7 ho2_q7 hmf
                                                                      exfalso
                                                                      omega
                                                                    | succ nf ihL1016 =>
                                                                      intro o2b_q7 ho2_q7 hmf
                                                                      refine g_iload S dL_law_1016 12 rfl ?_
                                                                      refine g_iload S dL_law_1018 6 rfl ?_
                                                                      refine g_icmp_ge S (tgt := 1066) dL_law_1020 (by decide) (by omega) (fun c1020_q7 => ?_) (fun c1020_q7 => ?_)
                                                                      · skip
                                                                        refine g_iinc S (lv' := [(14, .int (iI (aa_q7 + 1))), (0, .ref (sb)), (1, .ref (ad 0)), (2, .ref (sm)), (3, .int (iI tm_q7)), (4, .int (iI xx_q7)), (5, .long (DIG sp se al n pg)), (7, .int (iI n)), (8, .int (iI pg)), (12, .int (iI vw_q7)), (13, .int (iI (un_q7 - va_q7))), (19, .int (iI (NEAR sp n aa_q7))), (20, .int (iI o2b_q7))]) dL_law_1066 10 rfl (Nat.le_of_ble_eq_true rfl) rfl ?_
                                                                        refine g_goto S (tgt := 496) dL_law_1069 (by decide) ?_
                                                                        refine g_lv [1, 2, 3, 4, 5, 6, 7, 8, 9, 10, 0] rfl ?_
                                                                        exact ihL496 (aa_q7 + 1) vw_q7 (un_q7 - va_q7) (by omega) (hvw_q7) (by rw [smI_s _ haa_q7.1]; omega) (by omega)
                                                                      · skip
                                                                        refine g_iload S dL_law_1023 10 rfl ?_
                                                                        refine g_iload S dL_law_1025 12 rfl ?_
                                                                        refine g_icmp_eq S (tgt := 1060) dL_law_1027 (by decide) (by omega) (fun c1027_q7 => ?_) (fun c1027_q7 => ?_)
                                                                        · skip
                                                                          refine g_iinc S (lv' := [(20, .int (iI (o2b_q7 + 1))), (0, .ref (sb)), (1, .ref (ad 0)), (2, .ref (sm)), (3, .int (iI tm_q7)), (4, .int (iI xx_q7)), (5, .long (DIG sp se al n pg)), (7, .int (iI n)), (8, .int (iI pg)), (12, .int (iI vw_q7)), (13, .int (iI (un_q7 - va_q7))), (14, .int (iI aa_q7)), (19, .int (iI (NEAR sp n aa_q7)))]) dL_law_1060 12 rfl (Nat.le_of_ble_eq_true rfl) rfl ?_
                                                                          refine g_goto S (tgt := 1016) dL_law_1063 (by decide) ?_
                                                                          refine g_lv [1, 2, 3, 4, 5, 6, 7, 8, 9, 10, 11, 12, 0] rfl ?_
                                                                          exact ihL1016 (o2b_q7 + 1) (by omega) (by omega)
                                                                        · skip
                                                                          have co9_q7 := com_r (sp := sp) (pg := pg) (u := aa_q7) (o := o2b_q7) (by omega)
                                                                          refine g_aload_n S dL_law_1030 rfl 1 rfl ?_
                                                                          refine g_iload S dL_law_1031 10 rfl ?_
                                                                          refine g_iload S dL_law_1033 12 rfl ?_
                                                                          refine g_callV S xK (As := [.int (iI aa_q7), .int (iI o2b_q7)]) (st := []) (stk' := [.int (iI (COM sp pg aa_q7 o2b_q7))]) (Wp' := fun H => zq ≤ H.size ∧ va_at E.1 vwCl (sm, .inr (2, [.int (iI pg), .ref (s3 SS), .ref (s1 SS), .ref (s2 SS)])) H ∧ (SX E zc sm SS sp se n) H ∧ (CA E ad sp se al n pg) H ∧ (vS scr sb) H) (r := (RX1, TX1, 9)) (q_commonPages l E hj J aa_q7 o2b_q7 (by omega) (by omega)) (cwV 2 S.2.2.2.2 gL_law_X1_commonPages rfl rfl rfl (by decide +kernel) ⟨Nat.le_of_ble_eq_true rfl, Nat.le_of_ble_eq_true rfl⟩) rfl rfl rfl rfl (Nat.le_of_ble_eq_true rfl) ⟨show kc + 0 ≤ 1032851 by omega, show ks + 0 ≤ 6002914 by omega⟩ (fun q9 h9 => (hax q9 h9).1) (fun _ h => h.2.2.2.1.cx) (fun _ h => h.2.2.2.1) (fun _ _ h h2 hle_q7 hq => ⟨Nat.le_trans h.1 hle_q7, h.2.1.kept (hq _ h.2.1.lt (fun w9_q7 => by have w8_q7 := hax _ w9_q7; omega)), h.2.2.1.far (fun q q1 q2 => hq q q1 (fun w9_q7 => by have w8_q7 := (hax q w9_q7).2; omega)), h2, h.2.2.2.2.kept (hq _ h.2.2.2.2.lt (fun w9_q7 => by have w8_q7 := hax _ w9_q7; omega))⟩) dL_law_1035 ?_
                                                                          refine g_iload S dL_law_1038 11 rfl ?_
                                                                          refine g_if_ge S (tgt := 1047) dL_law_1040 (by decide) (by rcases nr9_q7 with ⟨w9_q7, w8_q7⟩ | ⟨w9_q7, w8_q7, w7_q7, w6, w5⟩ <;> omega) (fun c1040_q7 => ?_) (fun c1040_q7 => ?_)
                                                                          · skip
                                                                            have cm9_q7 := com_r (sp := sp) (pg := pg) (u := aa_q7) (o := NEAR sp n aa_q7) (by omega)
                                                                            refine g_aload_n S dL_law_1047 rfl 1 rfl ?_
                                                                            refine g_iload S dL_law_1048 10 rfl ?_
                                                                            refine g_iload S dL_law_1050 11 rfl ?_
                                                                            have nb9_q7 : 0 ≤ NEAR sp n aa_q7 ∧ NEAR sp n aa_q7 < n := by rcases nr9_q7 with ⟨w9_q7, w8_q7⟩ | ⟨w9_q7, w8_q7, w7_q7, w6, w5⟩ <;> omega
                                                                            refine g_callV S xK (As := [.int (iI aa_q7), .int (iI (NEAR sp n aa_q7))]) (st := [.int (iI (COM sp pg aa_q7 o2b_q7))]) (stk' := [.int (iI (COM sp pg aa_q7 (NEAR sp n aa_q7))), .int (iI (COM sp pg aa_q7 o2b_q7))]) (Wp' := fun H => zq ≤ H.size ∧ va_at E.1 vwCl (sm, .inr (2, [.int (iI pg), .ref (s3 SS), .ref (s1 SS), .ref (s2 SS)])) H ∧ (SX E zc sm SS sp se n) H ∧ (CA E ad sp se al n pg) H ∧ (vS scr sb) H) (r := (RX1, TX1, 9)) (q_commonPages l E hj J aa_q7 (NEAR sp n aa_q7) (by omega) (by omega)) (cwV 2 S.2.2.2.2 gL_law_X1_commonPages rfl rfl rfl (by decide +kernel) ⟨Nat.le_of_ble_eq_true rfl, Nat.le_of_ble_eq_true rfl⟩) rfl rfl rfl rfl (Nat.le_of_ble_eq_true rfl) ⟨show kc + 0 ≤ 1032851 by omega, show ks + 0 ≤ 6002914 by omega⟩ (fun q9 h9 => (hax q9 h9).1) (fun _ h => h.2.2.2.1.cx) (fun _ h => h.2.2.2.1) (fun _ _ h h2 hle_q7 hq => ⟨Nat.le_trans h.1 hle_q7, h.2.1.kept (hq _ h.2.1.lt (fun w9_q7 => by have w8_q7 := hax _ w9_q7; omega)), h.2.2.1.far (fun q q1 q2 => hq q q1 (fun w9_q7 => by have w8_q7 := (hax q w9_q7).2; omega)), h2, h.2.2.2.2.kept (hq _ h.2.2.2.2.lt (fun w9_q7 => by have w8_q7 := hax _ w9_q7; omega))⟩) dL_law_1052 ?_
                                                                            refine g_icmp_le S (tgt := 1060) dL_law_1055 (by decide) (by omega) (fun c1055_q7 => ?_) (fun c1055_q7 => ?_)
                                                                            · skip
                                                                              refine g_iinc S (lv' := [(20, .int (iI (o2b_q7 + 1))), (0, .ref (sb)), (1, .ref (ad 0)), (2, .ref (sm)), (3, .int (iI tm_q7)), (4, .int (iI xx_q7)), (5, .long (DIG sp se al n pg)), (7, .int (iI n)), (8, .int (iI pg)), (12, .int (iI vw_q7)), (13, .int (iI (un_q7 - va_q7))), (14, .int (iI aa_q7)), (19, .int (iI (NEAR sp n aa_q7)))]) dL_law_1060 12 rfl (Nat.le_of_ble_eq_true rfl) rfl ?_
                                                                              refine g_goto S (tgt := 1016) dL_law_1063 (by decide) ?_
                                                                              refine g_lv [1, 2, 3, 4, 5, 6, 7, 8, 9, 10, 11, 12, 0] rfl ?_
                                                                              exact ihL1016 (o2b_q7 + 1) (by omega) (by omega)
                                                                            · skip
                                                                              exact absurd c1055_q7 (by rcases nr9_q7 with ⟨w9_q7, w8_q7⟩ | ⟨w9_q7, w8_q7, w7_q7, w6, w5⟩; (have w4_q7 := w8_q7 o2b_q7 (by omega) (by omega) (by omega); omega); (have w4_q7 := w5 o2b_q7 (by omega) (by omega) (by omega); omega))
                                                                          · skip
                                                                            refine g_iconst S dL_law_1043 ?_
                                                                            refine g_goto S (tgt := 1055) dL_law_1044 (by decide) ?_
                                                                            refine g_icmp_le S (tgt := 1060) dL_law_1055 (by decide) (by omega) (fun c1055_q7 => ?_) (fun c1055_q7 => ?_)
                                                                            · skip
                                                                              refine g_iinc S (lv' := [(20, .int (iI (o2b_q7 + 1))), (0, .ref (sb)), (1, .ref (ad 0)), (2, .ref (sm)), (3, .int (iI tm_q7)), (4, .int (iI xx_q7)), (5, .long (DIG sp se al n pg)), (7, .int (iI n)), (8, .int (iI pg)), (12, .int (iI vw_q7)), (13, .int (iI (un_q7 - va_q7))), (14, .int (iI aa_q7)), (19, .int (iI (NEAR sp n aa_q7)))]) dL_law_1060 12 rfl (Nat.le_of_ble_eq_true rfl) rfl ?_
                                                                              refine g_goto S (tgt := 1016) dL_law_1063 (by decide) ?_
                                                                              refine g_lv [1, 2, 3, 4, 5, 6, 7, 8, 9, 10, 11, 12, 0] rfl ?_
                                                                              exact ihL1016 (o2b_q7 + 1) (by omega) (by omega)
                                                                            · skip
                                                                              exact absurd c1055_q7 (by rcases nr9_q7 with ⟨w9_q7, w8_q7⟩ | ⟨w9_q7, w8_q7, w7_q7, w6, w5⟩; (have w4_q7 := w8_q7 o2b_q7 (by omega) (by omega) (by omega); omega); (have w4_q7 := w5 o2b_q7 (by omega) (by omega) (by omega); omega))
                                                                  refine g_lv [1, 2, 3, 4, 5, 6, 7, 8, 9, 10, 11, 12, 0] rfl ?_
                                                                  exact L1016 ((n - 0) + 1).toNat 0 (by omega) (by omega)
                                                                refine g_iload S dL_law_995 0 rfl ?_
                                                                refine g_if_lt S (tgt := 1013) dL_law_997 (by decide) (by rcases nr9_q7 with ⟨w9_q7, w8_q7⟩ | ⟨w9_q7, w8_q7, w7_q7, w6, w5⟩ <;> omega) (fun c997_q7 => ?_) (fun c997_q7 => ?_)
                                                                · skip
                                                                  refine g_lv [2, 3, 4, 5, 6, 7, 8, 9, 10, 1, 11, 0] rfl ?_
                                                                  exact L1013  
                                                                · skip
                                                                  have cn9_q7 := com_r (sp := sp) (pg := pg) (u := aa_q7) (o := NEAR sp n aa_q7) (by omega)
                                                                  refine g_aload_n S dL_law_1000 rfl 3 rfl ?_
                                                                  refine g_iload S dL_law_1001 11 rfl ?_
                                                                  refine g_iload S dL_law_1003 0 rfl ?_
                                                                  have nb9_q7 : 0 ≤ NEAR sp n aa_q7 ∧ NEAR sp n aa_q7 < n := by rcases nr9_q7 with ⟨w9_q7, w8_q7⟩ | ⟨w9_q7, w8_q7, w7_q7, w6, w5⟩ <;> omega
                                                                  refine g_callV S xK (As := [.int (iI aa_q7), .int (iI (NEAR sp n aa_q7))]) (st := []) (stk' := [.int (iI (COM sp pg aa_q7 (NEAR sp n aa_q7)))]) (Wp' := fun H => zq ≤ H.size ∧ va_at E.1 vwCl (sm, .inr (2, [.int (iI pg), .ref (s3 SS), .ref (s1 SS), .ref (s2 SS)])) H ∧ (SX E zc sm SS sp se n) H ∧ (CA E ad sp se al n pg) H ∧ (vS scr sb) H) (r := (RX1, TX1, 9)) (q_commonPages l E hj J aa_q7 (NEAR sp n aa_q7) (by omega) (by omega)) (cwV 2 S.2.2.2.2 gL_law_X1_commonPages rfl rfl rfl (by decide +kernel) ⟨Nat.le_of_ble_eq_true rfl, Nat.le_of_ble_eq_true rfl⟩) rfl rfl rfl rfl (Nat.le_of_ble_eq_true rfl) ⟨show kc + 0 ≤ 1032851 by omega, show ks + 0 ≤ 6002914 by omega⟩ (fun q9 h9 => (hax q9 h9).1) (fun _ h => h.2.2.2.1.cx) (fun _ h => h.2.2.2.1) (fun _ _ h h2 hle_q7 hq => ⟨Nat.le_trans h.1 hle_q7, h.2.1.kept (hq _ h.2.1.lt (fun w9_q7 => by have w8_q7 := hax _ w9_q7; omega)), h.2.2.1.far (fun q q1 q2 => hq q q1 (fun w9_q7 => by have w8_q7 := (hax q w9_q7).2; omega)), h2, h.2.2.2.2.kept (hq _ h.2.2.2.2.lt (fun w9_q7 => by have w8_q7 := hax _ w9_q7; omega))⟩) dL_law_1005 ?_
                                                                  refine g_if_ne S (tgt := 1013) dL_law_1008 (by decide) (by omega) (fun c1008_q7 => ?_) (fun c1008_q7 => ?_)
                                                                  · skip
                                                                    refine g_lv [2, 3, 4, 5, 6, 7, 8, 9, 10, 1, 11, 0] rfl ?_
                                                                    exact L1013  
                                                                  · skip
                                                                    exact absurd c1008_q7 (by rcases nr9_q7 with ⟨w9_q7, w8_q7⟩ | ⟨w9_q7, w8_q7, w7_q7, w6, w5⟩ <;> omega)
                                                        refine g_iload S dL_law_943 9 rfl ?_
                                                        refine g_iload S dL_law_945 13 rfl ?_
                                                        refine g_if_eq S (tgt := 954) dL_law_947 (by decide) (by omega) (fun c947_q7 => ?_) (fun c947_q7 => ?_)
                                                        · skip
                                                          refine g_iconst S dL_law_954 ?_
                                                          refine g_lv [0, 1, 2, 3, 4, 5, 6, 7, 8, 10, 11, 12, 13, 14, 15] rfl ?_
                                                          exact L955 0 (by rw [eob_q7] at c947_q7; omega)
                                                        · skip
                                                          refine g_iconst S dL_law_950 ?_
                                                          refine g_goto S (tgt := 955) dL_law_951 (by decide) ?_
                                                          refine g_lv [0, 1, 2, 3, 4, 5, 6, 7, 8, 10, 11, 12, 13, 14, 15] rfl ?_
                                                          exact L955 1 (by rw [eob_q7] at c947_q7; have w9_q7 := pI_01 (LED se al n aa_q7); omega)
                                                      · skip
                                                        have f9_q7 := far_r J.hgr hn_q7 (a := aa_q7) (b := ob_q7) (by omega) (by omega)
                                                        have f0_q7 := far_0 J.hgr hn_q7 (a := aa_q7) (b := ob_q7) (by omega) (by omega)
                                                        have st01_q7 := pI_b (STP se al aa_q7 ob_q7)
                                                        have vb9_q7 := J.hsp ob_q7 (by omega) (by omega)
                                                        refine g_aload_n S dL_law_650 rfl 1 rfl ?_
                                                        refine g_iload S dL_law_651 10 rfl ?_
                                                        refine g_iload S dL_law_653 15 rfl ?_
                                                        refine g_callV S xK (As := [.int (iI aa_q7), .int (iI ob_q7)]) (st := []) (stk' := [.int (iI (FAR se al n aa_q7 ob_q7))]) (Wp' := fun H => zq ≤ H.size ∧ va_at E.1 vwCl (sm, .inr (2, [.int (iI pg), .ref (s3 SS), .ref (s1 SS), .ref (s2 SS)])) H ∧ (SX E zc sm SS sp se n) H ∧ (CA E ad sp se al n pg) H ∧ (vS scr sb) H) (r := (RX1, TX1, 9)) (q_steps l E hj J aa_q7 ob_q7 (by omega) (by omega)) (cwV 2 S.2.2.2.2 gL_law_X1_steps rfl rfl rfl (by decide +kernel) ⟨Nat.le_of_ble_eq_true rfl, Nat.le_of_ble_eq_true rfl⟩) rfl rfl rfl rfl (Nat.le_of_ble_eq_true rfl) ⟨show kc + 0 ≤ 1032851 by omega, show ks + 0 ≤ 6002914 by omega⟩ (fun q9 h9 => (hax q9 h9).1) (fun _ h => h.2.2.2.1.cx) (fun _ h => h.2.2.2.1) (fun _ _ h h2 hle_q7 hq => ⟨Nat.le_trans h.1 hle_q7, h.2.1.kept (hq _ h.2.1.lt (fun w9_q7 => by have w8_q7 := hax _ w9_q7; omega)), h.2.2.1.far (fun q q1 q2 => hq q q1 (fun w9_q7 => by have w8_q7 := (hax q w9_q7).2; omega)), h2, h.2.2.2.2.kept (hq _ h.2.2.2.2.lt (fun w9_q7 => by have w8_q7 := hax _ w9_q7; omega))⟩) dL_law_655 ?_
                                                        refine g_istore S (lv' := [(20, .int (iI (FAR se al n aa_q7 ob_q7))), (0, .ref (sb)), (1, .ref (ad 0)), (2, .ref (sm)), (3, .int (iI tm_q7)), (4, .int (iI xx_q7)), (5, .long (DIG sp se al n pg)), (7, .int (iI n)), (8, .int (iI pg)), (12, .int (iI vw_q7)), (13, .int (iI un_q7)), (14, .int (iI aa_q7)), (15, .int (iI (eS se n.toNat aa_q7))), (16, .int (iI re_q7)), (17, .int (iI (pI (LED se al ob_q7 aa_q7)))), (18, .int (iI (pI (RGB se al n aa_q7 ob_q7)))), (19, .int (iI ob_q7))]) dL_law_658 (Nat.le_of_ble_eq_true rfl) rfl ?_
                                                        refine g_aload_n S dL_law_660 rfl 2 rfl ?_
                                                        refine g_iload S dL_law_661 11 rfl ?_
                                                        refine g_iload S dL_law_663 16 rfl ?_
                                                        refine g_callV S xK (As := [.int (iI aa_q7), .int (iI ob_q7)]) (st := []) (stk' := [.int (iI (COM sp pg aa_q7 ob_q7))]) (Wp' := fun H => zq ≤ H.size ∧ va_at E.1 vwCl (sm, .inr (2, [.int (iI pg), .ref (s3 SS), .ref (s1 SS), .ref (s2 SS)])) H ∧ (SX E zc sm SS sp se n) H ∧ (CA E ad sp se al n pg) H ∧ (vS scr sb) H) (r := (RX1, TX1, 9)) (q_commonPages l E hj J aa_q7 ob_q7 (by omega) (by omega)) (cwV 2 S.2.2.2.2 gL_law_X1_commonPages rfl rfl rfl (by decide +kernel) ⟨Nat.le_of_ble_eq_true rfl, Nat.le_of_ble_eq_true rfl⟩) rfl rfl rfl rfl (Nat.le_of_ble_eq_true rfl) ⟨show kc + 0 ≤ 1032851 by omega, show ks + 0 ≤ 6002914 by omega⟩ (fun q9 h9 => (hax q9 h9).1) (fun _ h => h.2.2.2.1.cx) (fun _ h => h.2.2.2.1) (fun _ _ h h2 hle_q7 hq => ⟨Nat.le_trans h.1 hle_q7, h.2.1.kept (hq _ h.2.1.lt (fun w9_q7 => by have w8_q7 := hax _ w9_q7; omega)), h.2.2.1.far (fun q q1 q2 => hq q q1 (fun w9_q7 => by have w8_q7 := (hax q w9_q7).2; omega)), h2, h.2.2.2.2.kept (hq _ h.2.2.2.2.lt (fun w9_q7 => by have w8_q7 := hax _ w9_q7; omega))⟩) dL_law_665 ?_
                                                        refine g_istore S (lv' := [(21, .int (iI (COM sp pg aa_q7 ob_q7))), (20, .int (iI (FAR se al n aa_q7 ob_q7))), (0, .ref (sb)), (1, .ref (ad 0)), (2, .ref (sm)), (3, .int (iI tm_q7)), (4, .int (iI xx_q7)), (5, .long (DIG sp se al n pg)), (7, .int (iI n)), (8, .int (iI pg)), (12, .int (iI vw_q7)), (13, .int (iI un_q7)), (14, .int (iI aa_q7)), (15, .int (iI (eS se n.toNat aa_q7))), (16, .int (iI re_q7)), (17, .int (iI (pI (LED se al ob_q7 aa_q7)))), (18, .int (iI (pI (RGB se al n aa_q7 ob_q7)))), (19, .int (iI ob_q7))]) dL_law_668 (Nat.le_of_ble_eq_true rfl) rfl ?_
                                                        refine g_aload_n S dL_law_670 rfl 4 rfl ?_
                                                        refine g_iload S dL_law_671 12 rfl ?_
                                                        refine g_iload S dL_law_673 17 rfl ?_
                                                        have sr675_q7 := stp_rg J hal (a := aa_q7) (by omega)
                                                        refine g_callS S xK (As := [.ref sm, .int (iI aa_q7), .int (iI ob_q7)]) (st := []) (stk' := [.int (iI (pI ((∃ k : Int, 0 ≤ k ∧ k < sM SS aa_q7 ∧ sV SS aa_q7 k = ob_q7) ∨ se aa_q7 = ob_q7)))]) (Wp' := fun H => zq ≤ H.size ∧ va_at E.1 vwCl (sm, .inr (2, [.int (iI pg), .ref (s3 SS), .ref (s1 SS), .ref (s2 SS)])) H ∧ (SX E zc sm SS sp se n) H ∧ (CA E ad sp se al n pg) H ∧ (vS scr sb) H) (m_L_isStep l E (Wp := fun H => zq ≤ H.size ∧ va_at E.1 vwCl (sm, .inr (2, [.int (iI pg), .ref (s3 SS), .ref (s1 SS), .ref (s2 SS)])) H ∧ (SX E zc sm SS sp se n) H ∧ (CA E ad sp se al n pg) H ∧ (vS scr sb) H) zc sm SS sp se n pg aa_q7 ob_q7 (fun _ h => h.2.1) (fun _ h => h.2.2.1) hn_q7 (by omega) (by omega) sr675_q7.1 sr675_q7.2.1 sr675_q7.2.2) (cwS 3 S.2.2.2.2 gL_law_L_isStep rfl rfl rfl (by decide +kernel) ⟨Nat.le_of_ble_eq_true rfl, Nat.le_of_ble_eq_true rfl⟩) rfl rfl rfl (Nat.le_of_ble_eq_true rfl) ⟨show kc + 0 ≤ 1032851 by omega, show ks + 0 ≤ 6002914 by omega⟩ (fun _ q => q.elim) (fun _ h => h) (fun _ _ _ h _ _ => h) dL_law_675 ?_
                                                        refine g_st1 (v2 := .int (iI (pI (STP se al aa_q7 ob_q7)))) (by rw [pI_c (stp_al2 hal (a := aa_q7) (b := ob_q7) (by omega) (by omega))]) ?_
                                                        refine g_istore S (lv' := [(22, .int (iI (pI (STP se al aa_q7 ob_q7)))), (21, .int (iI (COM sp pg aa_q7 ob_q7))), (20, .int (iI (FAR se al n aa_q7 ob_q7))), (0, .ref (sb)), (1, .ref (ad 0)), (2, .ref (sm)), (3, .int (iI tm_q7)), (4, .int (iI xx_q7)), (5, .long (DIG sp se al n pg)), (7, .int (iI n)), (8, .int (iI pg)), (12, .int (iI vw_q7)), (13, .int (iI un_q7)), (14, .int (iI aa_q7)), (15, .int (iI (eS se n.toNat aa_q7))), (16, .int (iI re_q7)), (17, .int (iI (pI (LED se al ob_q7 aa_q7)))), (18, .int (iI (pI (RGB se al n aa_q7 ob_q7)))), (19, .int (iI ob_q7))]) dL_law_678 (Nat.le_of_ble_eq_true rfl) rfl ?_
                                                        have L692 : ∀ (v6_q7 : Int), (v6_q7 = pI (0 ≤ FAR se al n aa_q7 ob_q7)) → G xp l xe ({ frames := 12, cells := 1032851, slots := 6002914, locals := 458 }) xs xm xa xb xh xc 25 (fun q0 => zb ≤ q0) kc ks xQ 692 [(0, .ref (sb)), (1, .ref (ad 0)), (2, .ref (sm)), (3, .int (iI tm_q7)), (4, .int (iI xx_q7)), (5, .long (DIG sp se al n pg)), (7, .int (iI n)), (8, .int (iI pg)), (12, .int (iI vw_q7)), (13, .int (iI un_q7)), (14, .int (iI aa_q7)), (15, .int (iI (eS se n.toNat aa_q7))), (17, .int (iI (pI (LED se al ob_q7 aa_q7)))), (18, .int (iI (pI (RGB se al n aa_q7 ob_q7)))), (19, .int (iI ob_q7)), (20, .int (iI (FAR se al n aa_q7 ob_q7))), (21, .int (iI (COM sp pg aa_q7 ob_q7))), (22, .int (iI (pI (STP se al aa_q7 ob_q7))))] [.int (iI v6_q7), .int (iI re_q7)] (fun H => zq ≤ H.size ∧ va_at E.1 vwCl (sm, .inr (2, [.int (iI pg), .ref (s3 SS), .ref (s1 SS), .ref (s2 SS)])) H ∧ (SX E zc sm SS sp se n) H ∧ (CA E ad sp se al n pg) H ∧ (vS scr sb) H) := by
                                                          intro v6_q7 hv6_q7
                                                          refine g_iadd S dL_law_692 ?_
                                                          refine g_istore S (lv' := [(16, .int (iI (re_q7 + v6_q7))), (0, .ref (sb)), (1, .ref (ad 0)), (2, .ref (sm)), (3, .int (iI tm_q7)), (4, .int (iI xx_q7)), (5, .long (DIG sp se al n pg)), (7, .int (iI n)), (8, .int (iI pg)), (12, .int (iI vw_q7)), (13, .int (iI un_q7)), (14, .int (iI aa_q7)), (15, .int (iI (eS se n.toNat aa_q7))), (17, .int (iI (pI (LED se al ob_q7 aa_q7)))), (18, .int (iI (pI (RGB se al n aa_q7 ob_q7)))), (19, .int (iI ob_q7)), (20, .int (iI (FAR se al n aa_q7 ob_q7))), (21, .int (iI (COM sp pg aa_q7 ob_q7))), (22, .int (iI (pI (STP se al aa_q7 ob_q7))))]) dL_law_693 (Nat.le_of_ble_eq_true rfl) rfl ?_
                                                          refine g_iload S dL_law_695 13 rfl ?_
                                                          refine g_aload_n S dL_law_697 rfl 3 rfl ?_
                                                          refine g_iload S dL_law_698 15 rfl ?_
                                                          refine g_iload S dL_law_700 11 rfl ?_
                                                          have sr702_q7 := stp_rg J hal (a := ob_q7) (by omega)
                                                          refine g_callS S xK (As := [.ref sm, .int (iI ob_q7), .int (iI aa_q7)]) (st := [.int (iI (pI (LED se al ob_q7 aa_q7)))]) (stk' := [.int (iI (pI ((∃ k : Int, 0 ≤ k ∧ k < sM SS ob_q7 ∧ sV SS ob_q7 k = aa_q7) ∨ se ob_q7 = aa_q7))), .int (iI (pI (LED se al ob_q7 aa_q7)))]) (Wp' := fun H => zq ≤ H.size ∧ va_at E.1 vwCl (sm, .inr (2, [.int (iI pg), .ref (s3 SS), .ref (s1 SS), .ref (s2 SS)])) H ∧ (SX E zc sm SS sp se n) H ∧ (CA E ad sp se al n pg) H ∧ (vS scr sb) H) (m_L_isStep l E (Wp := fun H => zq ≤ H.size ∧ va_at E.1 vwCl (sm, .inr (2, [.int (iI pg), .ref (s3 SS), .ref (s1 SS), .ref (s2 SS)])) H ∧ (SX E zc sm SS sp se n) H ∧ (CA E ad sp se al n pg) H ∧ (vS scr sb) H) zc sm SS sp se n pg ob_q7 aa_q7 (fun _ h => h.2.1) (fun _ h => h.2.2.1) hn_q7 (by omega) (by omega) sr702_q7.1 sr702_q7.2.1 sr702_q7.2.2) (cwS 3 S.2.2.2.2 gL_law_L_isStep rfl rfl rfl (by decide +kernel) ⟨Nat.le_of_ble_eq_true rfl, Nat.le_of_ble_eq_true rfl⟩) rfl rfl rfl (Nat.le_of_ble_eq_true rfl) ⟨show kc + 0 ≤ 1032851 by omega, show ks + 0 ≤ 6002914 by omega⟩ (fun _ q => q.elim) (fun _ h => h) (fun _ _ _ h _ _ => h) dL_law_702 ?_
                                                          refine g_st1 (v2 := .int (iI (pI (STP se al ob_q7 aa_q7)))) (by rw [pI_c (stp_al2 hal (a := ob_q7) (b := aa_q7) (by omega) (by omega))]) ?_
                                                          refine g_ior S (z := (iI (pI (LED se al (ob_q7 + 1) aa_q7)))) dL_law_705 (or_pI rfl (led_s hob_q7.1)) ?_
                                                          refine g_istore S (lv' := [(17, .int (iI (pI (LED se al (ob_q7 + 1) aa_q7)))), (16, .int (iI (re_q7 + v6_q7))), (0, .ref (sb)), (1, .ref (ad 0)), (2, .ref (sm)), (3, .int (iI tm_q7)), (4, .int (iI xx_q7)), (5, .long (DIG sp se al n pg)), (7, .int (iI n)), (8, .int (iI pg)), (12, .int (iI vw_q7)), (13, .int (iI un_q7)), (14, .int (iI aa_q7)), (15, .int (iI (eS se n.toNat aa_q7))), (18, .int (iI (pI (RGB se al n aa_q7 ob_q7)))), (19, .int (iI ob_q7)), (20, .int (iI (FAR se al n aa_q7 ob_q7))), (21, .int (iI (COM sp pg aa_q7 ob_q7))), (22, .int (iI (pI (STP se al aa_q7 ob_q7))))]) dL_law_706 (Nat.le_of_ble_eq_true rfl) rfl ?_
                                                          have L731 : ∀ (v7_q7 : Int), (v7_q7 = pI (STP se al aa_q7 ob_q7 ∧ 0 ≤ FAR se al n ob_q7 aa_q7)) → G xp l xe ({ frames := 12, cells := 1032851, slots := 6002914, locals := 458 }) xs xm xa xb xh xc 25 (fun q0 => zb ≤ q0) kc ks xQ 731 [(0, .ref (sb)), (1, .ref (ad 0)), (2, .ref (sm)), (3, .int (iI tm_q7)), (4, .int (iI xx_q7)), (5, .long (DIG sp se al n pg)), (7, .int (iI n)), (8, .int (iI pg)), (12, .int (iI vw_q7)), (13, .int (iI un_q7)), (14, .int (iI aa_q7)), (15, .int (iI (eS se n.toNat aa_q7))), (16, .int (iI (re_q7 + v6_q7))), (17, .int (iI (pI (LED se al (ob_q7 + 1) aa_q7)))), (19, .int (iI ob_q7)), (20, .int (iI (FAR se al n aa_q7 ob_q7))), (21, .int (iI (COM sp pg aa_q7 ob_q7))), (22, .int (iI (pI (STP se al aa_q7 ob_q7))))] [.int (iI v7_q7), .int (iI (pI (RGB se al n aa_q7 ob_q7)))] (fun H => zq ≤ H.size ∧ va_at E.1 vwCl (sm, .inr (2, [.int (iI pg), .ref (s3 SS), .ref (s1 SS), .ref (s2 SS)])) H ∧ (SX E zc sm SS sp se n) H ∧ (CA E ad sp se al n pg) H ∧ (vS scr sb) H) := by
                                                            intro v7_q7 hv7_q7
                                                            refine g_ior S (z := (iI (pI (RGB se al n aa_q7 (ob_q7 + 1))))) dL_law_731 (or_pI hv7_q7 (rgb_s hob_q7.1)) ?_
                                                            refine g_istore S (lv' := [(18, .int (iI (pI (RGB se al n aa_q7 (ob_q7 + 1))))), (0, .ref (sb)), (1, .ref (ad 0)), (2, .ref (sm)), (3, .int (iI tm_q7)), (4, .int (iI xx_q7)), (5, .long (DIG sp se al n pg)), (7, .int (iI n)), (8, .int (iI pg)), (12, .int (iI vw_q7)), (13, .int (iI un_q7)), (14, .int (iI aa_q7)), (15, .int (iI (eS se n.toNat aa_q7))), (16, .int (iI (re_q7 + v6_q7))), (17, .int (iI (pI (LED se al (ob_q7 + 1) aa_q7)))), (19, .int (iI ob_q7)), (20, .int (iI (FAR se al n aa_q7 ob_q7))), (21, .int (iI (COM sp pg aa_q7 ob_q7))), (22, .int (iI (pI (STP se al aa_q7 ob_q7))))]) dL_law_732 (Nat.le_of_ble_eq_true rfl) rfl ?_
                                                            have L744 : ∀ (v8_q7 : Int), ((aa_q7 = ob_q7 ∧ v8_q7 = 1) ∨ (aa_q7 ≠ ob_q7 ∧ v8_q7 = 0)) → G xp l xe ({ frames := 12, cells := 1032851, slots := 6002914, locals := 458 }) xs xm xa xb xh xc 25 (fun q0 => zb ≤ q0) kc ks xQ 744 [(0, .ref (sb)), (1, .ref (ad 0)), (2, .ref (sm)), (3, .int (iI tm_q7)), (4, .int (iI xx_q7)), (5, .long (DIG sp se al n pg)), (7, .int (iI n)), (8, .int (iI pg)), (12, .int (iI vw_q7)), (13, .int (iI un_q7)), (14, .int (iI aa_q7)), (15, .int (iI (eS se n.toNat aa_q7))), (16, .int (iI (re_q7 + v6_q7))), (17, .int (iI (pI (LED se al (ob_q7 + 1) aa_q7)))), (18, .int (iI (pI (RGB se al n aa_q7 (ob_q7 + 1))))), (19, .int (iI ob_q7)), (20, .int (iI (FAR se al n aa_q7 ob_q7))), (21, .int (iI (COM sp pg aa_q7 ob_q7))), (22, .int (iI (pI (STP se al aa_q7 ob_q7))))] [.int (iI v8_q7)] (fun H => zq ≤ H.size ∧ va_at E.1 vwCl (sm, .inr (2, [.int (iI pg), .ref (s3 SS), .ref (s1 SS), .ref (s2 SS)])) H ∧ (SX E zc sm SS sp se n) H ∧ (CA E ad sp se al n pg) H ∧ (vS scr sb) H) := by
                                                              intro v8_q7 hv8_q7
                                                              refine g_iload S dL_law_744 10 rfl ?_
                                                              have L759 : G xp l xe ({ frames := 12, cells := 1032851, slots := 6002914, locals := 458 }) xs xm xa xb xh xc 25 (fun q0 => zb ≤ q0) kc ks xQ 759 [(0, .ref (sb)), (1, .ref (ad 0)), (2, .ref (sm)), (3, .int (iI tm_q7)), (4, .int (iI xx_q7)), (5, .long (DIG sp se al n pg)), (7, .int (iI n)), (8, .int (iI pg)), (12, .int (iI vw_q7)), (13, .int (iI un_q7)), (14, .int (iI aa_q7)), (15, .int (iI (eS se n.toNat aa_q7))), (16, .int (iI (re_q7 + v6_q7))), (17, .int (iI (pI (LED se al (ob_q7 + 1) aa_q7)))), (18, .int (iI (pI (RGB se al n aa_q7 (ob_q7 + 1))))), (19, .int (iI ob_q7)), (20, .int (iI (FAR se al n aa_q7 ob_q7))), (21, .int (iI (COM sp pg aa_q7 ob_q7))), (22, .int (iI (pI (STP se al aa_q7 ob_q7))))] [] (fun H => zq ≤ H.size ∧ va_at E.1 vwCl (sm, .inr (2, [.int (iI pg), .ref (s3 SS), .ref (s1 SS), .ref (s2 SS)])) H ∧ (SX E zc sm SS sp se n) H ∧ (CA E ad sp se al n pg) H ∧ (vS scr sb) H) := by
                                                                refine g_iload S dL_law_759 10 rfl ?_
                                                                have L782 : G xp l xe ({ frames := 12, cells := 1032851, slots := 6002914, locals := 458 }) xs xm xa xb xh xc 25 (fun q0 => zb ≤ q0) kc ks xQ 782 [(0, .ref (sb)), (1, .ref (ad 0)), (2, .ref (sm)), (3, .int (iI tm_q7)), (4, .int (iI xx_q7)), (5, .long (DIG sp se al n pg)), (7, .int (iI n)), (8, .int (iI pg)), (12, .int (iI vw_q7)), (13, .int (iI un_q7)), (14, .int (iI aa_q7)), (15, .int (iI (eS se n.toNat aa_q7))), (16, .int (iI (re_q7 + v6_q7))), (17, .int (iI (pI (LED se al (ob_q7 + 1) aa_q7)))), (18, .int (iI (pI (RGB se al n aa_q7 (ob_q7 + 1))))), (19, .int (iI ob_q7)), (20, .int (iI (FAR se al n aa_q7 ob_q7))), (21, .int (iI (COM sp pg aa_q7 ob_q7))), (22, .int (iI (pI (STP se al aa_q7 ob_q7))))] [] (fun H => zq ≤ H.size ∧ va_at E.1 vwCl (sm, .inr (2, [.int (iI pg), .ref (s3 SS), .ref (s1 SS), .ref (s2 SS)])) H ∧ (SX E zc sm SS sp se n) H ∧ (CA E ad sp se al n pg) H ∧ (vS scr sb) H) := by
                                                                  have cs9_q7 := com_sym (sp := sp) (pg := pg) (u := aa_q7) (o := ob_q7)
                                                                  have cl9_q7 := com_le (sp := sp) (u := aa_q7) (o := ob_q7) va9_q7.1 (show 0 ≤ pg by omega)
                                                                  have cr9_q7 := com_r (sp := sp) (u := aa_q7) (o := ob_q7) (show 0 ≤ pg by omega)
                                                                  have ts9_q7 := tog_sym (sp := sp) (pg := pg) (u := aa_q7) (o := ob_q7)
                                                                  have tl9_q7 := tog_le (sp := sp) (u := aa_q7) (o := ob_q7) va9_q7.1 vb9_q7.1 (show 0 ≤ pg by omega)
                                                                  have tr9_q7 := tog_r (sp := sp) (a := aa_q7) (b := ob_q7) (show 0 ≤ pg by omega)
                                                                  have ya9_q7 := va9_q7.1.1
                                                                  have yb9_q7 := vb9_q7.1.1
                                                                  refine g_iload S dL_law_782 17 rfl ?_
                                                                  refine g_aload_n S dL_law_784 rfl 1 rfl ?_
                                                                  refine g_iload S dL_law_785 15 rfl ?_
                                                                  refine g_iload S dL_law_787 10 rfl ?_
                                                                  refine g_callV S xK (As := [.int (iI ob_q7), .int (iI aa_q7)]) (st := [.int (iI (COM sp pg aa_q7 ob_q7))]) (stk' := [.int (iI (COM sp pg ob_q7 aa_q7)), .int (iI (COM sp pg aa_q7 ob_q7))]) (Wp' := fun H => zq ≤ H.size ∧ va_at E.1 vwCl (sm, .inr (2, [.int (iI pg), .ref (s3 SS), .ref (s1 SS), .ref (s2 SS)])) H ∧ (SX E zc sm SS sp se n) H ∧ (CA E ad sp se al n pg) H ∧ (vS scr sb) H) (r := (RX1, TX1, 9)) (q_commonPages l E hj J ob_q7 aa_q7 (by omega) (by omega)) (cwV 2 S.2.2.2.2 gL_law_X1_commonPages rfl rfl rfl (by decide +kernel) ⟨Nat.le_of_ble_eq_true rfl, Nat.le_of_ble_eq_true rfl⟩) rfl rfl rfl rfl (Nat.le_of_ble_eq_true rfl) ⟨show kc + 0 ≤ 1032851 by omega, show ks + 0 ≤ 6002914 by omega⟩ (fun q9 h9 => (hax q9 h9).1) (fun _ h => h.2.2.2.1.cx) (fun _ h => h.2.2.2.1) (fun _ _ h h2 hle_q7 hq => ⟨Nat.le_trans h.1 hle_q7, h.2.1.kept (hq _ h.2.1.lt (fun w9_q7 => by have w8_q7 := hax _ w9_q7; omega)), h.2.2.1.far (fun q q1 q2 => hq q q1 (fun w9_q7 => by have w8_q7 := (hax q w9_q7).2; omega)), h2, h.2.2.2.2.kept (hq _ h.2.2.2.2.lt (fun w9_q7 => by have w8_q7 := hax _ w9_q7; omega))⟩) dL_law_789 ?_
                                                                  refine g_icmp_ne S (tgt := 849) dL_law_792 (by decide) (by omega) (fun c792_q7 => ?_) (fun c792_q7 => ?_)
                                                                  · skip
                                                                    exact absurd c792_q7 (by omega)
                                                                  · skip
                                                                    refine g_iload S dL_law_795 17 rfl ?_
                                                                    refine g_aload_n S dL_law_797 rfl 1 rfl ?_
                                                                    refine g_iload S dL_law_798 10 rfl ?_
                                                                    refine g_callV S xK (As := [.int (iI aa_q7)]) (st := [.int (iI (COM sp pg aa_q7 ob_q7))]) (stk' := [.int (iI (PGS (sp aa_q7))), .int (iI (COM sp pg aa_q7 ob_q7))]) (Wp' := fun H => zq ≤ H.size ∧ va_at E.1 vwCl (sm, .inr (2, [.int (iI pg), .ref (s3 SS), .ref (s1 SS), .ref (s2 SS)])) H ∧ (SX E zc sm SS sp se n) H ∧ (CA E ad sp se al n pg) H ∧ (vS scr sb) H) (r := (RX1, TX1, 9)) (q_pagesOf l E hj J aa_q7 (by omega)) (cwV 1 S.2.2.2.2 gL_law_X1_pagesOf rfl rfl rfl (by decide +kernel) ⟨Nat.le_of_ble_eq_true rfl, Nat.le_of_ble_eq_true rfl⟩) rfl rfl rfl rfl (Nat.le_of_ble_eq_true rfl) ⟨show kc + 0 ≤ 1032851 by omega, show ks + 0 ≤ 6002914 by omega⟩ (fun q9 h9 => (hax q9 h9).1) (fun _ h => h.2.2.2.1.cx) (fun _ h => h.2.2.2.1) (fun _ _ h h2 hle_q7 hq => ⟨Nat.le_trans h.1 hle_q7, h.2.1.kept (hq _ h.2.1.lt (fun w9_q7 => by have w8_q7 := hax _ w9_q7; omega)), h.2.2.1.far (fun q q1 q2 => hq q q1 (fun w9_q7 => by have w8_q7 := (hax q w9_q7).2; omega)), h2, h.2.2.2.2.kept (hq _ h.2.2.2.2.lt (fun w9_q7 => by have w8_q7 := hax _ w9_q7; omega))⟩) dL_law_800 ?_
                                                                    refine g_icmp_gt S (tgt := 849) dL_law_803 (by decide) (by omega) (fun c803_q7 => ?_) (fun c803_q7 => ?_)
                                                                    · skip
                                                                      exact absurd c803_q7 (by omega)
                                                                    · skip
                                                                      refine g_aload_n S dL_law_806 rfl 1 rfl ?_
                                                                      refine g_iload S dL_law_807 10 rfl ?_
                                                                      refine g_iload S dL_law_809 15 rfl ?_
                                                                      refine g_callV S xK (As := [.int (iI aa_q7), .int (iI ob_q7)]) (st := []) (stk' := [.int (iI (TOG sp pg aa_q7 ob_q7))]) (Wp' := fun H => zq ≤ H.size ∧ va_at E.1 vwCl (sm, .inr (2, [.int (iI pg), .ref (s3 SS), .ref (s1 SS), .ref (s2 SS)])) H ∧ (SX E zc sm SS sp se n) H ∧ (CA E ad sp se al n pg) H ∧ (vS scr sb) H) (r := (RX1, TX1, 9)) (q_spansTogether l E hj J aa_q7 ob_q7 (by omega) (by omega)) (cwV 2 S.2.2.2.2 gL_law_X1_spansTogether rfl rfl rfl (by decide +kernel) ⟨Nat.le_of_ble_eq_true rfl, Nat.le_of_ble_eq_true rfl⟩) rfl rfl rfl rfl (Nat.le_of_ble_eq_true rfl) ⟨show kc + 0 ≤ 1032851 by omega, show ks + 0 ≤ 6002914 by omega⟩ (fun q9 h9 => (hax q9 h9).1) (fun _ h => h.2.2.2.1.cx) (fun _ h => h.2.2.2.1) (fun _ _ h h2 hle_q7 hq => ⟨Nat.le_trans h.1 hle_q7, h.2.1.kept (hq _ h.2.1.lt (fun w9_q7 => by have w8_q7 := hax _ w9_q7; omega)), h.2.2.1.far (fun q q1 q2 => hq q q1 (fun w9_q7 => by have w8_q7 := (hax q w9_q7).2; omega)), h2, h.2.2.2.2.kept (hq _ h.2.2.2.2.lt (fun w9_q7 => by have w8_q7 := hax _ w9_q7; omega))⟩) dL_law_811 ?_
                                                                      refine g_aload_n S dL_law_814 rfl 1 rfl ?_
                                                                      refine g_iload S dL_law_815 15 rfl ?_
                                                                      refine g_iload S dL_law_817 10 rfl ?_
                                                                      refine g_callV S xK (As := [.int (iI ob_q7), .int (iI aa_q7)]) (st := [.int (iI (TOG sp pg aa_q7 ob_q7))]) (stk' := [.int (iI (TOG sp pg ob_q7 aa_q7)), .int (iI (TOG sp pg aa_q7 ob_q7))]) (Wp' := fun H => zq ≤ H.size ∧ va_at E.1 vwCl (sm, .inr (2, [.int (iI pg), .ref (s3 SS), .ref (s1 SS), .ref (s2 SS)])) H ∧ (SX E zc sm SS sp se n) H ∧ (CA E ad sp se al n pg) H ∧ (vS scr sb) H) (r := (RX1, TX1, 9)) (q_spansTogether l E hj J ob_q7 aa_q7 (by omega) (by omega)) (cwV 2 S.2.2.2.2 gL_law_X1_spansTogether rfl rfl rfl (by decide +kernel) ⟨Nat.le_of_ble_eq_true rfl, Nat.le_of_ble_eq_true rfl⟩) rfl rfl rfl rfl (Nat.le_of_ble_eq_true rfl) ⟨show kc + 0 ≤ 1032851 by omega, show ks + 0 ≤ 6002914 by omega⟩ (fun q9 h9 => (hax q9 h9).1) (fun _ h => h.2.2.2.1.cx) (fun _ h => h.2.2.2.1) (fun _ _ h h2 hle_q7 hq => ⟨Nat.le_trans h.1 hle_q7, h.2.1.kept (hq _ h.2.1.lt (fun w9_q7 => by have w8_q7 := hax _ w9_q7; omega)), h.2.2.1.far (fun q q1 q2 => hq q q1 (fun w9_q7 => by have w8_q7 := (hax q w9_q7).2; omega)), h2, h.2.2.2.2.kept (hq _ h.2.2.2.2.lt (fun w9_q7 => by have w8_q7 := hax _ w9_q7; omega))⟩) dL_law_819 ?_
                                                                      refine g_icmp_ne S (tgt := 849) dL_law_822 (by decide) (by omega) (fun c822_q7 => ?_) (fun c822_q7 => ?_)
                                                                      · skip
                                                                        exact absurd c822_q7 (by omega)
                                                                      · skip
                                                                        refine g_aload_n S dL_law_825 rfl 1 rfl ?_
                                                                        refine g_iload S dL_law_826 10 rfl ?_
                                                                        refine g_iload S dL_law_828 15 rfl ?_
                                                                        refine g_callV S xK (As := [.int (iI aa_q7), .int (iI ob_q7)]) (st := []) (stk' := [.int (iI (TOG sp pg aa_q7 ob_q7))]) (Wp' := fun H => zq ≤ H.size ∧ va_at E.1 vwCl (sm, .inr (2, [.int (iI pg), .ref (s3 SS), .ref (s1 SS), .ref (s2 SS)])) H ∧ (SX E zc sm SS sp se n) H ∧ (CA E ad sp se al n pg) H ∧ (vS scr sb) H) (r := (RX1, TX1, 9)) (q_spansTogether l E hj J aa_q7 ob_q7 (by omega) (by omega)) (cwV 2 S.2.2.2.2 gL_law_X1_spansTogether rfl rfl rfl (by decide +kernel) ⟨Nat.le_of_ble_eq_true rfl, Nat.le_of_ble_eq_true rfl⟩) rfl rfl rfl rfl (Nat.le_of_ble_eq_true rfl) ⟨show kc + 0 ≤ 1032851 by omega, show ks + 0 ≤ 6002914 by omega⟩ (fun q9 h9 => (hax q9 h9).1) (fun _ h => h.2.2.2.1.cx) (fun _ h => h.2.2.2.1) (fun _ _ h h2 hle_q7 hq => ⟨Nat.le_trans h.1 hle_q7, h.2.1.kept (hq _ h.2.1.lt (fun w9_q7 => by have w8_q7 := hax _ w9_q7; omega)), h.2.2.1.far (fun q q1 q2 => hq q q1 (fun w9_q7 => by have w8_q7 := (hax q w9_q7).2; omega)), h2, h.2.2.2.2.kept (hq _ h.2.2.2.2.lt (fun w9_q7 => by have w8_q7 := hax _ w9_q7; omega))⟩) dL_law_830 ?_
                                                                        refine g_aload_n S dL_law_833 rfl 1 rfl ?_
                                                                        refine g_iload S dL_law_834 10 rfl ?_
                                                                        refine g_callV S xK (As := [.int (iI aa_q7)]) (st := [.int (iI (TOG sp pg aa_q7 ob_q7))]) (stk' := [.int (iI ((sp aa_q7).1)), .int (iI (TOG sp pg aa_q7 ob_q7))]) (Wp' := fun H => zq ≤ H.size ∧ va_at E.1 vwCl (sm, .inr (2, [.int (iI pg), .ref (s3 SS), .ref (s1 SS), .ref (s2 SS)])) H ∧ (SX E zc sm SS sp se n) H ∧ (CA E ad sp se al n pg) H ∧ (vS scr sb) H) (r := (RX1, TX1, 9)) (q_spansOf l E hj J aa_q7 (by omega)) (cwV 1 S.2.2.2.2 gL_law_X1_spansOf rfl rfl rfl (by decide +kernel) ⟨Nat.le_of_ble_eq_true rfl, Nat.le_of_ble_eq_true rfl⟩) rfl rfl rfl rfl (Nat.le_of_ble_eq_true rfl) ⟨show kc + 0 ≤ 1032851 by omega, show ks + 0 ≤ 6002914 by omega⟩ (fun q9 h9 => (hax q9 h9).1) (fun _ h => h.2.2.2.1.cx) (fun _ h => h.2.2.2.1) (fun _ _ h h2 hle_q7 hq => ⟨Nat.le_trans h.1 hle_q7, h.2.1.kept (hq _ h.2.1.lt (fun w9_q7 => by have w8_q7 := hax _ w9_q7; omega)), h.2.2.1.far (fun q q1 q2 => hq q q1 (fun w9_q7 => by have w8_q7 := (hax q w9_q7).2; omega)), h2, h.2.2.2.2.kept (hq _ h.2.2.2.2.lt (fun w9_q7 => by have w8_q7 := hax _ w9_q7; omega))⟩) dL_law_836 ?_
                                                                        refine g_aload_n S dL_law_839 rfl 1 rfl ?_
                                                                        refine g_iload S dL_law_840 15 rfl ?_
                                                                        refine g_callV S xK (As := [.int (iI ob_q7)]) (st := [.int (iI ((sp aa_q7).1)), .int (iI (TOG sp pg aa_q7 ob_q7))]) (stk' := [.int (iI ((sp ob_q7).1)), .int (iI ((sp aa_q7).1)), .int (iI (TOG sp pg aa_q7 ob_q7))]) (Wp' := fun H => zq ≤ H.size ∧ va_at E.1 vwCl (sm, .inr (2, [.int (iI pg), .ref (s3 SS), .ref (s1 SS), .ref (s2 SS)])) H ∧ (SX E zc sm SS sp se n) H ∧ (CA E ad sp se al n pg) H ∧ (vS scr sb) H) (r := (RX1, TX1, 9)) (q_spansOf l E hj J ob_q7 (by omega)) (cwV 1 S.2.2.2.2 gL_law_X1_spansOf rfl rfl rfl (by decide +kernel) ⟨Nat.le_of_ble_eq_true rfl, Nat.le_of_ble_eq_true rfl⟩) rfl rfl rfl rfl (Nat.le_of_ble_eq_true rfl) ⟨show kc + 0 ≤ 1032851 by omega, show ks + 0 ≤ 6002914 by omega⟩ (fun q9 h9 => (hax q9 h9).1) (fun _ h => h.2.2.2.1.cx) (fun _ h => h.2.2.2.1) (fun _ _ h h2 hle_q7 hq => ⟨Nat.le_trans h.1 hle_q7, h.2.1.kept (hq _ h.2.1.lt (fun w9_q7 => by have w8_q7 := hax _ w9_q7; omega)), h.2.2.1.far (fun q q1 q2 => hq q q1 (fun w9_q7 => by have w8_q7 := (hax q w9_q7).2; omega)), h2, h.2.2.2.2.kept (hq _ h.2.2.2.2.lt (fun w9_q7 => by have w8_q7 := hax _ w9_q7; omega))⟩) dL_law_842 ?_
                                                                        refine g_iadd S dL_law_845 ?_
                                                                        refine g_icmp_le S (tgt := 851) dL_law_846 (by decide) (by omega) (fun c846_q7 => ?_) (fun c846_q7 => ?_)
                                                                        · skip
                                                                          refine g_bipush S dL_law_851 (by decide) ?_
                                                                          refine g_istore S (lv' := [(23, .int (iI 99)), (0, .ref (sb)), (1, .ref (ad 0)), (2, .ref (sm)), (3, .int (iI tm_q7)), (4, .int (iI xx_q7)), (5, .long (DIG sp se al n pg)), (7, .int (iI n)), (8, .int (iI pg)), (12, .int (iI vw_q7)), (13, .int (iI un_q7)), (14, .int (iI aa_q7)), (15, .int (iI (eS se n.toNat aa_q7))), (16, .int (iI (re_q7 + v6_q7))), (17, .int (iI (pI (LED se al (ob_q7 + 1) aa_q7)))), (18, .int (iI (pI (RGB se al n aa_q7 (ob_q7 + 1))))), (19, .int (iI ob_q7)), (20, .int (iI (FAR se al n aa_q7 ob_q7))), (21, .int (iI (COM sp pg aa_q7 ob_q7))), (22, .int (iI (pI (STP se al aa_q7 ob_q7))))]) dL_law_853 (Nat.le_of_ble_eq_true rfl) rfl ?_
                                                                          refine g_iconst S dL_law_855 ?_
                                                                          refine g_istore S (lv' := [(24, .int (iI 0)), (23, .int (iI 99)), (0, .ref (sb)), (1, .ref (ad 0)), (2, .ref (sm)), (3, .int (iI tm_q7)), (4, .int (iI xx_q7)), (5, .long (DIG sp se al n pg)), (7, .int (iI n)), (8, .int (iI pg)), (12, .int (iI vw_q7)), (13, .int (iI un_q7)), (14, .int (iI aa_q7)), (15, .int (iI (eS se n.toNat aa_q7))), (16, .int (iI (re_q7 + v6_q7))), (17, .int (iI (pI (LED se al (ob_q7 + 1) aa_q7)))), (18, .int (iI (pI (RGB se al n aa_q7 (ob_q7 + 1))))), (19, .int (iI ob_q7)), (20, .int (iI (FAR se al n aa_q7 ob_q7))), (21, .int (iI (COM sp pg aa_q7 ob_q7))), (22, .int (iI (pI (STP se al aa_q7 ob_q7))))]) dL_law_856 (Nat.le_of_ble_eq_true rfl) rfl ?_
                                                                          have L858 : ∀ (nf : Nat) (oc_q7 : Int) (le_q7 : Int), (0 ≤ oc_q7 ∧ oc_q7 ≤ n) → (LEA se al n aa_q7 ob_q7 oc_q7 le_q7) → (n - oc_q7 < (nf : Int)) → G xp l xe ({ frames := 12, cells := 1032851, slots := 6002914, locals := 458 }) xs xm xa xb xh xc 25 (fun q0 => zb ≤ q0) kc ks xQ 858 [(0, .ref (sb)), (1, .ref (ad 0)), (2, .ref (sm)), (3, .int (iI tm_q7)), (4, .int (iI xx_q7)), (5, .long (DIG sp se al n pg)), (7, .int (iI n)), (8, .int (iI pg)), (12, .int (iI vw_q7)), (13, .int (iI un_q7)), (14, .int (iI aa_q7)), (15, .int (iI (eS se n.toNat aa_q7))), (16, .int (iI (re_q7 + v6_q7))), (17, .int (iI (pI (LED se al (ob_q7 + 1) aa_q7)))), (18, .int (iI (pI (RGB se al n aa_q7 (ob_q7 + 1))))), (19, .int (iI ob_q7)), (20, .int (iI (FAR se al n aa_q7 ob_q7))), (21, .int (iI (COM sp pg aa_q7 ob_q7))), (22, .int (iI (pI (STP se al aa_q7 ob_q7)))), (23, .int (iI le_q7)), (24, .int (iI oc_q7))] [] (fun H => zq ≤ H.size ∧ va_at E.1 vwCl (sm, .inr (2, [.int (iI pg), .ref (s3 SS), .ref (s1 SS), .ref (s2 SS)])) H ∧ (SX E zc sm SS sp se n) H ∧ (CA E ad sp se al n pg) H ∧ (vS scr sb) H) := by
                                                                            intro nf
                                                                            induction nf with
                                                                            | zero =>
                                                                              intro oc_q7 le_q7 hoc_q7 hle_q7 hmf
                                                                              exfalso
                                                                              omega
                                                                            | succ nf ihL858 =>
                                                                              intro oc_q7 le_q7 hoc_q7 hle_q7 hmf
                                                                              refine g_iload S dL_law_858 20 rfl ?_
                                                                              refine g_iload S dL_law_860 6 rfl ?_
                                                                              refine g_icmp_ge S (tgt := 910) dL_law_862 (by decide) (by omega) (fun c862_q7 => ?_) (fun c862_q7 => ?_)
                                                                              · skip
                                                                                have lr8_q7 := lea_r J.hgr hn_q7 hob_q7.1 hle_q7
                                                                                refine g_iload S dL_law_910 10 rfl ?_
                                                                                refine g_iload S dL_law_912 15 rfl ?_
                                                                                refine g_icmp_eq S (tgt := 937) dL_law_914 (by decide) (by omega) (fun c914_q7 => ?_) (fun c914_q7 => ?_)
                                                                                · skip
                                                                                  refine g_iinc S (lv' := [(19, .int (iI (ob_q7 + 1))), (0, .ref (sb)), (1, .ref (ad 0)), (2, .ref (sm)), (3, .int (iI tm_q7)), (4, .int (iI xx_q7)), (5, .long (DIG sp se al n pg)), (7, .int (iI n)), (8, .int (iI pg)), (12, .int (iI vw_q7)), (13, .int (iI un_q7)), (14, .int (iI aa_q7)), (15, .int (iI (eS se n.toNat aa_q7))), (16, .int (iI (re_q7 + v6_q7))), (17, .int (iI (pI (LED se al (ob_q7 + 1) aa_q7)))), (18, .int (iI (pI (RGB se al n aa_q7 (ob_q7 + 1))))), (20, .int (iI (FAR se al n aa_q7 ob_q7))), (21, .int (iI (COM sp pg aa_q7 ob_q7))), (22, .int (iI (pI (STP se al aa_q7 ob_q7)))), (23, .int (iI le_q7)), (24, .int (iI oc_q7))]) dL_law_937 15 rfl (Nat.le_of_ble_eq_true rfl) rfl ?_
                                                                                  refine g_goto S (tgt := 643) dL_law_940 (by decide) ?_
                                                                                  refine g_lv [1, 2, 3, 4, 5, 6, 7, 8, 9, 10, 11, 12, 13, 14, 15, 0] rfl ?_
                                                                                  exact ihL643 (ob_q7 + 1) vw_q7 (re_q7 + v6_q7) (by omega) (hvw_q7) (by rw [smI_s _ hob_q7.1, ← hre_q7, hv6_q7]) (by omega)
                                                                                · skip
                                                                                  have lf9_q7 := lea_f J.hgr hn_q7 hle_q7 (by omega) (by omega) (by omega) (by omega)
                                                                                  refine g_iload S dL_law_917 16 rfl ?_
                                                                                  refine g_iload S dL_law_919 19 rfl ?_
                                                                                  refine g_bipush S dL_law_921 (by decide) ?_
                                                                                  refine g_icmp_ne S (tgt := 930) dL_law_923 (by decide) (by omega) (fun c923_q7 => ?_) (fun c923_q7 => ?_)
                                                                                  · skip
                                                                                    refine g_iload S dL_law_930 19 rfl ?_
                                                                                    refine g_icmp_eq S (tgt := 937) dL_law_932 (by decide) (by omega) (fun c932_q7 => ?_) (fun c932_q7 => ?_)
                                                                                    · skip
                                                                                      refine g_iinc S (lv' := [(19, .int (iI (ob_q7 + 1))), (0, .ref (sb)), (1, .ref (ad 0)), (2, .ref (sm)), (3, .int (iI tm_q7)), (4, .int (iI xx_q7)), (5, .long (DIG sp se al n pg)), (7, .int (iI n)), (8, .int (iI pg)), (12, .int (iI vw_q7)), (13, .int (iI un_q7)), (14, .int (iI aa_q7)), (15, .int (iI (eS se n.toNat aa_q7))), (16, .int (iI (re_q7 + v6_q7))), (17, .int (iI (pI (LED se al (ob_q7 + 1) aa_q7)))), (18, .int (iI (pI (RGB se al n aa_q7 (ob_q7 + 1))))), (20, .int (iI (FAR se al n aa_q7 ob_q7))), (21, .int (iI (COM sp pg aa_q7 ob_q7))), (22, .int (iI (pI (STP se al aa_q7 ob_q7)))), (23, .int (iI le_q7)), (24, .int (iI oc_q7))]) dL_law_937 15 rfl (Nat.le_of_ble_eq_true rfl) rfl ?_
                                                                                      refine g_goto S (tgt := 643) dL_law_940 (by decide) ?_
                                                                                      refine g_lv [1, 2, 3, 4, 5, 6, 7, 8, 9, 10, 11, 12, 13, 14, 15, 0] rfl ?_
                                                                                      exact ihL643 (ob_q7 + 1) vw_q7 (re_q7 + v6_q7) (by omega) (hvw_q7) (by rw [smI_s _ hob_q7.1, ← hre_q7, hv6_q7]) (by omega)
                                                                                    · skip
                                                                                      exact absurd c932_q7 (by omega)
                                                                                  · skip
                                                                                    refine g_iconst S dL_law_926 ?_
                                                                                    refine g_goto S (tgt := 932) dL_law_927 (by decide) ?_
                                                                                    refine g_icmp_eq S (tgt := 937) dL_law_932 (by decide) (by omega) (fun c932_q7 => ?_) (fun c932_q7 => ?_)
                                                                                    · skip
                                                                                      refine g_iinc S (lv' := [(19, .int (iI (ob_q7 + 1))), (0, .ref (sb)), (1, .ref (ad 0)), (2, .ref (sm)), (3, .int (iI tm_q7)), (4, .int (iI xx_q7)), (5, .long (DIG sp se al n pg)), (7, .int (iI n)), (8, .int (iI pg)), (12, .int (iI vw_q7)), (13, .int (iI un_q7)), (14, .int (iI aa_q7)), (15, .int (iI (eS se n.toNat aa_q7))), (16, .int (iI (re_q7 + v6_q7))), (17, .int (iI (pI (LED se al (ob_q7 + 1) aa_q7)))), (18, .int (iI (pI (RGB se al n aa_q7 (ob_q7 + 1))))), (20, .int (iI (FAR se al n aa_q7 ob_q7))), (21, .int (iI (COM sp pg aa_q7 ob_q7))), (22, .int (iI (pI (STP se al aa_q7 ob_q7)))), (23, .int (iI le_q7)), (24, .int (iI oc_q7))]) dL_law_937 15 rfl (Nat.le_of_ble_eq_true rfl) rfl ?_
                                                                                      refine g_goto S (tgt := 643) dL_law_940 (by decide) ?_
                                                                                      refine g_lv [1, 2, 3, 4, 5, 6, 7, 8, 9, 10, 11, 12, 13, 14, 15, 0] rfl ?_
                                                                                      exact ihL643 (ob_q7 + 1) vw_q7 (re_q7 + v6_q7) (by omega) (hvw_q7) (by rw [smI_s _ hob_q7.1, ← hre_q7, hv6_q7]) (by omega)
                                                                                    · skip
                                                                                      exact absurd c932_q7 (by omega)
                                                                              · skip
                                                                                have fc9_q7 := far_r J.hgr hn_q7 (a := oc_q7) (b := ob_q7) (by omega) (by omega)
                                                                                have lr9_q7 := lea_r J.hgr hn_q7 hob_q7.1 hle_q7
                                                                                have sc9_q7 := pI_b (STP se al aa_q7 oc_q7)
                                                                                refine g_aload_n S dL_law_865 rfl 2 rfl ?_
                                                                                refine g_iload S dL_law_866 10 rfl ?_
                                                                                refine g_iload S dL_law_868 20 rfl ?_
                                                                                have sr870_q7 := stp_rg J hal (a := aa_q7) (by omega)
                                                                                refine g_callS S xK (As := [.ref sm, .int (iI aa_q7), .int (iI oc_q7)]) (st := []) (stk' := [.int (iI (pI ((∃ k : Int, 0 ≤ k ∧ k < sM SS aa_q7 ∧ sV SS aa_q7 k = oc_q7) ∨ se aa_q7 = oc_q7)))]) (Wp' := fun H => zq ≤ H.size ∧ va_at E.1 vwCl (sm, .inr (2, [.int (iI pg), .ref (s3 SS), .ref (s1 SS), .ref (s2 SS)])) H ∧ (SX E zc sm SS sp se n) H ∧ (CA E ad sp se al n pg) H ∧ (vS scr sb) H) (m_L_isStep l E (Wp := fun H => zq ≤ H.size ∧ va_at E.1 vwCl (sm, .inr (2, [.int (iI pg), .ref (s3 SS), .ref (s1 SS), .ref (s2 SS)])) H ∧ (SX E zc sm SS sp se n) H ∧ (CA E ad sp se al n pg) H ∧ (vS scr sb) H) zc sm SS sp se n pg aa_q7 oc_q7 (fun _ h => h.2.1) (fun _ h => h.2.2.1) hn_q7 (by omega) (by omega) sr870_q7.1 sr870_q7.2.1 sr870_q7.2.2) (cwS 3 S.2.2.2.2 gL_law_L_isStep rfl rfl rfl (by decide +kernel) ⟨Nat.le_of_ble_eq_true rfl, Nat.le_of_ble_eq_true rfl⟩) rfl rfl rfl (Nat.le_of_ble_eq_true rfl) ⟨show kc + 0 ≤ 1032851 by omega, show ks + 0 ≤ 6002914 by omega⟩ (fun _ q => q.elim) (fun _ h => h) (fun _ _ _ h _ _ => h) dL_law_870 ?_
                                                                                refine g_st1 (v2 := .int (iI (pI (STP se al aa_q7 oc_q7)))) (by rw [pI_c (stp_al2 hal (a := aa_q7) (b := oc_q7) (by omega) (by omega))]) ?_
                                                                                refine g_if_eq S (tgt := 904) dL_law_873 (by decide) (by omega) (fun c873_q7 => ?_) (fun c873_q7 => ?_)
                                                                                · skip
                                                                                  refine g_iinc S (lv' := [(24, .int (iI (oc_q7 + 1))), (0, .ref (sb)), (1, .ref (ad 0)), (2, .ref (sm)), (3, .int (iI tm_q7)), (4, .int (iI xx_q7)), (5, .long (DIG sp se al n pg)), (7, .int (iI n)), (8, .int (iI pg)), (12, .int (iI vw_q7)), (13, .int (iI un_q7)), (14, .int (iI aa_q7)), (15, .int (iI (eS se n.toNat aa_q7))), (16, .int (iI (re_q7 + v6_q7))), (17, .int (iI (pI (LED se al (ob_q7 + 1) aa_q7)))), (18, .int (iI (pI (RGB se al n aa_q7 (ob_q7 + 1))))), (19, .int (iI ob_q7)), (20, .int (iI (FAR se al n aa_q7 ob_q7))), (21, .int (iI (COM sp pg aa_q7 ob_q7))), (22, .int (iI (pI (STP se al aa_q7 ob_q7)))), (23, .int (iI le_q7))]) dL_law_904 20 rfl (Nat.le_of_ble_eq_true rfl) rfl ?_
                                                                                  refine g_goto S (tgt := 858) dL_law_907 (by decide) ?_
                                                                                  refine g_lv [1, 2, 3, 4, 5, 6, 7, 8, 9, 10, 11, 12, 13, 14, 15, 16, 17, 18, 19, 20, 0] rfl ?_
                                                                                  exact ihL858 (oc_q7 + 1) le_q7 (by omega) (lea_n hle_q7 (fun w => pI_eq0 (by omega) w.1)) (by omega)
                                                                                · skip
                                                                                  refine g_aload_n S dL_law_876 rfl 1 rfl ?_
                                                                                  refine g_iload S dL_law_877 20 rfl ?_
                                                                                  refine g_iload S dL_law_879 15 rfl ?_
                                                                                  refine g_callV S xK (As := [.int (iI oc_q7), .int (iI ob_q7)]) (st := []) (stk' := [.int (iI (FAR se al n oc_q7 ob_q7))]) (Wp' := fun H => zq ≤ H.size ∧ va_at E.1 vwCl (sm, .inr (2, [.int (iI pg), .ref (s3 SS), .ref (s1 SS), .ref (s2 SS)])) H ∧ (SX E zc sm SS sp se n) H ∧ (CA E ad sp se al n pg) H ∧ (vS scr sb) H) (r := (RX1, TX1, 9)) (q_steps l E hj J oc_q7 ob_q7 (by omega) (by omega)) (cwV 2 S.2.2.2.2 gL_law_X1_steps rfl rfl rfl (by decide +kernel) ⟨Nat.le_of_ble_eq_true rfl, Nat.le_of_ble_eq_true rfl⟩) rfl rfl rfl rfl (Nat.le_of_ble_eq_true rfl) ⟨show kc + 0 ≤ 1032851 by omega, show ks + 0 ≤ 6002914 by omega⟩ (fun q9 h9 => (hax q9 h9).1) (fun _ h => h.2.2.2.1.cx) (fun _ h => h.2.2.2.1) (fun _ _ h h2 hle_q7 hq => ⟨Nat.le_trans h.1 hle_q7, h.2.1.kept (hq _ h.2.1.lt (fun w9_q7 => by have w8_q7 := hax _ w9_q7; omega)), h.2.2.1.far (fun q q1 q2 => hq q q1 (fun w9_q7 => by have w8_q7 := (hax q w9_q7).2; omega)), h2, h.2.2.2.2.kept (hq _ h.2.2.2.2.lt (fun w9_q7 => by have w8_q7 := hax _ w9_q7; omega))⟩) dL_law_881 ?_
                                                                                  refine g_if_lt S (tgt := 904) dL_law_884 (by decide) (by omega) (fun c884_q7 => ?_) (fun c884_q7 => ?_)
                                                                                  · skip
                                                                                    refine g_iinc S (lv' := [(24, .int (iI (oc_q7 + 1))), (0, .ref (sb)), (1, .ref (ad 0)), (2, .ref (sm)), (3, .int (iI tm_q7)), (4, .int (iI xx_q7)), (5, .long (DIG sp se al n pg)), (7, .int (iI n)), (8, .int (iI pg)), (12, .int (iI vw_q7)), (13, .int (iI un_q7)), (14, .int (iI aa_q7)), (15, .int (iI (eS se n.toNat aa_q7))), (16, .int (iI (re_q7 + v6_q7))), (17, .int (iI (pI (LED se al (ob_q7 + 1) aa_q7)))), (18, .int (iI (pI (RGB se al n aa_q7 (ob_q7 + 1))))), (19, .int (iI ob_q7)), (20, .int (iI (FAR se al n aa_q7 ob_q7))), (21, .int (iI (COM sp pg aa_q7 ob_q7))), (22, .int (iI (pI (STP se al aa_q7 ob_q7)))), (23, .int (iI le_q7))]) dL_law_904 20 rfl (Nat.le_of_ble_eq_true rfl) rfl ?_
                                                                                    refine g_goto S (tgt := 858) dL_law_907 (by decide) ?_
                                                                                    refine g_lv [1, 2, 3, 4, 5, 6, 7, 8, 9, 10, 11, 12, 13, 14, 15, 16, 17, 18, 19, 20, 0] rfl ?_
                                                                                    exact ihL858 (oc_q7 + 1) le_q7 (by omega) (lea_n hle_q7 (fun w => by omega)) (by omega)
                                                                                  · skip
                                                                                    refine g_iload S dL_law_887 19 rfl ?_
                                                                                    refine g_iconst S dL_law_889 ?_
                                                                                    refine g_aload_n S dL_law_890 rfl 1 rfl ?_
                                                                                    refine g_iload S dL_law_891 20 rfl ?_
                                                                                    refine g_iload S dL_law_893 15 rfl ?_
                                                                                    refine g_callV S xK (As := [.int (iI oc_q7), .int (iI ob_q7)]) (st := [.int (iI 1), .int (iI le_q7)]) (stk' := [.int (iI (FAR se al n oc_q7 ob_q7)), .int (iI 1), .int (iI le_q7)]) (Wp' := fun H => zq ≤ H.size ∧ va_at E.1 vwCl (sm, .inr (2, [.int (iI pg), .ref (s3 SS), .ref (s1 SS), .ref (s2 SS)])) H ∧ (SX E zc sm SS sp se n) H ∧ (CA E ad sp se al n pg) H ∧ (vS scr sb) H) (r := (RX1, TX1, 9)) (q_steps l E hj J oc_q7 ob_q7 (by omega) (by omega)) (cwV 2 S.2.2.2.2 gL_law_X1_steps rfl rfl rfl (by decide +kernel) ⟨Nat.le_of_ble_eq_true rfl, Nat.le_of_ble_eq_true rfl⟩) rfl rfl rfl rfl (Nat.le_of_ble_eq_true rfl) ⟨show kc + 0 ≤ 1032851 by omega, show ks + 0 ≤ 6002914 by omega⟩ (fun q9 h9 => (hax q9 h9).1) (fun _ h => h.2.2.2.1.cx) (fun _ h => h.2.2.2.1) (fun _ _ h h2 hle_q7 hq => ⟨Nat.le_trans h.1 hle_q7, h.2.1.kept (hq _ h.2.1.lt (fun w9_q7 => by have w8_q7 := hax _ w9_q7; omega)), h.2.2.1.far (fun q q1 q2 => hq q q1 (fun w9_q7 => by have w8_q7 := (hax q w9_q7).2; omega)), h2, h.2.2.2.2.kept (hq _ h.2.2.2.2.lt (fun w9_q7 => by have w8_q7 := hax _ w9_q7; omega))⟩) dL_law_895 ?_
                                                                                    refine g_iadd S dL_law_898 ?_
                                                                                    refine g_mmin S km33 ksmin kiMath kcmin (Nat.le_of_ble_eq_true rfl) (Nat.le_of_ble_eq_true rfl) ⟨show kc ≤ 1032851 by omega, show ks ≤ 6002914 by omega⟩ dL_law_899 (by omega) ?_
                                                                                    refine g_istore S (lv' := [(23, .int (iI (min le_q7 (1 + FAR se al n oc_q7 ob_q7)))), (0, .ref (sb)), (1, .ref (ad 0)), (2, .ref (sm)), (3, .int (iI tm_q7)), (4, .int (iI xx_q7)), (5, .long (DIG sp se al n pg)), (7, .int (iI n)), (8, .int (iI pg)), (12, .int (iI vw_q7)), (13, .int (iI un_q7)), (14, .int (iI aa_q7)), (15, .int (iI (eS se n.toNat aa_q7))), (16, .int (iI (re_q7 + v6_q7))), (17, .int (iI (pI (LED se al (ob_q7 + 1) aa_q7)))), (18, .int (iI (pI (RGB se al n aa_q7 (ob_q7 + 1))))), (19, .int (iI ob_q7)), (20, .int (iI (FAR se al n aa_q7 ob_q7))), (21, .int (iI (COM sp pg aa_q7 ob_q7))), (22, .int (iI (pI (STP se al aa_q7 ob_q7)))), (24, .int (iI oc_q7))]) dL_law_902 (Nat.le_of_ble_eq_true rfl) rfl ?_
                                                                                    refine g_iinc S (lv' := [(24, .int (iI (oc_q7 + 1))), (23, .int (iI (min le_q7 (1 + FAR se al n oc_q7 ob_q7)))), (0, .ref (sb)), (1, .ref (ad 0)), (2, .ref (sm)), (3, .int (iI tm_q7)), (4, .int (iI xx_q7)), (5, .long (DIG sp se al n pg)), (7, .int (iI n)), (8, .int (iI pg)), (12, .int (iI vw_q7)), (13, .int (iI un_q7)), (14, .int (iI aa_q7)), (15, .int (iI (eS se n.toNat aa_q7))), (16, .int (iI (re_q7 + v6_q7))), (17, .int (iI (pI (LED se al (ob_q7 + 1) aa_q7)))), (18, .int (iI (pI (RGB se al n aa_q7 (ob_q7 + 1))))), (19, .int (iI ob_q7)), (20, .int (iI (FAR se al n aa_q7 ob_q7))), (21, .int (iI (COM sp pg aa_q7 ob_q7))), (22, .int (iI (pI (STP se al aa_q7 ob_q7))))]) dL_law_904 20 rfl (Nat.le_of_ble_eq_true rfl) rfl ?_
                                                                                    refine g_goto S (tgt := 858) dL_law_907 (by decide) ?_
                                                                                    refine g_lv [2, 3, 4, 5, 6, 7, 8, 9, 10, 11, 12, 13, 14, 15, 16, 17, 18, 19, 20, 1, 0] rfl ?_
                                                                                    exact ihL858 (oc_q7 + 1) (min le_q7 (1 + FAR se al n oc_q7 ob_q7)) (by omega) (lea_y J.hgr hn_q7 hle_q7 hob_q7.1 (by omega) (pI_ne0 (by omega)) (by omega)) (by omega)
                                                                          refine g_lv [2, 3, 4, 5, 6, 7, 8, 9, 10, 11, 12, 13, 14, 15, 16, 17, 18, 19, 20, 1, 0] rfl ?_
                                                                          exact L858 ((n - 0) + 1).toNat 0 99 (by omega) (lea_0) (by omega)
                                                                        · skip
                                                                          exact absurd c846_q7 (by omega)
                                                                refine g_iload S dL_law_761 15 rfl ?_
                                                                refine g_icmp_eq S (tgt := 782) dL_law_763 (by decide) (by omega) (fun c763_q7 => ?_) (fun c763_q7 => ?_)
                                                                · skip
                                                                  exact L782  
                                                                · skip
                                                                  have f1_q7 := far_1 J.hgr hn_q7 (a := aa_q7) (b := ob_q7) (by omega) (by omega) (by omega)
                                                                  have f2_q7 : (FAR se al n aa_q7 ob_q7 = 1 ∧ pI (STP se al aa_q7 ob_q7) = 1) ∨ (FAR se al n aa_q7 ob_q7 ≠ 1 ∧ pI (STP se al aa_q7 ob_q7) = 0) := by by_cases w9_q7 : STP se al aa_q7 ob_q7; (exact Or.inl ⟨f1_q7.mpr w9_q7, pI_t w9_q7⟩); (exact Or.inr ⟨fun w8_q7 => w9_q7 (f1_q7.mp w8_q7), pI_f w9_q7⟩)
                                                                  have L777 : ∀ (v9_q7 : Int), ((FAR se al n aa_q7 ob_q7 = 1 ∧ v9_q7 = 1) ∨ (FAR se al n aa_q7 ob_q7 ≠ 1 ∧ v9_q7 = 0)) → G xp l xe ({ frames := 12, cells := 1032851, slots := 6002914, locals := 458 }) xs xm xa xb xh xc 25 (fun q0 => zb ≤ q0) kc ks xQ 777 [(0, .ref (sb)), (1, .ref (ad 0)), (2, .ref (sm)), (3, .int (iI tm_q7)), (4, .int (iI xx_q7)), (5, .long (DIG sp se al n pg)), (7, .int (iI n)), (8, .int (iI pg)), (12, .int (iI vw_q7)), (13, .int (iI un_q7)), (14, .int (iI aa_q7)), (15, .int (iI (eS se n.toNat aa_q7))), (16, .int (iI (re_q7 + v6_q7))), (17, .int (iI (pI (LED se al (ob_q7 + 1) aa_q7)))), (18, .int (iI (pI (RGB se al n aa_q7 (ob_q7 + 1))))), (19, .int (iI ob_q7)), (20, .int (iI (FAR se al n aa_q7 ob_q7))), (21, .int (iI (COM sp pg aa_q7 ob_q7))), (22, .int (iI (pI (STP se al aa_q7 ob_q7))))] [.int (iI v9_q7)] (fun H => zq ≤ H.size ∧ va_at E.1 vwCl (sm, .inr (2, [.int (iI pg), .ref (s3 SS), .ref (s1 SS), .ref (s2 SS)])) H ∧ (SX E zc sm SS sp se n) H ∧ (CA E ad sp se al n pg) H ∧ (vS scr sb) H) := by
                                                                    intro v9_q7 hv9_q7
                                                                    refine g_iload S dL_law_777 18 rfl ?_
                                                                    refine g_icmp_ne S (tgt := 849) dL_law_779 (by decide) (by omega) (fun c779_q7 => ?_) (fun c779_q7 => ?_)
                                                                    · skip
                                                                      exact absurd c779_q7 (by omega)
                                                                    · skip
                                                                      exact L782  
                                                                  refine g_iload S dL_law_766 16 rfl ?_
                                                                  refine g_iconst S dL_law_768 ?_
                                                                  refine g_icmp_ne S (tgt := 776) dL_law_769 (by decide) (by omega) (fun c769_q7 => ?_) (fun c769_q7 => ?_)
                                                                  · skip
                                                                    refine g_iconst S dL_law_776 ?_
                                                                    exact L777 0 (Or.inr ⟨by omega, rfl⟩)
                                                                  · skip
                                                                    refine g_iconst S dL_law_772 ?_
                                                                    refine g_goto S (tgt := 777) dL_law_773 (by decide) ?_
                                                                    exact L777 1 (Or.inl ⟨by omega, rfl⟩)
                                                              refine g_iload S dL_law_746 15 rfl ?_
                                                              refine g_icmp_ne S (tgt := 755) dL_law_748 (by decide) (by omega) (fun c748_q7 => ?_) (fun c748_q7 => ?_)
                                                              · skip
                                                                refine g_iconst S dL_law_755 ?_
                                                                refine g_icmp_ne S (tgt := 849) dL_law_756 (by decide) (by omega) (fun c756_q7 => ?_) (fun c756_q7 => ?_)
                                                                · skip
                                                                  exact absurd c756_q7 (by omega)
                                                                · skip
                                                                  exact L759  
                                                              · skip
                                                                refine g_iconst S dL_law_751 ?_
                                                                refine g_goto S (tgt := 756) dL_law_752 (by decide) ?_
                                                                refine g_icmp_ne S (tgt := 849) dL_law_756 (by decide) (by omega) (fun c756_q7 => ?_) (fun c756_q7 => ?_)
                                                                · skip
                                                                  exact absurd c756_q7 (by omega)
                                                                · skip
                                                                  exact L759  
                                                            refine g_iload S dL_law_734 16 rfl ?_
                                                            refine g_if_ne S (tgt := 743) dL_law_736 (by decide) (by omega) (fun c736_q7 => ?_) (fun c736_q7 => ?_)
                                                            · skip
                                                              refine g_iconst S dL_law_743 ?_
                                                              refine g_lv [1, 2, 3, 4, 5, 6, 7, 8, 9, 10, 11, 12, 13, 14, 0, 15, 16, 17, 18] rfl ?_
                                                              exact L744 0 (Or.inr ⟨fun w => by have w9_q7 := f0_q7.mpr w; omega, rfl⟩)
                                                            · skip
                                                              refine g_iconst S dL_law_739 ?_
                                                              refine g_goto S (tgt := 744) dL_law_740 (by decide) ?_
                                                              refine g_lv [1, 2, 3, 4, 5, 6, 7, 8, 9, 10, 11, 12, 13, 14, 0, 15, 16, 17, 18] rfl ?_
                                                              exact L744 1 (Or.inl ⟨f0_q7.mp (by omega), rfl⟩)
                                                          refine g_iload S dL_law_708 14 rfl ?_
                                                          refine g_iload S dL_law_710 18 rfl ?_
                                                          refine g_if_eq S (tgt := 730) dL_law_712 (by decide) (by omega) (fun c712_q7 => ?_) (fun c712_q7 => ?_)
                                                          · skip
                                                            refine g_iconst S dL_law_730 ?_
                                                            refine g_lv [2, 3, 4, 5, 6, 7, 8, 9, 10, 11, 12, 13, 1, 0, 15, 16, 17, 18] rfl ?_
                                                            exact L731 0 ((pI_f (fun w => pI_eq0 (by omega) w.1)).symm)
                                                          · skip
                                                            have f8_q7 := far_r J.hgr hn_q7 (a := ob_q7) (b := aa_q7) (by omega) (by omega)
                                                            refine g_aload_n S dL_law_715 rfl 3 rfl ?_
                                                            refine g_iload S dL_law_716 15 rfl ?_
                                                            refine g_iload S dL_law_718 12 rfl ?_
                                                            refine g_callV S xK (As := [.int (iI ob_q7), .int (iI aa_q7)]) (st := [.int (iI (pI (RGB se al n aa_q7 ob_q7)))]) (stk' := [.int (iI (FAR se al n ob_q7 aa_q7)), .int (iI (pI (RGB se al n aa_q7 ob_q7)))]) (Wp' := fun H => zq ≤ H.size ∧ va_at E.1 vwCl (sm, .inr (2, [.int (iI pg), .ref (s3 SS), .ref (s1 SS), .ref (s2 SS)])) H ∧ (SX E zc sm SS sp se n) H ∧ (CA E ad sp se al n pg) H ∧ (vS scr sb) H) (r := (RX1, TX1, 9)) (q_steps l E hj J ob_q7 aa_q7 (by omega) (by omega)) (cwV 2 S.2.2.2.2 gL_law_X1_steps rfl rfl rfl (by decide +kernel) ⟨Nat.le_of_ble_eq_true rfl, Nat.le_of_ble_eq_true rfl⟩) rfl rfl rfl rfl (Nat.le_of_ble_eq_true rfl) ⟨show kc + 0 ≤ 1032851 by omega, show ks + 0 ≤ 6002914 by omega⟩ (fun q9 h9 => (hax q9 h9).1) (fun _ h => h.2.2.2.1.cx) (fun _ h => h.2.2.2.1) (fun _ _ h h2 hle_q7 hq => ⟨Nat.le_trans h.1 hle_q7, h.2.1.kept (hq _ h.2.1.lt (fun w9_q7 => by have w8_q7 := hax _ w9_q7; omega)), h.2.2.1.far (fun q q1 q2 => hq q q1 (fun w9_q7 => by have w8_q7 := (hax q w9_q7).2; omega)), h2, h.2.2.2.2.kept (hq _ h.2.2.2.2.lt (fun w9_q7 => by have w8_q7 := hax _ w9_q7; omega))⟩) dL_law_720 ?_
                                                            refine g_if_lt S (tgt := 730) dL_law_723 (by decide) (by omega) (fun c723_q7 => ?_) (fun c723_q7 => ?_)
                                                            · skip
                                                              refine g_iconst S dL_law_730 ?_
                                                              refine g_lv [2, 3, 4, 5, 6, 7, 8, 9, 10, 11, 12, 13, 1, 0, 15, 16, 17, 18] rfl ?_
                                                              exact L731 0 ((pI_f (fun w => by omega)).symm)
                                                            · skip
                                                              refine g_iconst S dL_law_726 ?_
                                                              refine g_goto S (tgt := 731) dL_law_727 (by decide) ?_
                                                              refine g_lv [2, 3, 4, 5, 6, 7, 8, 9, 10, 11, 12, 13, 1, 0, 15, 16, 17, 18] rfl ?_
                                                              exact L731 1 ((pI_t ⟨pI_ne0 (by omega), by omega⟩).symm)
                                                        refine g_iload S dL_law_680 15 rfl ?_
                                                        refine g_iload S dL_law_682 2 rfl ?_
                                                        refine g_if_ge S (tgt := 691) dL_law_684 (by decide) (by omega) (fun c684_q7 => ?_) (fun c684_q7 => ?_)
                                                        · skip
                                                          refine g_iconst S dL_law_691 ?_
                                                          refine g_lv [3, 4, 5, 6, 7, 8, 9, 10, 11, 12, 13, 14, 16, 17, 18, 2, 1, 0] rfl ?_
                                                          exact L692 1 ((pI_t (by omega)).symm)
                                                        · skip
                                                          refine g_iconst S dL_law_687 ?_
                                                          refine g_goto S (tgt := 692) dL_law_688 (by decide) ?_
                                                          refine g_lv [3, 4, 5, 6, 7, 8, 9, 10, 11, 12, 13, 14, 16, 17, 18, 2, 1, 0] rfl ?_
                                                          exact L692 0 ((pI_f (by omega)).symm)
                                                  refine g_lv [2, 3, 4, 5, 6, 7, 8, 9, 1, 10, 11, 12, 13, 14, 15, 0] rfl ?_
                                                  exact L643 ((n - 0) + 1).toNat 0 (vn_q7 + v5_q7) 0 (by omega) (by rw [smI_s _ haa_q7.1, ← hvn_q7, hv5_q7]) (rfl) (by omega)
                                                refine g_aload_n S dL_law_609 rfl 1 rfl ?_
                                                refine g_iload S dL_law_610 10 rfl ?_
                                                refine g_callV S xK (As := [.int (iI aa_q7)]) (st := [.int (iI vn_q7)]) (stk' := [.int (iI (se aa_q7)), .int (iI vn_q7)]) (Wp' := fun H => zq ≤ H.size ∧ va_at E.1 vwCl (sm, .inr (2, [.int (iI pg), .ref (s3 SS), .ref (s1 SS), .ref (s2 SS)])) H ∧ (SX E zc sm SS sp se n) H ∧ (CA E ad sp se al n pg) H ∧ (vS scr sb) H) (r := (RX1, TX1, 9)) (q_seeOf l E hj J aa_q7 (by omega)) (cwV 1 S.2.2.2.2 gL_law_X1_seeOf rfl rfl rfl (by decide +kernel) ⟨Nat.le_of_ble_eq_true rfl, Nat.le_of_ble_eq_true rfl⟩) rfl rfl rfl rfl (Nat.le_of_ble_eq_true rfl) ⟨show kc + 0 ≤ 1032851 by omega, show ks + 0 ≤ 6002914 by omega⟩ (fun q9 h9 => (hax q9 h9).1) (fun _ h => h.2.2.2.1.cx) (fun _ h => h.2.2.2.1) (fun _ _ h h2 hle_q7 hq => ⟨Nat.le_trans h.1 hle_q7, h.2.1.kept (hq _ h.2.1.lt (fun w9_q7 => by have w8_q7 := hax _ w9_q7; omega)), h.2.2.1.far (fun q q1 q2 => hq q q1 (fun w9_q7 => by have w8_q7 := (hax q w9_q7).2; omega)), h2, h.2.2.2.2.kept (hq _ h.2.2.2.2.lt (fun w9_q7 => by have w8_q7 := hax _ w9_q7; omega))⟩) dL_law_612 ?_
                                                refine g_if_lt S (tgt := 636) dL_law_615 (by decide) (by omega) (fun c615_q7 => ?_) (fun c615_q7 => ?_)
                                                · skip
                                                  refine g_iconst S dL_law_636 ?_
                                                  refine g_lv [0, 1, 2, 3, 4, 5, 6, 7, 9, 10, 11, 12, 13, 14] rfl ?_
                                                  exact L637 0 ((pI_f (fun w => w.1 (by omega))).symm)
                                                · skip
                                                  refine g_iload S dL_law_618 11 rfl ?_
                                                  refine g_if_lt S (tgt := 632) dL_law_620 (by decide) (by omega) (fun c620_q7 => ?_) (fun c620_q7 => ?_)
                                                  · skip
                                                    refine g_iconst S dL_law_632 ?_
                                                    refine g_goto S (tgt := 637) dL_law_633 (by decide) ?_
                                                    refine g_lv [0, 1, 2, 3, 4, 5, 6, 7, 9, 10, 11, 12, 13, 14] rfl ?_
                                                    exact L637 1 ((pI_t ⟨by omega, Or.inl (by omega)⟩).symm)
                                                  · skip
                                                    have ve_q7 := J.hsp (eS se n.toNat aa_q7) (by omega) (by omega)
                                                    have pz_q7 := pgs_0 ve_q7.1
                                                    have pl_q7 := pgs_le ve_q7.1 (by omega)
                                                    refine g_aload_n S dL_law_623 rfl 1 rfl ?_
                                                    refine g_iload S dL_law_624 11 rfl ?_
                                                    refine g_callV S xK (As := [.int (iI (eS se n.toNat aa_q7))]) (st := [.int (iI vn_q7)]) (stk' := [.int (iI (PGS (sp (eS se n.toNat aa_q7)))), .int (iI vn_q7)]) (Wp' := fun H => zq ≤ H.size ∧ va_at E.1 vwCl (sm, .inr (2, [.int (iI pg), .ref (s3 SS), .ref (s1 SS), .ref (s2 SS)])) H ∧ (SX E zc sm SS sp se n) H ∧ (CA E ad sp se al n pg) H ∧ (vS scr sb) H) (r := (RX1, TX1, 9)) (q_pagesOf l E hj J (eS se n.toNat aa_q7) (by omega)) (cwV 1 S.2.2.2.2 gL_law_X1_pagesOf rfl rfl rfl (by decide +kernel) ⟨Nat.le_of_ble_eq_true rfl, Nat.le_of_ble_eq_true rfl⟩) rfl rfl rfl rfl (Nat.le_of_ble_eq_true rfl) ⟨show kc + 0 ≤ 1032851 by omega, show ks + 0 ≤ 6002914 by omega⟩ (fun q9 h9 => (hax q9 h9).1) (fun _ h => h.2.2.2.1.cx) (fun _ h => h.2.2.2.1) (fun _ _ h h2 hle_q7 hq => ⟨Nat.le_trans h.1 hle_q7, h.2.1.kept (hq _ h.2.1.lt (fun w9_q7 => by have w8_q7 := hax _ w9_q7; omega)), h.2.2.1.far (fun q q1 q2 => hq q q1 (fun w9_q7 => by have w8_q7 := (hax q w9_q7).2; omega)), h2, h.2.2.2.2.kept (hq _ h.2.2.2.2.lt (fun w9_q7 => by have w8_q7 := hax _ w9_q7; omega))⟩) dL_law_626 ?_
                                                    refine g_if_ne S (tgt := 636) dL_law_629 (by decide) (by omega) (fun c629_q7 => ?_) (fun c629_q7 => ?_)
                                                    · skip
                                                      refine g_iconst S dL_law_636 ?_
                                                      refine g_lv [0, 1, 2, 3, 4, 5, 6, 7, 9, 10, 11, 12, 13, 14] rfl ?_
                                                      exact L637 0 ((pI_f (fun w => by omega)).symm)
                                                    · skip
                                                      refine g_iconst S dL_law_632 ?_
                                                      refine g_goto S (tgt := 637) dL_law_633 (by decide) ?_
                                                      refine g_lv [0, 1, 2, 3, 4, 5, 6, 7, 9, 10, 11, 12, 13, 14] rfl ?_
                                                      exact L637 1 ((pI_t ⟨by omega, Or.inr (by omega)⟩).symm)
                                              refine g_if_ge S (tgt := 607) dL_law_592 (by decide) (by omega) (fun c592_q7 => ?_) (fun c592_q7 => ?_)
                                              · skip
                                                exact L607  
                                              · skip
                                                have r2_q7 := eS_two J.hgr hn_q7 (a := aa_q7) (by omega) (J.hno aa_q7 (by omega) (by omega)).1 (by omega)
                                                have r3_q7 := rch_r (se := se) (al := al) (n := n) (a := aa_q7)
                                                refine g_aload_n S dL_law_595 rfl 1 rfl ?_
                                                refine g_iload S dL_law_596 10 rfl ?_
                                                refine g_callV S xK (As := [.int (iI aa_q7)]) (st := []) (stk' := [.int (iI (RCH se al n aa_q7))]) (Wp' := fun H => zq ≤ H.size ∧ va_at E.1 vwCl (sm, .inr (2, [.int (iI pg), .ref (s3 SS), .ref (s1 SS), .ref (s2 SS)])) H ∧ (SX E zc sm SS sp se n) H ∧ (CA E ad sp se al n pg) H ∧ (vS scr sb) H) (r := (RX1, TX1, 9)) (q_reachOf l E hj J aa_q7 (by omega)) (cwV 1 S.2.2.2.2 gL_law_X1_reachOf rfl rfl rfl (by decide +kernel) ⟨Nat.le_of_ble_eq_true rfl, Nat.le_of_ble_eq_true rfl⟩) rfl rfl rfl rfl (Nat.le_of_ble_eq_true rfl) ⟨show kc + 0 ≤ 1032851 by omega, show ks + 0 ≤ 6002914 by omega⟩ (fun q9 h9 => (hax q9 h9).1) (fun _ h => h.2.2.2.1.cx) (fun _ h => h.2.2.2.1) (fun _ _ h h2 hle_q7 hq => ⟨Nat.le_trans h.1 hle_q7, h.2.1.kept (hq _ h.2.1.lt (fun w9_q7 => by have w8_q7 := hax _ w9_q7; omega)), h.2.2.1.far (fun q q1 q2 => hq q q1 (fun w9_q7 => by have w8_q7 := (hax q w9_q7).2; omega)), h2, h.2.2.2.2.kept (hq _ h.2.2.2.2.lt (fun w9_q7 => by have w8_q7 := hax _ w9_q7; omega))⟩) dL_law_598 ?_
                                                refine g_iconst S dL_law_601 ?_
                                                refine g_icmp_ge S (tgt := 607) dL_law_602 (by decide) (by omega) (fun c602_q7 => ?_) (fun c602_q7 => ?_)
                                                · skip
                                                  exact L607  
                                                · skip
                                                  exact absurd c602_q7 (by omega)
                                            refine g_if_lt S (tgt := 590) dL_law_576 (by decide) (by omega) (fun c576_q7 => ?_) (fun c576_q7 => ?_)
                                            · skip
                                              exact L590  
                                            · skip
                                              have ef9_q7 := eS_far J.hgr hn_q7 (a := aa_q7) (by omega) (by omega)
                                              have ef8_q7 := far_r J.hgr hn_q7 (a := aa_q7) (b := eS se n.toNat aa_q7) (by omega) (by omega)
                                              refine g_aload_n S dL_law_579 rfl 1 rfl ?_
                                              refine g_iload S dL_law_580 10 rfl ?_
                                              refine g_iload S dL_law_582 11 rfl ?_
                                              refine g_callV S xK (As := [.int (iI aa_q7), .int (iI (eS se n.toNat aa_q7))]) (st := []) (stk' := [.int (iI (FAR se al n aa_q7 (eS se n.toNat aa_q7)))]) (Wp' := fun H => zq ≤ H.size ∧ va_at E.1 vwCl (sm, .inr (2, [.int (iI pg), .ref (s3 SS), .ref (s1 SS), .ref (s2 SS)])) H ∧ (SX E zc sm SS sp se n) H ∧ (CA E ad sp se al n pg) H ∧ (vS scr sb) H) (r := (RX1, TX1, 9)) (q_steps l E hj J aa_q7 (eS se n.toNat aa_q7) (by omega) (by omega)) (cwV 2 S.2.2.2.2 gL_law_X1_steps rfl rfl rfl (by decide +kernel) ⟨Nat.le_of_ble_eq_true rfl, Nat.le_of_ble_eq_true rfl⟩) rfl rfl rfl rfl (Nat.le_of_ble_eq_true rfl) ⟨show kc + 0 ≤ 1032851 by omega, show ks + 0 ≤ 6002914 by omega⟩ (fun q9 h9 => (hax q9 h9).1) (fun _ h => h.2.2.2.1.cx) (fun _ h => h.2.2.2.1) (fun _ _ h h2 hle_q7 hq => ⟨Nat.le_trans h.1 hle_q7, h.2.1.kept (hq _ h.2.1.lt (fun w9_q7 => by have w8_q7 := hax _ w9_q7; omega)), h.2.2.1.far (fun q q1 q2 => hq q q1 (fun w9_q7 => by have w8_q7 := (hax q w9_q7).2; omega)), h2, h.2.2.2.2.kept (hq _ h.2.2.2.2.lt (fun w9_q7 => by have w8_q7 := hax _ w9_q7; omega))⟩) dL_law_584 ?_
                                              refine g_if_lt S (tgt := 605) dL_law_587 (by decide) (by omega) (fun c587_q7 => ?_) (fun c587_q7 => ?_)
                                              · skip
                                                exact absurd c587_q7 (by omega)
                                              · skip
                                                exact L590  
                                          refine g_iload S dL_law_551 10 rfl ?_
                                          refine g_callV S xK (As := [.int (iI aa_q7)]) (st := []) (stk' := [.int (iI (se aa_q7))]) (Wp' := fun H => zq ≤ H.size ∧ va_at E.1 vwCl (sm, .inr (2, [.int (iI pg), .ref (s3 SS), .ref (s1 SS), .ref (s2 SS)])) H ∧ (SX E zc sm SS sp se n) H ∧ (CA E ad sp se al n pg) H ∧ (vS scr sb) H) (r := (RX1, TX1, 9)) (q_seeOf l E hj J aa_q7 (by omega)) (cwV 1 S.2.2.2.2 gL_law_X1_seeOf rfl rfl rfl (by decide +kernel) ⟨Nat.le_of_ble_eq_true rfl, Nat.le_of_ble_eq_true rfl⟩) rfl rfl rfl rfl (Nat.le_of_ble_eq_true rfl) ⟨show kc + 0 ≤ 1032851 by omega, show ks + 0 ≤ 6002914 by omega⟩ (fun q9 h9 => (hax q9 h9).1) (fun _ h => h.2.2.2.1.cx) (fun _ h => h.2.2.2.1) (fun _ _ h h2 hle_q7 hq => ⟨Nat.le_trans h.1 hle_q7, h.2.1.kept (hq _ h.2.1.lt (fun w9_q7 => by have w8_q7 := hax _ w9_q7; omega)), h.2.2.1.far (fun q q1 q2 => hq q q1 (fun w9_q7 => by have w8_q7 := (hax q w9_q7).2; omega)), h2, h.2.2.2.2.kept (hq _ h.2.2.2.2.lt (fun w9_q7 => by have w8_q7 := hax _ w9_q7; omega))⟩) dL_law_553 ?_
                                          refine g_if_lt S (tgt := 574) dL_law_556 (by decide) (by omega) (fun c556_q7 => ?_) (fun c556_q7 => ?_)
                                          · skip
                                            exact L574  
                                          · skip
                                            have e2_q7 := eS_see J.hgr hn_q7 (a := aa_q7) (by omega) (by omega)
                                            refine g_iload S dL_law_559 11 rfl ?_
                                            refine g_aload_n S dL_law_561 rfl 1 rfl ?_
                                            refine g_aload_n S dL_law_562 rfl 1 rfl ?_
                                            refine g_iload S dL_law_563 10 rfl ?_
                                            refine g_callV S xK (As := [.int (iI aa_q7)]) (st := [.ref (ad 0), .int (iI (eS se n.toNat aa_q7))]) (stk' := [.int (iI (se aa_q7)), .ref (ad 0), .int (iI (eS se n.toNat aa_q7))]) (Wp' := fun H => zq ≤ H.size ∧ va_at E.1 vwCl (sm, .inr (2, [.int (iI pg), .ref (s3 SS), .ref (s1 SS), .ref (s2 SS)])) H ∧ (SX E zc sm SS sp se n) H ∧ (CA E ad sp se al n pg) H ∧ (vS scr sb) H) (r := (RX1, TX1, 9)) (q_seeOf l E hj J aa_q7 (by omega)) (cwV 1 S.2.2.2.2 gL_law_X1_seeOf rfl rfl rfl (by decide +kernel) ⟨Nat.le_of_ble_eq_true rfl, Nat.le_of_ble_eq_true rfl⟩) rfl rfl rfl rfl (Nat.le_of_ble_eq_true rfl) ⟨show kc + 0 ≤ 1032851 by omega, show ks + 0 ≤ 6002914 by omega⟩ (fun q9 h9 => (hax q9 h9).1) (fun _ h => h.2.2.2.1.cx) (fun _ h => h.2.2.2.1) (fun _ _ h h2 hle_q7 hq => ⟨Nat.le_trans h.1 hle_q7, h.2.1.kept (hq _ h.2.1.lt (fun w9_q7 => by have w8_q7 := hax _ w9_q7; omega)), h.2.2.1.far (fun q q1 q2 => hq q q1 (fun w9_q7 => by have w8_q7 := (hax q w9_q7).2; omega)), h2, h.2.2.2.2.kept (hq _ h.2.2.2.2.lt (fun w9_q7 => by have w8_q7 := hax _ w9_q7; omega))⟩) dL_law_565 ?_
                                            refine g_callV S xK (As := [.int (iI (se aa_q7))]) (st := [.int (iI (eS se n.toNat aa_q7))]) (stk' := [.int (iI (eS se n.toNat (se aa_q7))), .int (iI (eS se n.toNat aa_q7))]) (Wp' := fun H => zq ≤ H.size ∧ va_at E.1 vwCl (sm, .inr (2, [.int (iI pg), .ref (s3 SS), .ref (s1 SS), .ref (s2 SS)])) H ∧ (SX E zc sm SS sp se n) H ∧ (CA E ad sp se al n pg) H ∧ (vS scr sb) H) (r := (RX1, TX1, 9)) (q_leadsTo l E hj J (se aa_q7) (by omega)) (cwV 1 S.2.2.2.2 gL_law_X1_leadsTo rfl rfl rfl (by decide +kernel) ⟨Nat.le_of_ble_eq_true rfl, Nat.le_of_ble_eq_true rfl⟩) rfl rfl rfl rfl (Nat.le_of_ble_eq_true rfl) ⟨show kc + 0 ≤ 1032851 by omega, show ks + 0 ≤ 6002914 by omega⟩ (fun q9 h9 => (hax q9 h9).1) (fun _ h => h.2.2.2.1.cx) (fun _ h => h.2.2.2.1) (fun _ _ h h2 hle_q7 hq => ⟨Nat.le_trans h.1 hle_q7, h.2.1.kept (hq _ h.2.1.lt (fun w9_q7 => by have w8_q7 := hax _ w9_q7; omega)), h.2.2.1.far (fun q q1 q2 => hq q q1 (fun w9_q7 => by have w8_q7 := (hax q w9_q7).2; omega)), h2, h.2.2.2.2.kept (hq _ h.2.2.2.2.lt (fun w9_q7 => by have w8_q7 := hax _ w9_q7; omega))⟩) dL_law_568 ?_
                                            refine g_icmp_ne S (tgt := 605) dL_law_571 (by decide) (by omega) (fun c571_q7 => ?_) (fun c571_q7 => ?_)
                                            · skip
                                              exact absurd c571_q7 (by omega)
                                            · skip
                                              exact L574  
                                        refine g_iload S dL_law_535 10 rfl ?_
                                        refine g_callV S xK (As := [.int (iI aa_q7)]) (st := []) (stk' := [.int (iI (se aa_q7))]) (Wp' := fun H => zq ≤ H.size ∧ va_at E.1 vwCl (sm, .inr (2, [.int (iI pg), .ref (s3 SS), .ref (s1 SS), .ref (s2 SS)])) H ∧ (SX E zc sm SS sp se n) H ∧ (CA E ad sp se al n pg) H ∧ (vS scr sb) H) (r := (RX1, TX1, 9)) (q_seeOf l E hj J aa_q7 (by omega)) (cwV 1 S.2.2.2.2 gL_law_X1_seeOf rfl rfl rfl (by decide +kernel) ⟨Nat.le_of_ble_eq_true rfl, Nat.le_of_ble_eq_true rfl⟩) rfl rfl rfl rfl (Nat.le_of_ble_eq_true rfl) ⟨show kc + 0 ≤ 1032851 by omega, show ks + 0 ≤ 6002914 by omega⟩ (fun q9 h9 => (hax q9 h9).1) (fun _ h => h.2.2.2.1.cx) (fun _ h => h.2.2.2.1) (fun _ _ h h2 hle_q7 hq => ⟨Nat.le_trans h.1 hle_q7, h.2.1.kept (hq _ h.2.1.lt (fun w9_q7 => by have w8_q7 := hax _ w9_q7; omega)), h.2.2.1.far (fun q q1 q2 => hq q q1 (fun w9_q7 => by have w8_q7 := (hax q w9_q7).2; omega)), h2, h.2.2.2.2.kept (hq _ h.2.2.2.2.lt (fun w9_q7 => by have w8_q7 := hax _ w9_q7; omega))⟩) dL_law_537 ?_
                                        refine g_if_ge S (tgt := 550) dL_law_540 (by decide) (by omega) (fun c540_q7 => ?_) (fun c540_q7 => ?_)
                                        · skip
                                          exact L550  
                                        · skip
                                          have e1_q7 := es9_q7 (by omega)
                                          refine g_iload S dL_law_543 11 rfl ?_
                                          refine g_iload S dL_law_545 10 rfl ?_
                                          refine g_icmp_ne S (tgt := 605) dL_law_547 (by decide) (by omega) (fun c547_q7 => ?_) (fun c547_q7 => ?_)
                                          · skip
                                            exact absurd c547_q7 (by omega)
                                          · skip
                                            exact L550  
                                      refine g_iload S dL_law_520 3 rfl ?_
                                      refine g_if_lt S (tgt := 534) dL_law_522 (by decide) (by omega) (fun c522_q7 => ?_) (fun c522_q7 => ?_)
                                      · skip
                                        refine g_lv [4, 5, 6, 7, 8, 9, 10, 11, 12, 13, 14, 3, 2, 1, 0] rfl ?_
                                        exact L534  
                                      · skip
                                        have se8_q7 := J.hgr.1 (eS se n.toNat aa_q7) (by omega) (by omega)
                                        refine g_aload_n S dL_law_525 rfl 5 rfl ?_
                                        refine g_iload S dL_law_526 3 rfl ?_
                                        refine g_callV S xK (As := [.int (iI (eS se n.toNat aa_q7))]) (st := []) (stk' := [.int (iI (se (eS se n.toNat aa_q7)))]) (Wp' := fun H => zq ≤ H.size ∧ va_at E.1 vwCl (sm, .inr (2, [.int (iI pg), .ref (s3 SS), .ref (s1 SS), .ref (s2 SS)])) H ∧ (SX E zc sm SS sp se n) H ∧ (CA E ad sp se al n pg) H ∧ (vS scr sb) H) (r := (RX1, TX1, 9)) (q_seeOf l E hj J (eS se n.toNat aa_q7) (by omega)) (cwV 1 S.2.2.2.2 gL_law_X1_seeOf rfl rfl rfl (by decide +kernel) ⟨Nat.le_of_ble_eq_true rfl, Nat.le_of_ble_eq_true rfl⟩) rfl rfl rfl rfl (Nat.le_of_ble_eq_true rfl) ⟨show kc + 0 ≤ 1032851 by omega, show ks + 0 ≤ 6002914 by omega⟩ (fun q9 h9 => (hax q9 h9).1) (fun _ h => h.2.2.2.1.cx) (fun _ h => h.2.2.2.1) (fun _ _ h h2 hle_q7 hq => ⟨Nat.le_trans h.1 hle_q7, h.2.1.kept (hq _ h.2.1.lt (fun w9_q7 => by have w8_q7 := hax _ w9_q7; omega)), h.2.2.1.far (fun q q1 q2 => hq q q1 (fun w9_q7 => by have w8_q7 := (hax q w9_q7).2; omega)), h2, h.2.2.2.2.kept (hq _ h.2.2.2.2.lt (fun w9_q7 => by have w8_q7 := hax _ w9_q7; omega))⟩) dL_law_528 ?_
                                        refine g_if_ge S (tgt := 605) dL_law_531 (by decide) (by omega) (fun c531_q7 => ?_) (fun c531_q7 => ?_)
                                        · skip
                                          exact absurd c531_q7 (by omega)
                                        · skip
                                          refine g_lv [4, 5, 6, 7, 8, 9, 10, 11, 12, 13, 14, 3, 2, 1, 0] rfl ?_
                                          exact L534  
                                refine g_lv [3, 4, 5, 6, 7, 8, 9, 10, 2, 1, 0] rfl ?_
                                exact L496 ((n - 0) + 1).toNat 0 0 n (by omega) (rfl) (by show n = n - 0; omega) (by omega)
                              · skip
                                exact absurd c481_q7 (by omega)
                        · skip
                          have cb9_q7 := CHN_b sp (n := n) qv_q7 hn_q7.1
                          refine g_aload_n S dL_law_412 rfl 1 rfl ?_
                          refine g_iload S dL_law_413 11 rfl ?_
                          refine g_callV S xK (As := [.int (iI qv_q7)]) (st := []) (stk' := [.int (iI (CHN sp n qv_q7))]) (Wp' := fun H => zq ≤ H.size ∧ va_at E.1 vwCl (sm, .inr (2, [.int (iI pg), .ref (s3 SS), .ref (s1 SS), .ref (s2 SS)])) H ∧ (SX E zc sm SS sp se n) H ∧ (CA E ad sp se al n pg) H ∧ (vS scr sb) H) (r := (RX1, TX1, 9)) (q_headingsOn l E hj J qv_q7 (by omega)) (cwV 1 S.2.2.2.2 gL_law_X1_headingsOn rfl rfl rfl (by decide +kernel) ⟨Nat.le_of_ble_eq_true rfl, Nat.le_of_ble_eq_true rfl⟩) rfl rfl rfl rfl (Nat.le_of_ble_eq_true rfl) ⟨show kc + 0 ≤ 1032851 by omega, show ks + 0 ≤ 6002914 by omega⟩ (fun q9 h9 => (hax q9 h9).1) (fun _ h => h.2.2.2.1.cx) (fun _ h => h.2.2.2.1) (fun _ _ h h2 hle_q7 hq => ⟨Nat.le_trans h.1 hle_q7, h.2.1.kept (hq _ h.2.1.lt (fun w9_q7 => by have w8_q7 := hax _ w9_q7; omega)), h.2.2.1.far (fun q q1 q2 => hq q q1 (fun w9_q7 => by have w8_q7 := (hax q w9_q7).2; omega)), h2, h.2.2.2.2.kept (hq _ h.2.2.2.2.lt (fun w9_q7 => by have w8_q7 := hax _ w9_q7; omega))⟩) dL_law_415 ?_
                          refine g_istore S (lv' := [(13, .int (iI (CHN sp n qv_q7))), (0, .ref (sb)), (1, .ref (ad 0)), (2, .ref (sm)), (3, .int (iI tm_q7)), (4, .int (iI xx_q7)), (5, .long (DIG sp se al n pg)), (7, .int (iI n)), (8, .int (iI pg)), (9, .int (iI at2_q7)), (10, .int (iI bv_q7)), (11, .int (iI mo_q7)), (12, .int (iI qv_q7))]) dL_law_418 (Nat.le_of_ble_eq_true rfl) rfl ?_
                          refine g_iload S dL_law_420 9 rfl ?_
                          refine g_iload S dL_law_422 0 rfl ?_
                          refine g_isub S dL_law_424 ?_
                          refine g_istore S (lv' := [(9, .int (iI (at2_q7 - CHN sp n qv_q7))), (13, .int (iI (CHN sp n qv_q7))), (0, .ref (sb)), (1, .ref (ad 0)), (2, .ref (sm)), (3, .int (iI tm_q7)), (4, .int (iI xx_q7)), (5, .long (DIG sp se al n pg)), (7, .int (iI n)), (8, .int (iI pg)), (10, .int (iI bv_q7)), (11, .int (iI mo_q7)), (12, .int (iI qv_q7))]) dL_law_425 (Nat.le_of_ble_eq_true rfl) rfl ?_
                          have L439 : ∀ (v4_q7 : Int), (v4_q7 = pI (CHN sp n qv_q7 = 0)) → G xp l xe ({ frames := 12, cells := 1032851, slots := 6002914, locals := 458 }) xs xm xa xb xh xc 25 (fun q0 => zb ≤ q0) kc ks xQ 439 [(0, .ref (sb)), (1, .ref (ad 0)), (2, .ref (sm)), (3, .int (iI tm_q7)), (4, .int (iI xx_q7)), (5, .long (DIG sp se al n pg)), (7, .int (iI n)), (8, .int (iI pg)), (11, .int (iI mo_q7)), (12, .int (iI qv_q7)), (9, .int (iI (at2_q7 - CHN sp n qv_q7))), (13, .int (iI (CHN sp n qv_q7)))] [.int (iI v4_q7), .int (iI bv_q7)] (fun H => zq ≤ H.size ∧ va_at E.1 vwCl (sm, .inr (2, [.int (iI pg), .ref (s3 SS), .ref (s1 SS), .ref (s2 SS)])) H ∧ (SX E zc sm SS sp se n) H ∧ (CA E ad sp se al n pg) H ∧ (vS scr sb) H) := by
                            intro v4_q7 hv4_q7
                            refine g_iadd S dL_law_439 ?_
                            refine g_istore S (lv' := [(10, .int (iI (bv_q7 + v4_q7))), (0, .ref (sb)), (1, .ref (ad 0)), (2, .ref (sm)), (3, .int (iI tm_q7)), (4, .int (iI xx_q7)), (5, .long (DIG sp se al n pg)), (7, .int (iI n)), (8, .int (iI pg)), (11, .int (iI mo_q7)), (12, .int (iI qv_q7)), (9, .int (iI (at2_q7 - CHN sp n qv_q7))), (13, .int (iI (CHN sp n qv_q7)))]) dL_law_440 (Nat.le_of_ble_eq_true rfl) rfl ?_
                            refine g_iload S dL_law_442 9 rfl ?_
                            refine g_iload S dL_law_444 12 rfl ?_
                            refine g_mmax S km153 ksmax kiMath kcmax (Nat.le_of_ble_eq_true rfl) (Nat.le_of_ble_eq_true rfl) ⟨show kc ≤ 1032851 by omega, show ks ≤ 6002914 by omega⟩ dL_law_446 (by omega) ?_
                            refine g_istore S (lv' := [(11, .int (iI (max mo_q7 (CHN sp n qv_q7)))), (10, .int (iI (bv_q7 + v4_q7))), (0, .ref (sb)), (1, .ref (ad 0)), (2, .ref (sm)), (3, .int (iI tm_q7)), (4, .int (iI xx_q7)), (5, .long (DIG sp se al n pg)), (7, .int (iI n)), (8, .int (iI pg)), (12, .int (iI qv_q7)), (9, .int (iI (at2_q7 - CHN sp n qv_q7))), (13, .int (iI (CHN sp n qv_q7)))]) dL_law_449 (Nat.le_of_ble_eq_true rfl) rfl ?_
                            refine g_iinc S (lv' := [(12, .int (iI (qv_q7 + 1))), (11, .int (iI (max mo_q7 (CHN sp n qv_q7)))), (10, .int (iI (bv_q7 + v4_q7))), (0, .ref (sb)), (1, .ref (ad 0)), (2, .ref (sm)), (3, .int (iI tm_q7)), (4, .int (iI xx_q7)), (5, .long (DIG sp se al n pg)), (7, .int (iI n)), (8, .int (iI pg)), (9, .int (iI (at2_q7 - CHN sp n qv_q7))), (13, .int (iI (CHN sp n qv_q7)))]) dL_law_451 10 rfl (Nat.le_of_ble_eq_true rfl) rfl ?_
                            refine g_goto S (tgt := 405) dL_law_454 (by decide) ?_
                            refine g_lv [3, 4, 5, 6, 7, 8, 9, 10, 11, 2, 1, 0] rfl ?_
                            exact ihL405 (qv_q7 + 1) (at2_q7 - CHN sp n qv_q7) (bv_q7 + v4_q7) (max mo_q7 (CHN sp n qv_q7)) (by omega) (by rw [smI_p _ hqv_q7.1, show qv_q7 - 1 + 1 = qv_q7 by omega]; omega) (by rw [smI_p _ hqv_q7.1, ← hbv_q7, hv4_q7, show qv_q7 - 1 + 1 = qv_q7 by omega]) (mos_s hmo_q7 hqv_q7.1) (by omega) (by omega)
                          refine g_iload S dL_law_427 10 rfl ?_
                          refine g_iload S dL_law_429 1 rfl ?_
                          refine g_if_ne S (tgt := 438) dL_law_431 (by decide) (by omega) (fun c431_q7 => ?_) (fun c431_q7 => ?_)
                          · skip
                            refine g_iconst S dL_law_438 ?_
                            refine g_lv [2, 3, 4, 5, 6, 7, 8, 9, 11, 12, 0, 1] rfl ?_
                            exact L439 0 ((pI_f (by omega)).symm)
                          · skip
                            refine g_iconst S dL_law_434 ?_
                            refine g_goto S (tgt := 439) dL_law_435 (by decide) ?_
                            refine g_lv [2, 3, 4, 5, 6, 7, 8, 9, 11, 12, 0, 1] rfl ?_
                            exact L439 1 ((pI_t (by omega)).symm)
                    refine g_lv [1, 2, 3, 4, 5, 6, 7, 8, 9, 10, 11, 0] rfl ?_
                    exact L405 ((pg + 1 - 1) + 1).toNat 1 av_q7 0 0 (by omega) (at_in J hav_q7 (by omega)) (rfl) (mos_0) (by omega) (by omega)
                  · skip
                    have v9_q7 := J.hsp uv_q7 (by omega) (by omega)
                    have y9_q7 := v9_q7.1.1
                    have s9_q7 := J.hgr.1 uv_q7 (by omega) (by omega)
                    have p9_q7 := J.hp4 uv_q7 (by omega) (by omega)
                    have pl9_q7 := pgs_le v9_q7.1 (by omega)
                    refine g_iconst S dL_law_119 ?_
                    refine g_istore S (lv' := [(13, .int (iI 0)), (0, .ref (sb)), (1, .ref (ad 0)), (2, .ref (sm)), (3, .int (iI tm_q7)), (4, .int (iI xx_q7)), (5, .long (DIG sp se al n pg)), (7, .int (iI n)), (8, .int (iI pg)), (9, .int (iI av_q7)), (10, .int (iI 0)), (11, .int (iI 0)), (12, .int (iI uv_q7))]) dL_law_120 (Nat.le_of_ble_eq_true rfl) rfl ?_
                    refine g_iconst S dL_law_122 ?_
                    refine g_istore S (lv' := [(14, .int (iI (-1))), (13, .int (iI 0)), (0, .ref (sb)), (1, .ref (ad 0)), (2, .ref (sm)), (3, .int (iI tm_q7)), (4, .int (iI xx_q7)), (5, .long (DIG sp se al n pg)), (7, .int (iI n)), (8, .int (iI pg)), (9, .int (iI av_q7)), (10, .int (iI 0)), (11, .int (iI 0)), (12, .int (iI uv_q7))]) dL_law_123 (Nat.le_of_ble_eq_true rfl) rfl ?_
                    refine g_iconst S dL_law_125 ?_
                    refine g_istore S (lv' := [(15, .int (iI 0)), (14, .int (iI (-1))), (13, .int (iI 0)), (0, .ref (sb)), (1, .ref (ad 0)), (2, .ref (sm)), (3, .int (iI tm_q7)), (4, .int (iI xx_q7)), (5, .long (DIG sp se al n pg)), (7, .int (iI n)), (8, .int (iI pg)), (9, .int (iI av_q7)), (10, .int (iI 0)), (11, .int (iI 0)), (12, .int (iI uv_q7))]) dL_law_126 (Nat.le_of_ble_eq_true rfl) rfl ?_
                    have L128 : ∀ (nf : Nat) (kv : Int) (sv_q7 : Int) (lav_q7 : Int), (0 ≤ kv ∧ kv ≤ (sp uv_q7).1) → (sv_q7 = smI (fun k => (sp uv_q7).2.2 k - (sp uv_q7).2.1 k + 1) kv.toNat) → (LAS (sp uv_q7) kv lav_q7) → ((sp uv_q7).1 - kv < (nf : Int)) → G xp l xe ({ frames := 12, cells := 1032851, slots := 6002914, locals := 458 }) xs xm xa xb xh xc 25 (fun q0 => zb ≤ q0) kc ks xQ 128 [(0, .ref (sb)), (1, .ref (ad 0)), (2, .ref (sm)), (3, .int (iI tm_q7)), (4, .int (iI xx_q7)), (5, .long (DIG sp se al n pg)), (7, .int (iI n)), (8, .int (iI pg)), (9, .int (iI av_q7)), (10, .int (iI 0)), (11, .int (iI 0)), (12, .int (iI uv_q7)), (13, .int (iI sv_q7)), (14, .int (iI lav_q7)), (15, .int (iI kv))] [] (fun H => zq ≤ H.size ∧ va_at E.1 vwCl (sm, .inr (2, [.int (iI pg), .ref (s3 SS), .ref (s1 SS), .ref (s2 SS)])) H ∧ (SX E zc sm SS sp se n) H ∧ (CA E ad sp se al n pg) H ∧ (vS scr sb) H) := by
                      intro nf
                      induction nf with
                      | zero =>
                        intro kv sv_q7 lav_q7 hkv_q7 hsv_q7 hla_q7 hmf
                        exfalso
                        omega
                      | succ nf ihL128 =>
                        intro kv sv_q7 lav_q7 hkv_q7 hsv_q7 hla_q7 hmf
                        refine g_iload S dL_law_128 14 rfl ?_
                        refine g_aload_n S dL_law_130 rfl 1 rfl ?_
                        refine g_iload S dL_law_131 11 rfl ?_
                        refine g_callV S xK (As := [.int (iI uv_q7)]) (st := [.int (iI kv)]) (stk' := [.int (iI ((sp uv_q7).1)), .int (iI kv)]) (Wp' := fun H => zq ≤ H.size ∧ va_at E.1 vwCl (sm, .inr (2, [.int (iI pg), .ref (s3 SS), .ref (s1 SS), .ref (s2 SS)])) H ∧ (SX E zc sm SS sp se n) H ∧ (CA E ad sp se al n pg) H ∧ (vS scr sb) H) (r := (RX1, TX1, 9)) (q_spansOf l E hj J uv_q7 (by omega)) (cwV 1 S.2.2.2.2 gL_law_X1_spansOf rfl rfl rfl (by decide +kernel) ⟨Nat.le_of_ble_eq_true rfl, Nat.le_of_ble_eq_true rfl⟩) rfl rfl rfl rfl (Nat.le_of_ble_eq_true rfl) ⟨show kc + 0 ≤ 1032851 by omega, show ks + 0 ≤ 6002914 by omega⟩ (fun q9 h9 => (hax q9 h9).1) (fun _ h => h.2.2.2.1.cx) (fun _ h => h.2.2.2.1) (fun _ _ h h2 hle_q7 hq => ⟨Nat.le_trans h.1 hle_q7, h.2.1.kept (hq _ h.2.1.lt (fun w9_q7 => by have w8_q7 := hax _ w9_q7; omega)), h.2.2.1.far (fun q q1 q2 => hq q q1 (fun w9_q7 => by have w8_q7 := (hax q w9_q7).2; omega)), h2, h.2.2.2.2.kept (hq _ h.2.2.2.2.lt (fun w9_q7 => by have w8_q7 := hax _ w9_q7; omega))⟩) dL_law_133 ?_
                        refine g_icmp_ge S (tgt := 278) dL_law_136 (by decide) (by omega) (fun c136_q7 => ?_) (fun c136_q7 => ?_)
                        · skip
                          have es_q7 : sv_q7 = PGS (sp uv_q7) := by rw [hsv_q7, show kv = (sp uv_q7).1 by omega]
                          have sp9_q7 := see_pgs J (a := uv_q7) (by omega)
                          have g0_q7 := (vl_ns v9_q7.1 (show 0 ≤ pg by omega)).symm
                          have g1_q7 := gap_le v9_q7.1 (show (0 : Int) ≤ 100 by decide) (show 0 ≤ pg by omega)
                          have g1b_q7 := spS_b (cov (sp uv_q7)) 100 pg.toNat
                          have g2_q7 := com_self (sp := sp) (u := uv_q7) v9_q7.1 (show 0 ≤ pg by omega)
                          have g3_q7 := tog_self (sp := sp) (u := uv_q7) v9_q7.1 (show 0 ≤ pg by omega)
                          refine g_iload S dL_law_278 8 rfl ?_
                          refine g_iload S dL_law_280 12 rfl ?_
                          refine g_iadd S dL_law_282 ?_
                          refine g_istore S (lv' := [(9, .int (iI (av_q7 + sv_q7))), (0, .ref (sb)), (1, .ref (ad 0)), (2, .ref (sm)), (3, .int (iI tm_q7)), (4, .int (iI xx_q7)), (5, .long (DIG sp se al n pg)), (7, .int (iI n)), (8, .int (iI pg)), (10, .int (iI 0)), (11, .int (iI 0)), (12, .int (iI uv_q7)), (13, .int (iI sv_q7)), (14, .int (iI lav_q7)), (15, .int (iI kv))]) dL_law_283 (Nat.le_of_ble_eq_true rfl) rfl ?_
                          refine g_iload S dL_law_285 12 rfl ?_
                          refine g_aload_n S dL_law_287 rfl 2 rfl ?_
                          refine g_iload S dL_law_288 11 rfl ?_
                          refine g_callV S xK (As := [.int (iI uv_q7)]) (st := [.int (iI sv_q7)]) (stk' := [.int (iI (PGS (sp uv_q7))), .int (iI sv_q7)]) (Wp' := fun H => zq ≤ H.size ∧ va_at E.1 vwCl (sm, .inr (2, [.int (iI pg), .ref (s3 SS), .ref (s1 SS), .ref (s2 SS)])) H ∧ (SX E zc sm SS sp se n) H ∧ (CA E ad sp se al n pg) H ∧ (vS scr sb) H) (r := (RX1, TX1, 9)) (q_pagesOf l E hj J uv_q7 (by omega)) (cwV 1 S.2.2.2.2 gL_law_X1_pagesOf rfl rfl rfl (by decide +kernel) ⟨Nat.le_of_ble_eq_true rfl, Nat.le_of_ble_eq_true rfl⟩) rfl rfl rfl rfl (Nat.le_of_ble_eq_true rfl) ⟨show kc + 0 ≤ 1032851 by omega, show ks + 0 ≤ 6002914 by omega⟩ (fun q9 h9 => (hax q9 h9).1) (fun _ h => h.2.2.2.1.cx) (fun _ h => h.2.2.2.1) (fun _ _ h h2 hle_q7 hq => ⟨Nat.le_trans h.1 hle_q7, h.2.1.kept (hq _ h.2.1.lt (fun w9_q7 => by have w8_q7 := hax _ w9_q7; omega)), h.2.2.1.far (fun q q1 q2 => hq q q1 (fun w9_q7 => by have w8_q7 := (hax q w9_q7).2; omega)), h2, h.2.2.2.2.kept (hq _ h.2.2.2.2.lt (fun w9_q7 => by have w8_q7 := hax _ w9_q7; omega))⟩) dL_law_290 ?_
                          refine g_icmp_ne S (tgt := 394) dL_law_293 (by decide) (by omega) (fun c293_q7 => ?_) (fun c293_q7 => ?_)
                          · skip
                            exact absurd c293_q7 (by omega)
                          · skip
                            refine g_aload_n S dL_law_296 rfl 2 rfl ?_
                            refine g_iload S dL_law_297 11 rfl ?_
                            refine g_callV S xK (As := [.int (iI uv_q7)]) (st := []) (stk' := [.int (iI ((sp uv_q7).1))]) (Wp' := fun H => zq ≤ H.size ∧ va_at E.1 vwCl (sm, .inr (2, [.int (iI pg), .ref (s3 SS), .ref (s1 SS), .ref (s2 SS)])) H ∧ (SX E zc sm SS sp se n) H ∧ (CA E ad sp se al n pg) H ∧ (vS scr sb) H) (r := (RX1, TX1, 9)) (q_spansOf l E hj J uv_q7 (by omega)) (cwV 1 S.2.2.2.2 gL_law_X1_spansOf rfl rfl rfl (by decide +kernel) ⟨Nat.le_of_ble_eq_true rfl, Nat.le_of_ble_eq_true rfl⟩) rfl rfl rfl rfl (Nat.le_of_ble_eq_true rfl) ⟨show kc + 0 ≤ 1032851 by omega, show ks + 0 ≤ 6002914 by omega⟩ (fun q9 h9 => (hax q9 h9).1) (fun _ h => h.2.2.2.1.cx) (fun _ h => h.2.2.2.1) (fun _ _ h h2 hle_q7 hq => ⟨Nat.le_trans h.1 hle_q7, h.2.1.kept (hq _ h.2.1.lt (fun w9_q7 => by have w8_q7 := hax _ w9_q7; omega)), h.2.2.1.far (fun q q1 q2 => hq q q1 (fun w9_q7 => by have w8_q7 := (hax q w9_q7).2; omega)), h2, h.2.2.2.2.kept (hq _ h.2.2.2.2.lt (fun w9_q7 => by have w8_q7 := hax _ w9_q7; omega))⟩) dL_law_299 ?_
                            refine g_bipush S dL_law_302 (by decide) ?_
                            refine g_icmp_gt S (tgt := 394) dL_law_304 (by decide) (by omega) (fun c304_q7 => ?_) (fun c304_q7 => ?_)
                            · skip
                              exact absurd c304_q7 (by omega)
                            · skip
                              have L321 : G xp l xe ({ frames := 12, cells := 1032851, slots := 6002914, locals := 458 }) xs xm xa xb xh xc 25 (fun q0 => zb ≤ q0) kc ks xQ 321 [(0, .ref (sb)), (1, .ref (ad 0)), (2, .ref (sm)), (3, .int (iI tm_q7)), (4, .int (iI xx_q7)), (5, .long (DIG sp se al n pg)), (7, .int (iI n)), (8, .int (iI pg)), (9, .int (iI (av_q7 + sv_q7))), (10, .int (iI 0)), (11, .int (iI 0)), (12, .int (iI uv_q7)), (13, .int (iI sv_q7))] [] (fun H => zq ≤ H.size ∧ va_at E.1 vwCl (sm, .inr (2, [.int (iI pg), .ref (s3 SS), .ref (s1 SS), .ref (s2 SS)])) H ∧ (SX E zc sm SS sp se n) H ∧ (CA E ad sp se al n pg) H ∧ (vS scr sb) H) := by
                                refine g_aload_n S dL_law_321 rfl 1 rfl ?_
                                refine g_iload S dL_law_322 11 rfl ?_
                                refine g_callV S xK (As := [.int (iI uv_q7)]) (st := []) (stk' := [.int (iI ((pop (al uv_q7) 24 : Nat) : Int))]) (Wp' := fun H => zq ≤ H.size ∧ va_at E.1 vwCl (sm, .inr (2, [.int (iI pg), .ref (s3 SS), .ref (s1 SS), .ref (s2 SS)])) H ∧ (SX E zc sm SS sp se n) H ∧ (CA E ad sp se al n pg) H ∧ (vS scr sb) H) (r := (RX1, TX1, 9)) (q_seeAlsosOf l E hj J uv_q7 (by omega)) (cwV 1 S.2.2.2.2 gL_law_X1_seeAlsosOf rfl rfl rfl (by decide +kernel) ⟨Nat.le_of_ble_eq_true rfl, Nat.le_of_ble_eq_true rfl⟩) rfl rfl rfl rfl (Nat.le_of_ble_eq_true rfl) ⟨show kc + 0 ≤ 1032851 by omega, show ks + 0 ≤ 6002914 by omega⟩ (fun q9 h9 => (hax q9 h9).1) (fun _ h => h.2.2.2.1.cx) (fun _ h => h.2.2.2.1) (fun _ _ h h2 hle_q7 hq => ⟨Nat.le_trans h.1 hle_q7, h.2.1.kept (hq _ h.2.1.lt (fun w9_q7 => by have w8_q7 := hax _ w9_q7; omega)), h.2.2.1.far (fun q q1 q2 => hq q q1 (fun w9_q7 => by have w8_q7 := (hax q w9_q7).2; omega)), h2, h.2.2.2.2.kept (hq _ h.2.2.2.2.lt (fun w9_q7 => by have w8_q7 := hax _ w9_q7; omega))⟩) dL_law_324 ?_
                                refine g_iconst S dL_law_327 ?_
                                refine g_icmp_gt S (tgt := 394) dL_law_328 (by decide) (by omega) (fun c328_q7 => ?_) (fun c328_q7 => ?_)
                                · skip
                                  exact absurd c328_q7 (by omega)
                                · skip
                                  refine g_aload_n S dL_law_331 rfl 1 rfl ?_
                                  refine g_iload S dL_law_332 11 rfl ?_
                                  refine g_iconst S dL_law_334 ?_
                                  refine g_callV S xK (As := [.int (iI uv_q7), .int (iI 0)]) (st := []) (stk' := [.int (iI ((spS (cov (sp uv_q7)) 0 pg.toNat).1))]) (Wp' := fun H => zq ≤ H.size ∧ va_at E.1 vwCl (sm, .inr (2, [.int (iI pg), .ref (s3 SS), .ref (s1 SS), .ref (s2 SS)])) H ∧ (SX E zc sm SS sp se n) H ∧ (CA E ad sp se al n pg) H ∧ (vS scr sb) H) (r := (RX1, TX1, 9)) (q_spansWithGap l E hj J uv_q7 0 (by omega) (by omega)) (cwV 2 S.2.2.2.2 gL_law_X1_spansWithGap rfl rfl rfl (by decide +kernel) ⟨Nat.le_of_ble_eq_true rfl, Nat.le_of_ble_eq_true rfl⟩) rfl rfl rfl rfl (Nat.le_of_ble_eq_true rfl) ⟨show kc + 0 ≤ 1032851 by omega, show ks + 0 ≤ 6002914 by omega⟩ (fun q9 h9 => (hax q9 h9).1) (fun _ h => h.2.2.2.1.cx) (fun _ h => h.2.2.2.1) (fun _ _ h h2 hle_q7 hq => ⟨Nat.le_trans h.1 hle_q7, h.2.1.kept (hq _ h.2.1.lt (fun w9_q7 => by have w8_q7 := hax _ w9_q7; omega)), h.2.2.1.far (fun q q1 q2 => hq q q1 (fun w9_q7 => by have w8_q7 := (hax q w9_q7).2; omega)), h2, h.2.2.2.2.kept (hq _ h.2.2.2.2.lt (fun w9_q7 => by have w8_q7 := hax _ w9_q7; omega))⟩) dL_law_335 ?_
                                  refine g_aload_n S dL_law_338 rfl 1 rfl ?_
                                  refine g_iload S dL_law_339 11 rfl ?_
                                  refine g_callV S xK (As := [.int (iI uv_q7)]) (st := [.int (iI ((spS (cov (sp uv_q7)) 0 pg.toNat).1))]) (stk' := [.int (iI ((sp uv_q7).1)), .int (iI ((spS (cov (sp uv_q7)) 0 pg.toNat).1))]) (Wp' := fun H => zq ≤ H.size ∧ va_at E.1 vwCl (sm, .inr (2, [.int (iI pg), .ref (s3 SS), .ref (s1 SS), .ref (s2 SS)])) H ∧ (SX E zc sm SS sp se n) H ∧ (CA E ad sp se al n pg) H ∧ (vS scr sb) H) (r := (RX1, TX1, 9)) (q_spansOf l E hj J uv_q7 (by omega)) (cwV 1 S.2.2.2.2 gL_law_X1_spansOf rfl rfl rfl (by decide +kernel) ⟨Nat.le_of_ble_eq_true rfl, Nat.le_of_ble_eq_true rfl⟩) rfl rfl rfl rfl (Nat.le_of_ble_eq_true rfl) ⟨show kc + 0 ≤ 1032851 by omega, show ks + 0 ≤ 6002914 by omega⟩ (fun q9 h9 => (hax q9 h9).1) (fun _ h => h.2.2.2.1.cx) (fun _ h => h.2.2.2.1) (fun _ _ h h2 hle_q7 hq => ⟨Nat.le_trans h.1 hle_q7, h.2.1.kept (hq _ h.2.1.lt (fun w9_q7 => by have w8_q7 := hax _ w9_q7; omega)), h.2.2.1.far (fun q q1 q2 => hq q q1 (fun w9_q7 => by have w8_q7 := (hax q w9_q7).2; omega)), h2, h.2.2.2.2.kept (hq _ h.2.2.2.2.lt (fun w9_q7 => by have w8_q7 := hax _ w9_q7; omega))⟩) dL_law_341 ?_
                                  refine g_icmp_ne S (tgt := 394) dL_law_344 (by decide) (by omega) (fun c344_q7 => ?_) (fun c344_q7 => ?_)
                                  · skip
                                    exact absurd c344_q7 (by omega)
                                  · skip
                                    refine g_aload_n S dL_law_347 rfl 1 rfl ?_
                                    refine g_iload S dL_law_348 11 rfl ?_
                                    refine g_bipush S dL_law_350 (by decide) ?_
                                    refine g_callV S xK (As := [.int (iI uv_q7), .int (iI 100)]) (st := []) (stk' := [.int (iI ((spS (cov (sp uv_q7)) 100 pg.toNat).1))]) (Wp' := fun H => zq ≤ H.size ∧ va_at E.1 vwCl (sm, .inr (2, [.int (iI pg), .ref (s3 SS), .ref (s1 SS), .ref (s2 SS)])) H ∧ (SX E zc sm SS sp se n) H ∧ (CA E ad sp se al n pg) H ∧ (vS scr sb) H) (r := (RX1, TX1, 9)) (q_spansWithGap l E hj J uv_q7 100 (by omega) (by omega)) (cwV 2 S.2.2.2.2 gL_law_X1_spansWithGap rfl rfl rfl (by decide +kernel) ⟨Nat.le_of_ble_eq_true rfl, Nat.le_of_ble_eq_true rfl⟩) rfl rfl rfl rfl (Nat.le_of_ble_eq_true rfl) ⟨show kc + 0 ≤ 1032851 by omega, show ks + 0 ≤ 6002914 by omega⟩ (fun q9 h9 => (hax q9 h9).1) (fun _ h => h.2.2.2.1.cx) (fun _ h => h.2.2.2.1) (fun _ _ h h2 hle_q7 hq => ⟨Nat.le_trans h.1 hle_q7, h.2.1.kept (hq _ h.2.1.lt (fun w9_q7 => by have w8_q7 := hax _ w9_q7; omega)), h.2.2.1.far (fun q q1 q2 => hq q q1 (fun w9_q7 => by have w8_q7 := (hax q w9_q7).2; omega)), h2, h.2.2.2.2.kept (hq _ h.2.2.2.2.lt (fun w9_q7 => by have w8_q7 := hax _ w9_q7; omega))⟩) dL_law_352 ?_
                                    refine g_aload_n S dL_law_355 rfl 1 rfl ?_
                                    refine g_iload S dL_law_356 11 rfl ?_
                                    refine g_callV S xK (As := [.int (iI uv_q7)]) (st := [.int (iI ((spS (cov (sp uv_q7)) 100 pg.toNat).1))]) (stk' := [.int (iI ((sp uv_q7).1)), .int (iI ((spS (cov (sp uv_q7)) 100 pg.toNat).1))]) (Wp' := fun H => zq ≤ H.size ∧ va_at E.1 vwCl (sm, .inr (2, [.int (iI pg), .ref (s3 SS), .ref (s1 SS), .ref (s2 SS)])) H ∧ (SX E zc sm SS sp se n) H ∧ (CA E ad sp se al n pg) H ∧ (vS scr sb) H) (r := (RX1, TX1, 9)) (q_spansOf l E hj J uv_q7 (by omega)) (cwV 1 S.2.2.2.2 gL_law_X1_spansOf rfl rfl rfl (by decide +kernel) ⟨Nat.le_of_ble_eq_true rfl, Nat.le_of_ble_eq_true rfl⟩) rfl rfl rfl rfl (Nat.le_of_ble_eq_true rfl) ⟨show kc + 0 ≤ 1032851 by omega, show ks + 0 ≤ 6002914 by omega⟩ (fun q9 h9 => (hax q9 h9).1) (fun _ h => h.2.2.2.1.cx) (fun _ h => h.2.2.2.1) (fun _ _ h h2 hle_q7 hq => ⟨Nat.le_trans h.1 hle_q7, h.2.1.kept (hq _ h.2.1.lt (fun w9_q7 => by have w8_q7 := hax _ w9_q7; omega)), h.2.2.1.far (fun q q1 q2 => hq q q1 (fun w9_q7 => by have w8_q7 := (hax q w9_q7).2; omega)), h2, h.2.2.2.2.kept (hq _ h.2.2.2.2.lt (fun w9_q7 => by have w8_q7 := hax _ w9_q7; omega))⟩) dL_law_358 ?_
                                    refine g_icmp_gt S (tgt := 394) dL_law_361 (by decide) (by omega) (fun c361_q7 => ?_) (fun c361_q7 => ?_)
                                    · skip
                                      exact absurd c361_q7 (by omega)
                                    · skip
                                      refine g_aload_n S dL_law_364 rfl 1 rfl ?_
                                      refine g_iload S dL_law_365 11 rfl ?_
                                      refine g_iload S dL_law_367 11 rfl ?_
                                      refine g_callV S xK (As := [.int (iI uv_q7), .int (iI uv_q7)]) (st := []) (stk' := [.int (iI (COM sp pg uv_q7 uv_q7))]) (Wp' := fun H => zq ≤ H.size ∧ va_at E.1 vwCl (sm, .inr (2, [.int (iI pg), .ref (s3 SS), .ref (s1 SS), .ref (s2 SS)])) H ∧ (SX E zc sm SS sp se n) H ∧ (CA E ad sp se al n pg) H ∧ (vS scr sb) H) (r := (RX1, TX1, 9)) (q_commonPages l E hj J uv_q7 uv_q7 (by omega) (by omega)) (cwV 2 S.2.2.2.2 gL_law_X1_commonPages rfl rfl rfl (by decide +kernel) ⟨Nat.le_of_ble_eq_true rfl, Nat.le_of_ble_eq_true rfl⟩) rfl rfl rfl rfl (Nat.le_of_ble_eq_true rfl) ⟨show kc + 0 ≤ 1032851 by omega, show ks + 0 ≤ 6002914 by omega⟩ (fun q9 h9 => (hax q9 h9).1) (fun _ h => h.2.2.2.1.cx) (fun _ h => h.2.2.2.1) (fun _ _ h h2 hle_q7 hq => ⟨Nat.le_trans h.1 hle_q7, h.2.1.kept (hq _ h.2.1.lt (fun w9_q7 => by have w8_q7 := hax _ w9_q7; omega)), h.2.2.1.far (fun q q1 q2 => hq q q1 (fun w9_q7 => by have w8_q7 := (hax q w9_q7).2; omega)), h2, h.2.2.2.2.kept (hq _ h.2.2.2.2.lt (fun w9_q7 => by have w8_q7 := hax _ w9_q7; omega))⟩) dL_law_369 ?_
                                      refine g_iload S dL_law_372 12 rfl ?_
                                      refine g_icmp_ne S (tgt := 394) dL_law_374 (by decide) (by omega) (fun c374_q7 => ?_) (fun c374_q7 => ?_)
                                      · skip
                                        exact absurd c374_q7 (by omega)
                                      · skip
                                        refine g_aload_n S dL_law_377 rfl 1 rfl ?_
                                        refine g_iload S dL_law_378 11 rfl ?_
                                        refine g_iload S dL_law_380 11 rfl ?_
                                        refine g_callV S xK (As := [.int (iI uv_q7), .int (iI uv_q7)]) (st := []) (stk' := [.int (iI (TOG sp pg uv_q7 uv_q7))]) (Wp' := fun H => zq ≤ H.size ∧ va_at E.1 vwCl (sm, .inr (2, [.int (iI pg), .ref (s3 SS), .ref (s1 SS), .ref (s2 SS)])) H ∧ (SX E zc sm SS sp se n) H ∧ (CA E ad sp se al n pg) H ∧ (vS scr sb) H) (r := (RX1, TX1, 9)) (q_spansTogether l E hj J uv_q7 uv_q7 (by omega) (by omega)) (cwV 2 S.2.2.2.2 gL_law_X1_spansTogether rfl rfl rfl (by decide +kernel) ⟨Nat.le_of_ble_eq_true rfl, Nat.le_of_ble_eq_true rfl⟩) rfl rfl rfl rfl (Nat.le_of_ble_eq_true rfl) ⟨show kc + 0 ≤ 1032851 by omega, show ks + 0 ≤ 6002914 by omega⟩ (fun q9 h9 => (hax q9 h9).1) (fun _ h => h.2.2.2.1.cx) (fun _ h => h.2.2.2.1) (fun _ _ h h2 hle_q7 hq => ⟨Nat.le_trans h.1 hle_q7, h.2.1.kept (hq _ h.2.1.lt (fun w9_q7 => by have w8_q7 := hax _ w9_q7; omega)), h.2.2.1.far (fun q q1 q2 => hq q q1 (fun w9_q7 => by have w8_q7 := (hax q w9_q7).2; omega)), h2, h.2.2.2.2.kept (hq _ h.2.2.2.2.lt (fun w9_q7 => by have w8_q7 := hax _ w9_q7; omega))⟩) dL_law_382 ?_
                                        refine g_aload_n S dL_law_385 rfl 1 rfl ?_
                                        refine g_iload S dL_law_386 11 rfl ?_
                                        refine g_callV S xK (As := [.int (iI uv_q7)]) (st := [.int (iI (TOG sp pg uv_q7 uv_q7))]) (stk' := [.int (iI ((sp uv_q7).1)), .int (iI (TOG sp pg uv_q7 uv_q7))]) (Wp' := fun H => zq ≤ H.size ∧ va_at E.1 vwCl (sm, .inr (2, [.int (iI pg), .ref (s3 SS), .ref (s1 SS), .ref (s2 SS)])) H ∧ (SX E zc sm SS sp se n) H ∧ (CA E ad sp se al n pg) H ∧ (vS scr sb) H) (r := (RX1, TX1, 9)) (q_spansOf l E hj J uv_q7 (by omega)) (cwV 1 S.2.2.2.2 gL_law_X1_spansOf rfl rfl rfl (by decide +kernel) ⟨Nat.le_of_ble_eq_true rfl, Nat.le_of_ble_eq_true rfl⟩) rfl rfl rfl rfl (Nat.le_of_ble_eq_true rfl) ⟨show kc + 0 ≤ 1032851 by omega, show ks + 0 ≤ 6002914 by omega⟩ (fun q9 h9 => (hax q9 h9).1) (fun _ h => h.2.2.2.1.cx) (fun _ h => h.2.2.2.1) (fun _ _ h h2 hle_q7 hq => ⟨Nat.le_trans h.1 hle_q7, h.2.1.kept (hq _ h.2.1.lt (fun w9_q7 => by have w8_q7 := hax _ w9_q7; omega)), h.2.2.1.far (fun q q1 q2 => hq q q1 (fun w9_q7 => by have w8_q7 := (hax q w9_q7).2; omega)), h2, h.2.2.2.2.kept (hq _ h.2.2.2.2.lt (fun w9_q7 => by have w8_q7 := hax _ w9_q7; omega))⟩) dL_law_388 ?_
                                        refine g_icmp_eq S (tgt := 396) dL_law_391 (by decide) (by omega) (fun c391_q7 => ?_) (fun c391_q7 => ?_)
                                        · skip
                                          refine g_iinc S (lv' := [(12, .int (iI (uv_q7 + 1))), (0, .ref (sb)), (1, .ref (ad 0)), (2, .ref (sm)), (3, .int (iI tm_q7)), (4, .int (iI xx_q7)), (5, .long (DIG sp se al n pg)), (7, .int (iI n)), (8, .int (iI pg)), (9, .int (iI (av_q7 + sv_q7))), (10, .int (iI 0)), (11, .int (iI 0)), (13, .int (iI sv_q7))]) dL_law_396 11 rfl (Nat.le_of_ble_eq_true rfl) rfl ?_
                                          refine g_goto S (tgt := 112) dL_law_399 (by decide) ?_
                                          refine g_lv [1, 2, 3, 4, 5, 6, 7, 8, 9, 10, 11, 0] rfl ?_
                                          exact ihL112 (uv_q7 + 1) (av_q7 + sv_q7) (by omega) (by rw [smI_s _ huv_q7.1, ← hav_q7, es_q7]) (by omega)
                                        · skip
                                          exact absurd c391_q7 (by omega)
                              refine g_aload_n S dL_law_307 rfl 2 rfl ?_
                              refine g_iload S dL_law_308 11 rfl ?_
                              refine g_callV S xK (As := [.int (iI uv_q7)]) (st := []) (stk' := [.int (iI (se uv_q7))]) (Wp' := fun H => zq ≤ H.size ∧ va_at E.1 vwCl (sm, .inr (2, [.int (iI pg), .ref (s3 SS), .ref (s1 SS), .ref (s2 SS)])) H ∧ (SX E zc sm SS sp se n) H ∧ (CA E ad sp se al n pg) H ∧ (vS scr sb) H) (r := (RX1, TX1, 9)) (q_seeOf l E hj J uv_q7 (by omega)) (cwV 1 S.2.2.2.2 gL_law_X1_seeOf rfl rfl rfl (by decide +kernel) ⟨Nat.le_of_ble_eq_true rfl, Nat.le_of_ble_eq_true rfl⟩) rfl rfl rfl rfl (Nat.le_of_ble_eq_true rfl) ⟨show kc + 0 ≤ 1032851 by omega, show ks + 0 ≤ 6002914 by omega⟩ (fun q9 h9 => (hax q9 h9).1) (fun _ h => h.2.2.2.1.cx) (fun _ h => h.2.2.2.1) (fun _ _ h h2 hle_q7 hq => ⟨Nat.le_trans h.1 hle_q7, h.2.1.kept (hq _ h.2.1.lt (fun w9_q7 => by have w8_q7 := hax _ w9_q7; omega)), h.2.2.1.far (fun q q1 q2 => hq q q1 (fun w9_q7 => by have w8_q7 := (hax q w9_q7).2; omega)), h2, h.2.2.2.2.kept (hq _ h.2.2.2.2.lt (fun w9_q7 => by have w8_q7 := hax _ w9_q7; omega))⟩) dL_law_310 ?_
                              refine g_if_lt S (tgt := 321) dL_law_313 (by decide) (by omega) (fun c313_q7 => ?_) (fun c313_q7 => ?_)
                              · skip
                                refine g_lv [1, 2, 3, 4, 5, 6, 7, 8, 0, 9, 10, 11, 12] rfl ?_
                                exact L321  
                              · skip
                                refine g_iload S dL_law_316 12 rfl ?_
                                refine g_if_gt S (tgt := 394) dL_law_318 (by decide) (by omega) (fun c318_q7 => ?_) (fun c318_q7 => ?_)
                                · skip
                                  exact absurd c318_q7 (by omega)
                                · skip
                                  refine g_lv [1, 2, 3, 4, 5, 6, 7, 8, 0, 9, 10, 11, 12] rfl ?_
                                  exact L321  
                        · skip
                          have b9_q7 := v9_q7.1.2.2.1 kv (by omega) (by omega)
                          have on9_q7 := sc_on v9_q7.1 (k := kv) (by omega)
                          have lf9_q7 := las_far v9_q7.1 (k := kv) (by omega) hla_q7
                          have lr9_q7 := las_r v9_q7.1 (k := kv) (by omega) hla_q7
                          have o1_q7 := pI_t on9_q7.1
                          have o2_q7 := pI_t on9_q7.2.1
                          have o3_q7 := pI_f on9_q7.2.2.1
                          have o4_q7 := pI_f on9_q7.2.2.2
                          refine g_aload_n S dL_law_139 rfl 1 rfl ?_
                          refine g_iload S dL_law_140 11 rfl ?_
                          refine g_iload S dL_law_142 14 rfl ?_
                          refine g_callV S xK (As := [.int (iI uv_q7), .int (iI kv)]) (st := []) (stk' := [.int (iI ((sp uv_q7).2.1 kv))]) (Wp' := fun H => zq ≤ H.size ∧ va_at E.1 vwCl (sm, .inr (2, [.int (iI pg), .ref (s3 SS), .ref (s1 SS), .ref (s2 SS)])) H ∧ (SX E zc sm SS sp se n) H ∧ (CA E ad sp se al n pg) H ∧ (vS scr sb) H) (r := (RX1, TX1, 9)) (q_startOf l E hj J uv_q7 kv (by omega) (by omega)) (cwV 2 S.2.2.2.2 gL_law_X1_startOf rfl rfl rfl (by decide +kernel) ⟨Nat.le_of_ble_eq_true rfl, Nat.le_of_ble_eq_true rfl⟩) rfl rfl rfl rfl (Nat.le_of_ble_eq_true rfl) ⟨show kc + 0 ≤ 1032851 by omega, show ks + 0 ≤ 6002914 by omega⟩ (fun q9 h9 => (hax q9 h9).1) (fun _ h => h.2.2.2.1.cx) (fun _ h => h.2.2.2.1) (fun _ _ h h2 hle_q7 hq => ⟨Nat.le_trans h.1 hle_q7, h.2.1.kept (hq _ h.2.1.lt (fun w9_q7 => by have w8_q7 := hax _ w9_q7; omega)), h.2.2.1.far (fun q q1 q2 => hq q q1 (fun w9_q7 => by have w8_q7 := (hax q w9_q7).2; omega)), h2, h.2.2.2.2.kept (hq _ h.2.2.2.2.lt (fun w9_q7 => by have w8_q7 := hax _ w9_q7; omega))⟩) dL_law_144 ?_
                          refine g_istore S (lv' := [(16, .int (iI ((sp uv_q7).2.1 kv))), (0, .ref (sb)), (1, .ref (ad 0)), (2, .ref (sm)), (3, .int (iI tm_q7)), (4, .int (iI xx_q7)), (5, .long (DIG sp se al n pg)), (7, .int (iI n)), (8, .int (iI pg)), (9, .int (iI av_q7)), (10, .int (iI 0)), (11, .int (iI 0)), (12, .int (iI uv_q7)), (13, .int (iI sv_q7)), (14, .int (iI lav_q7)), (15, .int (iI kv))]) dL_law_147 (Nat.le_of_ble_eq_true rfl) rfl ?_
                          refine g_aload_n S dL_law_149 rfl 2 rfl ?_
                          refine g_iload S dL_law_150 12 rfl ?_
                          refine g_iload S dL_law_152 15 rfl ?_
                          refine g_callV S xK (As := [.int (iI uv_q7), .int (iI kv)]) (st := []) (stk' := [.int (iI ((sp uv_q7).2.2 kv))]) (Wp' := fun H => zq ≤ H.size ∧ va_at E.1 vwCl (sm, .inr (2, [.int (iI pg), .ref (s3 SS), .ref (s1 SS), .ref (s2 SS)])) H ∧ (SX E zc sm SS sp se n) H ∧ (CA E ad sp se al n pg) H ∧ (vS scr sb) H) (r := (RX1, TX1, 9)) (q_endOf l E hj J uv_q7 kv (by omega) (by omega)) (cwV 2 S.2.2.2.2 gL_law_X1_endOf rfl rfl rfl (by decide +kernel) ⟨Nat.le_of_ble_eq_true rfl, Nat.le_of_ble_eq_true rfl⟩) rfl rfl rfl rfl (Nat.le_of_ble_eq_true rfl) ⟨show kc + 0 ≤ 1032851 by omega, show ks + 0 ≤ 6002914 by omega⟩ (fun q9 h9 => (hax q9 h9).1) (fun _ h => h.2.2.2.1.cx) (fun _ h => h.2.2.2.1) (fun _ _ h h2 hle_q7 hq => ⟨Nat.le_trans h.1 hle_q7, h.2.1.kept (hq _ h.2.1.lt (fun w9_q7 => by have w8_q7 := hax _ w9_q7; omega)), h.2.2.1.far (fun q q1 q2 => hq q q1 (fun w9_q7 => by have w8_q7 := (hax q w9_q7).2; omega)), h2, h.2.2.2.2.kept (hq _ h.2.2.2.2.lt (fun w9_q7 => by have w8_q7 := hax _ w9_q7; omega))⟩) dL_law_154 ?_
                          refine g_istore S (lv' := [(17, .int (iI ((sp uv_q7).2.2 kv))), (16, .int (iI ((sp uv_q7).2.1 kv))), (0, .ref (sb)), (1, .ref (ad 0)), (2, .ref (sm)), (3, .int (iI tm_q7)), (4, .int (iI xx_q7)), (5, .long (DIG sp se al n pg)), (7, .int (iI n)), (8, .int (iI pg)), (9, .int (iI av_q7)), (10, .int (iI 0)), (11, .int (iI 0)), (12, .int (iI uv_q7)), (13, .int (iI sv_q7)), (14, .int (iI lav_q7)), (15, .int (iI kv))]) dL_law_157 (Nat.le_of_ble_eq_true rfl) rfl ?_
                          refine g_iload S dL_law_159 14 rfl ?_
                          refine g_iload S dL_law_161 0 rfl ?_
                          refine g_iload S dL_law_163 1 rfl ?_
                          refine g_isub S dL_law_165 ?_
                          refine g_iconst S dL_law_166 ?_
                          refine g_iadd S dL_law_167 ?_
                          refine g_iadd S dL_law_168 ?_
                          refine g_istore S (lv' := [(13, .int (iI (sv_q7 + ((sp uv_q7).2.2 kv - (sp uv_q7).2.1 kv + 1)))), (17, .int (iI ((sp uv_q7).2.2 kv))), (16, .int (iI ((sp uv_q7).2.1 kv))), (0, .ref (sb)), (1, .ref (ad 0)), (2, .ref (sm)), (3, .int (iI tm_q7)), (4, .int (iI xx_q7)), (5, .long (DIG sp se al n pg)), (7, .int (iI n)), (8, .int (iI pg)), (9, .int (iI av_q7)), (10, .int (iI 0)), (11, .int (iI 0)), (12, .int (iI uv_q7)), (14, .int (iI lav_q7)), (15, .int (iI kv))]) dL_law_169 (Nat.le_of_ble_eq_true rfl) rfl ?_
                          refine g_iload S dL_law_171 2 rfl ?_
                          refine g_iload S dL_law_173 1 rfl ?_
                          refine g_icmp_gt S (tgt := 266) dL_law_175 (by decide) (by omega) (fun c175_q7 => ?_) (fun c175_q7 => ?_)
                          · skip
                            exact absurd c175_q7 (by omega)
                          · skip
                            refine g_iload S dL_law_178 2 rfl ?_
                            refine g_iconst S dL_law_180 ?_
                            refine g_icmp_lt S (tgt := 266) dL_law_181 (by decide) (by omega) (fun c181_q7 => ?_) (fun c181_q7 => ?_)
                            · skip
                              exact absurd c181_q7 (by omega)
                            · skip
                              refine g_iload S dL_law_184 1 rfl ?_
                              refine g_iload S dL_law_186 10 rfl ?_
                              refine g_icmp_gt S (tgt := 266) dL_law_188 (by decide) (by omega) (fun c188_q7 => ?_) (fun c188_q7 => ?_)
                              · skip
                                exact absurd c188_q7 (by omega)
                              · skip
                                have L205 : G xp l xe ({ frames := 12, cells := 1032851, slots := 6002914, locals := 458 }) xs xm xa xb xh xc 25 (fun q0 => zb ≤ q0) kc ks xQ 205 [(0, .ref (sb)), (1, .ref (ad 0)), (2, .ref (sm)), (3, .int (iI tm_q7)), (4, .int (iI xx_q7)), (5, .long (DIG sp se al n pg)), (7, .int (iI n)), (8, .int (iI pg)), (9, .int (iI av_q7)), (10, .int (iI 0)), (11, .int (iI 0)), (12, .int (iI uv_q7)), (13, .int (iI (sv_q7 + ((sp uv_q7).2.2 kv - (sp uv_q7).2.1 kv + 1)))), (14, .int (iI lav_q7)), (15, .int (iI kv)), (16, .int (iI ((sp uv_q7).2.1 kv))), (17, .int (iI ((sp uv_q7).2.2 kv)))] [] (fun H => zq ≤ H.size ∧ va_at E.1 vwCl (sm, .inr (2, [.int (iI pg), .ref (s3 SS), .ref (s1 SS), .ref (s2 SS)])) H ∧ (SX E zc sm SS sp se n) H ∧ (CA E ad sp se al n pg) H ∧ (vS scr sb) H) := by
                                  refine g_aload_n S dL_law_205 rfl 1 rfl ?_
                                  refine g_iload S dL_law_206 11 rfl ?_
                                  refine g_iload S dL_law_208 15 rfl ?_
                                  refine g_callV S xK (As := [.int (iI uv_q7), .int (iI ((sp uv_q7).2.1 kv))]) (st := []) (stk' := [.int (iI (pI (cov (sp uv_q7) ((sp uv_q7).2.1 kv))))]) (Wp' := fun H => zq ≤ H.size ∧ va_at E.1 vwCl (sm, .inr (2, [.int (iI pg), .ref (s3 SS), .ref (s1 SS), .ref (s2 SS)])) H ∧ (SX E zc sm SS sp se n) H ∧ (CA E ad sp se al n pg) H ∧ (vS scr sb) H) (r := (RX1, TX1, 9)) (q_isOn l E hj J uv_q7 ((sp uv_q7).2.1 kv) (by omega) (by omega)) (cwV 2 S.2.2.2.2 gL_law_X1_isOn rfl rfl rfl (by decide +kernel) ⟨Nat.le_of_ble_eq_true rfl, Nat.le_of_ble_eq_true rfl⟩) rfl rfl rfl rfl (Nat.le_of_ble_eq_true rfl) ⟨show kc + 0 ≤ 1032851 by omega, show ks + 0 ≤ 6002914 by omega⟩ (fun q9 h9 => (hax q9 h9).1) (fun _ h => h.2.2.2.1.cx) (fun _ h => h.2.2.2.1) (fun _ _ h h2 hle_q7 hq => ⟨Nat.le_trans h.1 hle_q7, h.2.1.kept (hq _ h.2.1.lt (fun w9_q7 => by have w8_q7 := hax _ w9_q7; omega)), h.2.2.1.far (fun q q1 q2 => hq q q1 (fun w9_q7 => by have w8_q7 := (hax q w9_q7).2; omega)), h2, h.2.2.2.2.kept (hq _ h.2.2.2.2.lt (fun w9_q7 => by have w8_q7 := hax _ w9_q7; omega))⟩) dL_law_210 ?_
                                  refine g_if_eq S (tgt := 266) dL_law_213 (by decide) (by omega) (fun c213_q7 => ?_) (fun c213_q7 => ?_)
                                  · skip
                                    exact absurd c213_q7 (by omega)
                                  · skip
                                    refine g_aload_n S dL_law_216 rfl 1 rfl ?_
                                    refine g_iload S dL_law_217 11 rfl ?_
                                    refine g_iload S dL_law_219 16 rfl ?_
                                    refine g_callV S xK (As := [.int (iI uv_q7), .int (iI ((sp uv_q7).2.2 kv))]) (st := []) (stk' := [.int (iI (pI (cov (sp uv_q7) ((sp uv_q7).2.2 kv))))]) (Wp' := fun H => zq ≤ H.size ∧ va_at E.1 vwCl (sm, .inr (2, [.int (iI pg), .ref (s3 SS), .ref (s1 SS), .ref (s2 SS)])) H ∧ (SX E zc sm SS sp se n) H ∧ (CA E ad sp se al n pg) H ∧ (vS scr sb) H) (r := (RX1, TX1, 9)) (q_isOn l E hj J uv_q7 ((sp uv_q7).2.2 kv) (by omega) (by omega)) (cwV 2 S.2.2.2.2 gL_law_X1_isOn rfl rfl rfl (by decide +kernel) ⟨Nat.le_of_ble_eq_true rfl, Nat.le_of_ble_eq_true rfl⟩) rfl rfl rfl rfl (Nat.le_of_ble_eq_true rfl) ⟨show kc + 0 ≤ 1032851 by omega, show ks + 0 ≤ 6002914 by omega⟩ (fun q9 h9 => (hax q9 h9).1) (fun _ h => h.2.2.2.1.cx) (fun _ h => h.2.2.2.1) (fun _ _ h h2 hle_q7 hq => ⟨Nat.le_trans h.1 hle_q7, h.2.1.kept (hq _ h.2.1.lt (fun w9_q7 => by have w8_q7 := hax _ w9_q7; omega)), h.2.2.1.far (fun q q1 q2 => hq q q1 (fun w9_q7 => by have w8_q7 := (hax q w9_q7).2; omega)), h2, h.2.2.2.2.kept (hq _ h.2.2.2.2.lt (fun w9_q7 => by have w8_q7 := hax _ w9_q7; omega))⟩) dL_law_221 ?_
                                    refine g_if_eq S (tgt := 266) dL_law_224 (by decide) (by omega) (fun c224_q7 => ?_) (fun c224_q7 => ?_)
                                    · skip
                                      exact absurd c224_q7 (by omega)
                                    · skip
                                      have L246 : G xp l xe ({ frames := 12, cells := 1032851, slots := 6002914, locals := 458 }) xs xm xa xb xh xc 25 (fun q0 => zb ≤ q0) kc ks xQ 246 [(0, .ref (sb)), (1, .ref (ad 0)), (2, .ref (sm)), (3, .int (iI tm_q7)), (4, .int (iI xx_q7)), (5, .long (DIG sp se al n pg)), (7, .int (iI n)), (8, .int (iI pg)), (9, .int (iI av_q7)), (10, .int (iI 0)), (11, .int (iI 0)), (12, .int (iI uv_q7)), (13, .int (iI (sv_q7 + ((sp uv_q7).2.2 kv - (sp uv_q7).2.1 kv + 1)))), (14, .int (iI lav_q7)), (15, .int (iI kv)), (16, .int (iI ((sp uv_q7).2.1 kv))), (17, .int (iI ((sp uv_q7).2.2 kv)))] [] (fun H => zq ≤ H.size ∧ va_at E.1 vwCl (sm, .inr (2, [.int (iI pg), .ref (s3 SS), .ref (s1 SS), .ref (s2 SS)])) H ∧ (SX E zc sm SS sp se n) H ∧ (CA E ad sp se al n pg) H ∧ (vS scr sb) H) := by
                                        refine g_iload S dL_law_246 16 rfl ?_
                                        have L268 : G xp l xe ({ frames := 12, cells := 1032851, slots := 6002914, locals := 458 }) xs xm xa xb xh xc 25 (fun q0 => zb ≤ q0) kc ks xQ 268 [(0, .ref (sb)), (1, .ref (ad 0)), (2, .ref (sm)), (3, .int (iI tm_q7)), (4, .int (iI xx_q7)), (5, .long (DIG sp se al n pg)), (7, .int (iI n)), (8, .int (iI pg)), (9, .int (iI av_q7)), (10, .int (iI 0)), (11, .int (iI 0)), (12, .int (iI uv_q7)), (13, .int (iI (sv_q7 + ((sp uv_q7).2.2 kv - (sp uv_q7).2.1 kv + 1)))), (14, .int (iI lav_q7)), (15, .int (iI kv)), (16, .int (iI ((sp uv_q7).2.1 kv))), (17, .int (iI ((sp uv_q7).2.2 kv)))] [] (fun H => zq ≤ H.size ∧ va_at E.1 vwCl (sm, .inr (2, [.int (iI pg), .ref (s3 SS), .ref (s1 SS), .ref (s2 SS)])) H ∧ (SX E zc sm SS sp se n) H ∧ (CA E ad sp se al n pg) H ∧ (vS scr sb) H) := by
                                          refine g_iload S dL_law_268 16 rfl ?_
                                          refine g_istore S (lv' := [(14, .int (iI ((sp uv_q7).2.2 kv))), (0, .ref (sb)), (1, .ref (ad 0)), (2, .ref (sm)), (3, .int (iI tm_q7)), (4, .int (iI xx_q7)), (5, .long (DIG sp se al n pg)), (7, .int (iI n)), (8, .int (iI pg)), (9, .int (iI av_q7)), (10, .int (iI 0)), (11, .int (iI 0)), (12, .int (iI uv_q7)), (13, .int (iI (sv_q7 + ((sp uv_q7).2.2 kv - (sp uv_q7).2.1 kv + 1)))), (15, .int (iI kv)), (16, .int (iI ((sp uv_q7).2.1 kv))), (17, .int (iI ((sp uv_q7).2.2 kv)))]) dL_law_270 (Nat.le_of_ble_eq_true rfl) rfl ?_
                                          refine g_iinc S (lv' := [(15, .int (iI (kv + 1))), (14, .int (iI ((sp uv_q7).2.2 kv))), (0, .ref (sb)), (1, .ref (ad 0)), (2, .ref (sm)), (3, .int (iI tm_q7)), (4, .int (iI xx_q7)), (5, .long (DIG sp se al n pg)), (7, .int (iI n)), (8, .int (iI pg)), (9, .int (iI av_q7)), (10, .int (iI 0)), (11, .int (iI 0)), (12, .int (iI uv_q7)), (13, .int (iI (sv_q7 + ((sp uv_q7).2.2 kv - (sp uv_q7).2.1 kv + 1)))), (16, .int (iI ((sp uv_q7).2.1 kv))), (17, .int (iI ((sp uv_q7).2.2 kv)))]) dL_law_272 14 rfl (Nat.le_of_ble_eq_true rfl) rfl ?_
                                          refine g_goto S (tgt := 128) dL_law_275 (by decide) ?_
                                          refine g_lv [2, 3, 4, 5, 6, 7, 8, 9, 10, 11, 12, 13, 14, 1, 0] rfl ?_
                                          exact ihL128 (kv + 1) (sv_q7 + ((sp uv_q7).2.2 kv - (sp uv_q7).2.1 kv + 1)) ((sp uv_q7).2.2 kv) (by omega) (by rw [smI_s _ hkv_q7.1, ← hsv_q7]) (las_s hkv_q7.1) (by omega)
                                        refine g_iload S dL_law_248 7 rfl ?_
                                        refine g_icmp_ge S (tgt := 268) dL_law_250 (by decide) (by omega) (fun c250_q7 => ?_) (fun c250_q7 => ?_)
                                        · skip
                                          exact L268  
                                        · skip
                                          refine g_aload_n S dL_law_253 rfl 1 rfl ?_
                                          refine g_iload S dL_law_254 11 rfl ?_
                                          refine g_iload S dL_law_256 16 rfl ?_
                                          refine g_iconst S dL_law_258 ?_
                                          refine g_iadd S dL_law_259 ?_
                                          refine g_callV S xK (As := [.int (iI uv_q7), .int (iI ((sp uv_q7).2.2 kv + 1))]) (st := []) (stk' := [.int (iI (pI (cov (sp uv_q7) ((sp uv_q7).2.2 kv + 1))))]) (Wp' := fun H => zq ≤ H.size ∧ va_at E.1 vwCl (sm, .inr (2, [.int (iI pg), .ref (s3 SS), .ref (s1 SS), .ref (s2 SS)])) H ∧ (SX E zc sm SS sp se n) H ∧ (CA E ad sp se al n pg) H ∧ (vS scr sb) H) (r := (RX1, TX1, 9)) (q_isOn l E hj J uv_q7 ((sp uv_q7).2.2 kv + 1) (by omega) (by omega)) (cwV 2 S.2.2.2.2 gL_law_X1_isOn rfl rfl rfl (by decide +kernel) ⟨Nat.le_of_ble_eq_true rfl, Nat.le_of_ble_eq_true rfl⟩) rfl rfl rfl rfl (Nat.le_of_ble_eq_true rfl) ⟨show kc + 0 ≤ 1032851 by omega, show ks + 0 ≤ 6002914 by omega⟩ (fun q9 h9 => (hax q9 h9).1) (fun _ h => h.2.2.2.1.cx) (fun _ h => h.2.2.2.1) (fun _ _ h h2 hle_q7 hq => ⟨Nat.le_trans h.1 hle_q7, h.2.1.kept (hq _ h.2.1.lt (fun w9_q7 => by have w8_q7 := hax _ w9_q7; omega)), h.2.2.1.far (fun q q1 q2 => hq q q1 (fun w9_q7 => by have w8_q7 := (hax q w9_q7).2; omega)), h2, h.2.2.2.2.kept (hq _ h.2.2.2.2.lt (fun w9_q7 => by have w8_q7 := hax _ w9_q7; omega))⟩) dL_law_260 ?_
                                          refine g_if_eq S (tgt := 268) dL_law_263 (by decide) (by omega) (fun c263_q7 => ?_) (fun c263_q7 => ?_)
                                          · skip
                                            exact L268  
                                          · skip
                                            exact absurd c263_q7 (by omega)
                                      refine g_iload S dL_law_227 15 rfl ?_
                                      refine g_iconst S dL_law_229 ?_
                                      refine g_icmp_le S (tgt := 246) dL_law_230 (by decide) (by omega) (fun c230_q7 => ?_) (fun c230_q7 => ?_)
                                      · skip
                                        exact L246  
                                      · skip
                                        refine g_aload_n S dL_law_233 rfl 1 rfl ?_
                                        refine g_iload S dL_law_234 11 rfl ?_
                                        refine g_iload S dL_law_236 15 rfl ?_
                                        refine g_iconst S dL_law_238 ?_
                                        refine g_isub S dL_law_239 ?_
                                        refine g_callV S xK (As := [.int (iI uv_q7), .int (iI ((sp uv_q7).2.1 kv - 1))]) (st := []) (stk' := [.int (iI (pI (cov (sp uv_q7) ((sp uv_q7).2.1 kv - 1))))]) (Wp' := fun H => zq ≤ H.size ∧ va_at E.1 vwCl (sm, .inr (2, [.int (iI pg), .ref (s3 SS), .ref (s1 SS), .ref (s2 SS)])) H ∧ (SX E zc sm SS sp se n) H ∧ (CA E ad sp se al n pg) H ∧ (vS scr sb) H) (r := (RX1, TX1, 9)) (q_isOn l E hj J uv_q7 ((sp uv_q7).2.1 kv - 1) (by omega) (by omega)) (cwV 2 S.2.2.2.2 gL_law_X1_isOn rfl rfl rfl (by decide +kernel) ⟨Nat.le_of_ble_eq_true rfl, Nat.le_of_ble_eq_true rfl⟩) rfl rfl rfl rfl (Nat.le_of_ble_eq_true rfl) ⟨show kc + 0 ≤ 1032851 by omega, show ks + 0 ≤ 6002914 by omega⟩ (fun q9 h9 => (hax q9 h9).1) (fun _ h => h.2.2.2.1.cx) (fun _ h => h.2.2.2.1) (fun _ _ h h2 hle_q7 hq => ⟨Nat.le_trans h.1 hle_q7, h.2.1.kept (hq _ h.2.1.lt (fun w9_q7 => by have w8_q7 := hax _ w9_q7; omega)), h.2.2.1.far (fun q q1 q2 => hq q q1 (fun w9_q7 => by have w8_q7 := (hax q w9_q7).2; omega)), h2, h.2.2.2.2.kept (hq _ h.2.2.2.2.lt (fun w9_q7 => by have w8_q7 := hax _ w9_q7; omega))⟩) dL_law_240 ?_
                                        refine g_if_ne S (tgt := 266) dL_law_243 (by decide) (by omega) (fun c243_q7 => ?_) (fun c243_q7 => ?_)
                                        · skip
                                          exact absurd c243_q7 (by omega)
                                        · skip
                                          exact L246  
                                refine g_iload S dL_law_191 15 rfl ?_
                                refine g_if_le S (tgt := 205) dL_law_193 (by decide) (by omega) (fun c193_q7 => ?_) (fun c193_q7 => ?_)
                                · skip
                                  refine g_lv [3, 4, 5, 6, 7, 8, 9, 10, 11, 12, 13, 14, 0, 15, 16, 2, 1] rfl ?_
                                  exact L205  
                                · skip
                                  refine g_iload S dL_law_196 2 rfl ?_
                                  refine g_iload S dL_law_198 15 rfl ?_
                                  refine g_iconst S dL_law_200 ?_
                                  refine g_iadd S dL_law_201 ?_
                                  refine g_icmp_lt S (tgt := 266) dL_law_202 (by decide) (by omega) (fun c202_q7 => ?_) (fun c202_q7 => ?_)
                                  · skip
                                    exact absurd c202_q7 (by omega)
                                  · skip
                                    refine g_lv [3, 4, 5, 6, 7, 8, 9, 10, 11, 12, 13, 14, 0, 15, 16, 2, 1] rfl ?_
                                    exact L205  
                    refine g_lv [3, 4, 5, 6, 7, 8, 9, 10, 11, 12, 13, 14, 2, 1, 0] rfl ?_
                    exact L128 (((sp uv_q7).1 - 0) + 1).toNat 0 0 (-1) (by omega) (rfl) (las_0) (by omega)
              refine g_lv [7, 8, 9, 10, 11, 6, 5, 4, 3, 2, 1, 0] rfl ?_
              exact L112 ((n - 0) + 1).toNat 0 0 (by omega) (rfl) (by omega)
            · skip
              refine g_aload_n S dL_law_53 rfl 1 rfl ?_
              refine g_aload_n S dL_law_54 rfl 2 rfl ?_
              refine g_iload S dL_law_55 4 rfl ?_
              refine g_iconst S dL_law_57 ?_
              refine g_iload S dL_law_58 5 rfl ?_
              refine g_imul S dL_law_60 ?_
              refine g_ishr S (z := (iI (shI xx_q7 (3 * k3)))) dL_law_61 ((iI_of _).symm) ?_
              refine g_bipush S dL_law_62 (by decide) ?_
              refine g_iload S dL_law_64 5 rfl ?_
              refine g_imul S dL_law_66 ?_
              refine g_iadd S dL_law_67 ?_
              refine g_js (fun zq92 Sq92 spq92 seq92 alq92 nq92 pgq92 hzq92 hTq92 Jq92 haq92 hnq92 => ?_)
              have ghTq92_q7 := hTq92.sge
              refine g_callSU S xK xX xO hAb_q7 (As := [.ref (ad 0), .ref (sm), .int (iI (shI xx_q7 (3 * k3) + 29 * k3))]) (st := []) (stk' := [.int (iI 1)]) (Wp' := fun H => (JS E ad zc sm 2) H ∧ (vS scr sb) H) (m_L_act l E hst zq92 zb zc sm hj hax Sq92 Jq92 (shI xx_q7 (3 * k3) + 29 * k3) hTq92 (by omega) haq92) (vx_cwSW 3 S.2.2.2.2 gL_law_L_act rfl rfl rfl (by decide +kernel) ⟨Nat.le_of_ble_eq_true rfl, Nat.le_of_ble_eq_true rfl⟩) rfl rfl rfl (Nat.le_of_ble_eq_true rfl) ⟨show kc + 1640 ≤ 1032851 by omega, show ks + 26400 ≤ 6002914 by omega⟩ (fun _ h9 => h9) (fun _ h => ⟨h.1, h.2.1, h.2.2.1, h.2.2.2.1⟩) (fun _ _ h h2 hle_q7 hq => ⟨h2.mono hnq92, h.2.2.2.2.kept (hq _ h.2.2.2.2.lt (fun w9_q7 => by have w8_q7 : zb ≤ sb := w9_q7; omega))⟩) dL_law_68 ?_
              refine g_if_ne S (tgt := 76) dL_law_71 (by decide) (by omega) (fun c71_q7 => ?_) (fun c71_q7 => ?_)
              · skip
                refine g_iinc S (lv' := [(5, .int (iI (k3 + 1))), (0, .ref (sb)), (1, .ref (ad 0)), (2, .ref (sm)), (3, .int (iI tm_q7)), (4, .int (iI xx_q7))]) dL_law_76 5 rfl (Nat.le_of_ble_eq_true rfl) rfl ?_
                refine g_goto S (tgt := 47) dL_law_79 (by decide) ?_
                refine g_lv [1, 2, 3, 4, 5, 0] rfl ?_
                exact ihL47 xx_q7 (k3 + 1) (kc + 1640) (ks + 26400) (by omega) (by omega) (by omega)
              · skip
                exact absurd c71_q7 (by decide)
        refine g_lv [2, 3, 4, 5, 1, 0] rfl ?_
        exact L47 (((3 : Int) - 0) + 1).toNat (shI (cel sc L (tm_q7 + 1)) 2 + 53 * tm_q7) 0 kc ks (by omega) (by omega) (by omega)
  refine g_lv [3, 2, 1, 0] rfl ?_
  exact L22 (((6 : Int) - 0) + 1).toNat 0 (86 + 38000) (1328 + 612000) (by omega) (by omega) (by omega)
