set_option maxHeartbeats 4000000 in
set_option maxRecDepth 100000 in
theorem m_X0_count (l : Launch) (E : EN) {ad : Int → Nat} (hj : INJ ad) (sp : Int → SpT) (se : Int → Int) (al : Int → Nat) (ta : Int → Int) (n pg : Int) (i : Int) (hi : 0 ≤ i ∧ i < 27) (g : SpT) (hg : sp i = g)  : Met l yX0_count wsX0_count ({ frames := 0, cells := 0, slots := 0, locals := 0 }) (CI E [.ref (ad (5 + 3 * i))] (CW E ad sp se al ta n pg)) (QW (some (.int (iI g.1))) (CW E ad sp se al ta n pg) (fun _ => False)) 0 0 (fun _ => False) := by
  refine g_met (cc := cX0_count) (maxL := 1) (ret := (some .int)) (lv := [(0, .ref (ad (5 + 3 * i)))]) (by decide) rfl (Nat.le_of_ble_eq_true rfl) rfl ?_
  intro xp xe xs xm xa xb xh xc S xK xr xlk xin
  have kf18 := S.2.2.2.2 (.fieldLink RX0 18 "BookIndex$Spans" "count" "I") (by decide +kernel)
  have hin0 : ∀ w ∈ wsX00, w ∈ wsX0_count := by decide +kernel
  refine g_aload_n S dX0_count_0 rfl 0 rfl ?_
  refine g_get S xK (ref := "BookIndex$Spans") hin0 2 (by decide) (show vwCl[0]? = some (RX0, TX0, 3) from rfl) kf18 (fun _ h9 => h9) (fun _ h => cw_o (i := i) h (by omega) (hg)) rfl dX0_count_1 ?_
  exact g_iret S xr xlk dX0_count_4 (fun _ h => h)
set_option maxHeartbeats 4000000 in
set_option maxRecDepth 100000 in
theorem m_X0_first (l : Launch) (E : EN) {ad : Int → Nat} (hj : INJ ad) (sp : Int → SpT) (se : Int → Int) (al : Int → Nat) (ta : Int → Int) (n pg : Int) (i : Int) (hi : 0 ≤ i ∧ i < 27) (g : SpT) (hg : sp i = g) (k : Int) (hwb : WB g) (hk : -2147483648 ≤ k ∧ k ≤ 2147483647) : Met l yX0_first wsX0_first ({ frames := 0, cells := 0, slots := 0, locals := 0 }) (CI E [.ref (ad (5 + 3 * i)), .int (iI k)] (CW E ad sp se al ta n pg)) (QW (some (.int (iI (spF g k)))) (CW E ad sp se al ta n pg) (fun _ => False)) 0 0 (fun _ => False) := by
  refine g_met (cc := cX0_first) (maxL := 2) (ret := (some .int)) (lv := [(0, .ref (ad (5 + 3 * i))), (1, .int (iI k))]) (by decide) rfl (Nat.le_of_ble_eq_true rfl) rfl ?_
  intro xp xe xs xm xa xb xh xc S xK xr xlk xin
  have kf18 := S.2.2.2.2 (.fieldLink RX0 18 "BookIndex$Spans" "count" "I") (by decide +kernel)
  have kf9 := S.2.2.2.2 (.fieldLink RX0 9 "BookIndex$Spans" "firsts" "[I") (by decide +kernel)
  have hin0 : ∀ w ∈ wsX00, w ∈ wsX0_first := by decide +kernel
  obtain ⟨w0, w1, w2⟩ := hwb
  refine g_iload_n S dX0_first_0 rfl 1 rfl ?_
  refine g_if_lt S (tgt := 21) dX0_first_1 (by decide) (by omega) (fun c1 => ?_) (fun c1 => ?_)
  · skip
    refine g_iconst S dX0_first_21 ?_
    rw [show (spF g k) = 0 from by unfold spF; first | exact if_pos (by omega) | exact if_neg (by omega)]
    exact g_iret S xr xlk dX0_first_22 (fun _ h => h)
  · skip
    refine g_iload_n S dX0_first_4 rfl 1 rfl ?_
    refine g_aload_n S dX0_first_5 rfl 0 rfl ?_
    refine g_get S xK (ref := "BookIndex$Spans") hin0 2 (by decide) (show vwCl[0]? = some (RX0, TX0, 3) from rfl) kf18 (fun _ h9 => h9) (fun _ h => cw_o (i := i) h (by omega) (hg)) rfl dX0_first_6 ?_
    refine g_icmp_ge S (tgt := 21) dX0_first_9 (by decide) (by omega) (fun c9 => ?_) (fun c9 => ?_)
    · skip
      refine g_iconst S dX0_first_21 ?_
      rw [show (spF g k) = 0 from by unfold spF; first | exact if_pos (by omega) | exact if_neg (by omega)]
      exact g_iret S xr xlk dX0_first_22 (fun _ h => h)
    · skip
      refine g_aload_n S dX0_first_12 rfl 0 rfl ?_
      refine g_get S xK (ref := "BookIndex$Spans") hin0 0 (by decide) (show vwCl[0]? = some (RX0, TX0, 3) from rfl) kf9 (fun _ h9 => h9) (fun _ h => cw_o (i := i) h (by omega) (hg)) rfl dX0_first_13 ?_
      refine g_iload_n S dX0_first_16 rfl 1 rfl ?_
      refine g_iald S xK (n := 16) (fun _ h => cw_f (i := i) h (by omega) (hg)) (by omega) (by decide) dX0_first_17 ?_
      refine g_goto S (tgt := 22) dX0_first_18 (by decide) ?_
      rw [show (spF g k) = (g.2.1 k) from by unfold spF; first | exact if_pos (by omega) | exact if_neg (by omega)]
      exact g_iret S xr xlk dX0_first_22 (fun _ h => h)
set_option maxHeartbeats 4000000 in
set_option maxRecDepth 100000 in
theorem m_X0_last (l : Launch) (E : EN) {ad : Int → Nat} (hj : INJ ad) (sp : Int → SpT) (se : Int → Int) (al : Int → Nat) (ta : Int → Int) (n pg : Int) (i : Int) (hi : 0 ≤ i ∧ i < 27) (g : SpT) (hg : sp i = g) (k : Int) (hwb : WB g) (hk : -2147483648 ≤ k ∧ k ≤ 2147483647) : Met l yX0_last wsX0_last ({ frames := 0, cells := 0, slots := 0, locals := 0 }) (CI E [.ref (ad (5 + 3 * i)), .int (iI k)] (CW E ad sp se al ta n pg)) (QW (some (.int (iI (spL g k)))) (CW E ad sp se al ta n pg) (fun _ => False)) 0 0 (fun _ => False) := by
  refine g_met (cc := cX0_last) (maxL := 2) (ret := (some .int)) (lv := [(0, .ref (ad (5 + 3 * i))), (1, .int (iI k))]) (by decide) rfl (Nat.le_of_ble_eq_true rfl) rfl ?_
  intro xp xe xs xm xa xb xh xc S xK xr xlk xin
  have kf18 := S.2.2.2.2 (.fieldLink RX0 18 "BookIndex$Spans" "count" "I") (by decide +kernel)
  have kf15 := S.2.2.2.2 (.fieldLink RX0 15 "BookIndex$Spans" "lasts" "[I") (by decide +kernel)
  have hin0 : ∀ w ∈ wsX00, w ∈ wsX0_last := by decide +kernel
  obtain ⟨w0, w1, w2⟩ := hwb
  refine g_iload_n S dX0_last_0 rfl 1 rfl ?_
  refine g_if_lt S (tgt := 21) dX0_last_1 (by decide) (by omega) (fun c1 => ?_) (fun c1 => ?_)
  · skip
    refine g_iconst S dX0_last_21 ?_
    rw [show (spL g k) = 0 from by unfold spL; first | exact if_pos (by omega) | exact if_neg (by omega)]
    exact g_iret S xr xlk dX0_last_22 (fun _ h => h)
  · skip
    refine g_iload_n S dX0_last_4 rfl 1 rfl ?_
    refine g_aload_n S dX0_last_5 rfl 0 rfl ?_
    refine g_get S xK (ref := "BookIndex$Spans") hin0 2 (by decide) (show vwCl[0]? = some (RX0, TX0, 3) from rfl) kf18 (fun _ h9 => h9) (fun _ h => cw_o (i := i) h (by omega) (hg)) rfl dX0_last_6 ?_
    refine g_icmp_ge S (tgt := 21) dX0_last_9 (by decide) (by omega) (fun c9 => ?_) (fun c9 => ?_)
    · skip
      refine g_iconst S dX0_last_21 ?_
      rw [show (spL g k) = 0 from by unfold spL; first | exact if_pos (by omega) | exact if_neg (by omega)]
      exact g_iret S xr xlk dX0_last_22 (fun _ h => h)
    · skip
      refine g_aload_n S dX0_last_12 rfl 0 rfl ?_
      refine g_get S xK (ref := "BookIndex$Spans") hin0 1 (by decide) (show vwCl[0]? = some (RX0, TX0, 3) from rfl) kf15 (fun _ h9 => h9) (fun _ h => cw_o (i := i) h (by omega) (hg)) rfl dX0_last_13 ?_
      refine g_iload_n S dX0_last_16 rfl 1 rfl ?_
      refine g_iald S xK (n := 16) (fun _ h => cw_l (i := i) h (by omega) (hg)) (by omega) (by decide) dX0_last_17 ?_
      refine g_goto S (tgt := 22) dX0_last_18 (by decide) ?_
      rw [show (spL g k) = (g.2.2 k) from by unfold spL; first | exact if_pos (by omega) | exact if_neg (by omega)]
      exact g_iret S xr xlk dX0_last_22 (fun _ h => h)
set_option maxHeartbeats 4000000 in
set_option maxRecDepth 100000 in
theorem m_X0_pages (l : Launch) (E : EN) {ad : Int → Nat} (hj : INJ ad) (sp : Int → SpT) (se : Int → Int) (al : Int → Nat) (ta : Int → Int) (n pg : Int) (i : Int) (hi : 0 ≤ i ∧ i < 27) (g : SpT) (hg : sp i = g) (hwb : WB g) : Met l yX0_pages wsX0_pages ({ frames := 0, cells := 0, slots := 0, locals := 0 }) (CI E [.ref (ad (5 + 3 * i))] (CW E ad sp se al ta n pg)) (QW (some (.int (iI (smI (fun k => g.2.2 k - g.2.1 k + 1) g.1.toNat)))) (CW E ad sp se al ta n pg) (fun _ => False)) 0 0 (fun _ => False) := by
  refine g_met (cc := cX0_pages) (maxL := 3) (ret := (some .int)) (lv := [(0, .ref (ad (5 + 3 * i)))]) (by decide) rfl (Nat.le_of_ble_eq_true rfl) rfl ?_
  intro xp xe xs xm xa xb xh xc S xK xr xlk xin
  have kf18 := S.2.2.2.2 (.fieldLink RX0 18 "BookIndex$Spans" "count" "I") (by decide +kernel)
  have kf15 := S.2.2.2.2 (.fieldLink RX0 15 "BookIndex$Spans" "lasts" "[I") (by decide +kernel)
  have kf9 := S.2.2.2.2 (.fieldLink RX0 9 "BookIndex$Spans" "firsts" "[I") (by decide +kernel)
  have hin0 : ∀ w ∈ wsX00, w ∈ wsX0_pages := by decide +kernel
  obtain ⟨w0, w1, w2⟩ := hwb
  have L4 : ∀ (nf : Nat) (z : Int) (t : Int), (0 ≤ z ∧ z ≤ g.1) → (t = smI (fun k => g.2.2 k - g.2.1 k + 1) z.toNat) → (g.1 - z < (nf : Int)) → G xp l xe ({ frames := 0, cells := 0, slots := 0, locals := 0 }) xs xm xa xb xh xc 3 (fun _ => False) 0 0 (MQ xb (QW (some (.int (iI (smI (fun k => g.2.2 k - g.2.1 k + 1) g.1.toNat)))) (CW E ad sp se al ta n pg) (fun _ => False)) xa xs 0 0 (fun _ => False)) 4 [(0, .ref (ad (5 + 3 * i))), (1, .int (iI t)), (2, .int (iI z))] [] (CW E ad sp se al ta n pg) := by
    intro nf
    induction nf with
    | zero =>
      intro z t hz ht hmf
      exfalso
      omega
    | succ nf ihL4 =>
      intro z t hz ht hmf
      refine g_iload_n S dX0_pages_4 rfl 2 rfl ?_
      refine g_aload_n S dX0_pages_5 rfl 0 rfl ?_
      refine g_get S xK (ref := "BookIndex$Spans") hin0 2 (by decide) (show vwCl[0]? = some (RX0, TX0, 3) from rfl) kf18 (fun _ h9 => h9) (fun _ h => cw_o (i := i) h (by omega) (hg)) rfl dX0_pages_6 ?_
      refine g_icmp_ge S (tgt := 36) dX0_pages_9 (by decide) (by omega) (fun c9 => ?_) (fun c9 => ?_)
      · skip
        refine g_iload_n S dX0_pages_36 rfl 1 rfl ?_
        rw [show (smI (fun k => g.2.2 k - g.2.1 k + 1) g.1.toNat) = t from by rw [ht, show z = g.1 by omega]]
        exact g_iret S xr xlk dX0_pages_37 (fun _ h => h)
      · skip
        refine g_iload_n S dX0_pages_12 rfl 1 rfl ?_
        refine g_aload_n S dX0_pages_13 rfl 0 rfl ?_
        refine g_get S xK (ref := "BookIndex$Spans") hin0 1 (by decide) (show vwCl[0]? = some (RX0, TX0, 3) from rfl) kf15 (fun _ h9 => h9) (fun _ h => cw_o (i := i) h (by omega) (hg)) rfl dX0_pages_14 ?_
        refine g_iload_n S dX0_pages_17 rfl 2 rfl ?_
        refine g_iald S xK (n := 16) (fun _ h => cw_l (i := i) h (by omega) (hg)) (by omega) (by decide) dX0_pages_18 ?_
        refine g_aload_n S dX0_pages_19 rfl 0 rfl ?_
        refine g_get S xK (ref := "BookIndex$Spans") hin0 0 (by decide) (show vwCl[0]? = some (RX0, TX0, 3) from rfl) kf9 (fun _ h9 => h9) (fun _ h => cw_o (i := i) h (by omega) (hg)) rfl dX0_pages_20 ?_
        refine g_iload_n S dX0_pages_23 rfl 2 rfl ?_
        refine g_iald S xK (n := 16) (fun _ h => cw_f (i := i) h (by omega) (hg)) (by omega) (by decide) dX0_pages_24 ?_
        refine g_isub S dX0_pages_25 ?_
        refine g_iconst S dX0_pages_26 ?_
        refine g_iadd S dX0_pages_27 ?_
        refine g_iadd S dX0_pages_28 ?_
        refine g_istore_n S (lv' := [(1, .int (iI (t + (g.2.2 z - g.2.1 z + 1)))), (0, .ref (ad (5 + 3 * i))), (2, .int (iI z))]) dX0_pages_29 rfl (Nat.le_of_ble_eq_true rfl) rfl ?_
        refine g_iinc S (lv' := [(2, .int (iI (z + 1))), (1, .int (iI (t + (g.2.2 z - g.2.1 z + 1)))), (0, .ref (ad (5 + 3 * i)))]) dX0_pages_30 2 rfl (Nat.le_of_ble_eq_true rfl) rfl ?_
        refine g_goto S (tgt := 4) dX0_pages_33 (by decide) ?_
        refine g_lv [2, 1, 0] rfl ?_
        exact ihL4 (z + 1) (t + (g.2.2 z - g.2.1 z + 1)) (by omega) (by rw [smI_s _ hz.1, ht]) (by omega)
  refine g_iconst S dX0_pages_0 ?_
  refine g_istore_n S (lv' := [(1, .int (iI 0)), (0, .ref (ad (5 + 3 * i)))]) dX0_pages_1 rfl (Nat.le_of_ble_eq_true rfl) rfl ?_
  refine g_iconst S dX0_pages_2 ?_
  refine g_istore_n S (lv' := [(2, .int (iI 0)), (1, .int (iI 0)), (0, .ref (ad (5 + 3 * i)))]) dX0_pages_3 rfl (Nat.le_of_ble_eq_true rfl) rfl ?_
  refine g_lv [2, 1, 0] rfl ?_
  exact L4 ((g.1 - 0) + 1).toNat 0 0 (by omega) (rfl) (by omega)
set_option maxHeartbeats 4000000 in
set_option maxRecDepth 100000 in
theorem m_X0_has (l : Launch) (E : EN) {ad : Int → Nat} (hj : INJ ad) (sp : Int → SpT) (se : Int → Int) (al : Int → Nat) (ta : Int → Int) (n pg : Int) (i : Int) (hi : 0 ≤ i ∧ i < 27) (g : SpT) (hg : sp i = g) (q : Int) (hwb : WB g) (hq : -2147483648 ≤ q ∧ q ≤ 2147483647) : Met l yX0_has wsX0_has ({ frames := 0, cells := 0, slots := 0, locals := 0 }) (CI E [.ref (ad (5 + 3 * i)), .int (iI q)] (CW E ad sp se al ta n pg)) (QW (some (.int (iI (pI (cov g q))))) (CW E ad sp se al ta n pg) (fun _ => False)) 0 0 (fun _ => False) := by
  refine g_met (cc := cX0_has) (maxL := 3) (ret := (some .boolean)) (lv := [(0, .ref (ad (5 + 3 * i))), (1, .int (iI q))]) (by decide) rfl (Nat.le_of_ble_eq_true rfl) rfl ?_
  intro xp xe xs xm xa xb xh xc S xK xr xlk xin
  have kf18 := S.2.2.2.2 (.fieldLink RX0 18 "BookIndex$Spans" "count" "I") (by decide +kernel)
  have kf9 := S.2.2.2.2 (.fieldLink RX0 9 "BookIndex$Spans" "firsts" "[I") (by decide +kernel)
  have kf15 := S.2.2.2.2 (.fieldLink RX0 15 "BookIndex$Spans" "lasts" "[I") (by decide +kernel)
  have hin0 : ∀ w ∈ wsX00, w ∈ wsX0_has := by decide +kernel
  obtain ⟨w0, w1, w2⟩ := hwb
  have L2 : ∀ (nf : Nat) (z : Int), (0 ≤ z ∧ z ≤ g.1) → (∀ k : Int, 0 ≤ k → k < z → ¬ (g.2.1 k ≤ q ∧ q ≤ g.2.2 k)) → (g.1 - z < (nf : Int)) → G xp l xe ({ frames := 0, cells := 0, slots := 0, locals := 0 }) xs xm xa xb xh xc 3 (fun _ => False) 0 0 (MQ xb (QW (some (.int (iI (pI (cov g q))))) (CW E ad sp se al ta n pg) (fun _ => False)) xa xs 0 0 (fun _ => False)) 2 [(0, .ref (ad (5 + 3 * i))), (1, .int (iI q)), (2, .int (iI z))] [] (CW E ad sp se al ta n pg) := by
    intro nf
    induction nf with
    | zero =>
      intro z hz hno hmf
      exfalso
      omega
    | succ nf ihL2 =>
      intro z hz hno hmf
      refine g_iload_n S dX0_has_2 rfl 2 rfl ?_
      refine g_aload_n S dX0_has_3 rfl 0 rfl ?_
      refine g_get S xK (ref := "BookIndex$Spans") hin0 2 (by decide) (show vwCl[0]? = some (RX0, TX0, 3) from rfl) kf18 (fun _ h9 => h9) (fun _ h => cw_o (i := i) h (by omega) (hg)) rfl dX0_has_4 ?_
      refine g_icmp_ge S (tgt := 38) dX0_has_7 (by decide) (by omega) (fun c7 => ?_) (fun c7 => ?_)
      · skip
        refine g_iconst S dX0_has_38 ?_
        rw [pI_f (P := cov g q) (fun ⟨k, k0, k1, k2, k3⟩ => hno k k0 (by omega) ⟨k2, k3⟩)]
        exact g_zret S xr xlk (Or.inl rfl) dX0_has_39 (fun _ h => h)
      · skip
        refine g_aload_n S dX0_has_10 rfl 0 rfl ?_
        refine g_get S xK (ref := "BookIndex$Spans") hin0 0 (by decide) (show vwCl[0]? = some (RX0, TX0, 3) from rfl) kf9 (fun _ h9 => h9) (fun _ h => cw_o (i := i) h (by omega) (hg)) rfl dX0_has_11 ?_
        refine g_iload_n S dX0_has_14 rfl 2 rfl ?_
        refine g_iald S xK (n := 16) (fun _ h => cw_f (i := i) h (by omega) (hg)) (by omega) (by decide) dX0_has_15 ?_
        refine g_iload_n S dX0_has_16 rfl 1 rfl ?_
        have b17 := w2 z (by omega) (by omega)
        unfold bnd at b17
        refine g_icmp_gt S (tgt := 32) dX0_has_17 (by decide) (by omega) (fun c17 => ?_) (fun c17 => ?_)
        · skip
          refine g_iinc S (lv' := [(2, .int (iI (z + 1))), (0, .ref (ad (5 + 3 * i))), (1, .int (iI q))]) dX0_has_32 2 rfl (Nat.le_of_ble_eq_true rfl) rfl ?_
          refine g_goto S (tgt := 2) dX0_has_35 (by decide) ?_
          refine g_lv [1, 2, 0] rfl ?_
          exact ihL2 (z + 1) (by omega) (fun k h0 h1 => by by_cases e : k = z; (· subst e; omega); exact hno k h0 (by omega)) (by omega)
        · skip
          refine g_iload_n S dX0_has_20 rfl 1 rfl ?_
          refine g_aload_n S dX0_has_21 rfl 0 rfl ?_
          refine g_get S xK (ref := "BookIndex$Spans") hin0 1 (by decide) (show vwCl[0]? = some (RX0, TX0, 3) from rfl) kf15 (fun _ h9 => h9) (fun _ h => cw_o (i := i) h (by omega) (hg)) rfl dX0_has_22 ?_
          refine g_iload_n S dX0_has_25 rfl 2 rfl ?_
          refine g_iald S xK (n := 16) (fun _ h => cw_l (i := i) h (by omega) (hg)) (by omega) (by decide) dX0_has_26 ?_
          refine g_icmp_gt S (tgt := 32) dX0_has_27 (by decide) (by omega) (fun c27 => ?_) (fun c27 => ?_)
          · skip
            refine g_iinc S (lv' := [(2, .int (iI (z + 1))), (0, .ref (ad (5 + 3 * i))), (1, .int (iI q))]) dX0_has_32 2 rfl (Nat.le_of_ble_eq_true rfl) rfl ?_
            refine g_goto S (tgt := 2) dX0_has_35 (by decide) ?_
            refine g_lv [1, 2, 0] rfl ?_
            exact ihL2 (z + 1) (by omega) (fun k h0 h1 => by by_cases e : k = z; (· subst e; omega); exact hno k h0 (by omega)) (by omega)
          · skip
            refine g_iconst S dX0_has_30 ?_
            rw [pI_t (P := cov g q) ⟨z, by omega, by omega, by omega, by omega⟩]
            exact g_zret S xr xlk (Or.inr rfl) dX0_has_31 (fun _ h => h)
  refine g_iconst S dX0_has_0 ?_
  refine g_istore_n S (lv' := [(2, .int (iI 0)), (0, .ref (ad (5 + 3 * i))), (1, .int (iI q))]) dX0_has_1 rfl (Nat.le_of_ble_eq_true rfl) rfl ?_
  refine g_lv [1, 2, 0] rfl ?_
  exact L2 ((g.1 - 0) + 1).toNat 0 (by omega) (fun k h0 h1 => by omega) (by omega)
set_option maxHeartbeats 4000000 in
set_option maxRecDepth 100000 in
theorem m_X0_pagesInCommon (l : Launch) (E : EN) {ad : Int → Nat} (hj : INJ ad) (sp : Int → SpT) (se : Int → Int) (al : Int → Nat) (ta : Int → Int) (n pg : Int) (i : Int) (hi : 0 ≤ i ∧ i < 27) (g : SpT) (hg : sp i = g) (o : Int) (ho : 0 ≤ o ∧ o < 27) (go : SpT) (hgo : sp o = go) (hwb : WB g) (hwo : WB go) : Met l yX0_pagesInCommon wsX0_pagesInCommon ({ frames := 1, cells := 0, slots := 0, locals := 14 }) (CI E [.ref (ad (5 + 3 * i)), .ref (ad (5 + 3 * o))] (CW E ad sp se al ta n pg)) (QW (some (.int (iI (pic g go (g.1 + go.1).toNat 0 0 0)))) (CW E ad sp se al ta n pg) (fun _ => False)) 0 0 (fun _ => False) := by
  refine g_met (cc := cX0_pagesInCommon) (maxL := 8) (ret := (some .int)) (lv := [(0, .ref (ad (5 + 3 * i))), (1, .ref (ad (5 + 3 * o)))]) (by decide) rfl (Nat.le_of_ble_eq_true rfl) rfl ?_
  intro xp xe xs xm xa xb xh xc S xK xr xlk xin
  have kf18 := S.2.2.2.2 (.fieldLink RX0 18 "BookIndex$Spans" "count" "I") (by decide +kernel)
  have kf9 := S.2.2.2.2 (.fieldLink RX0 9 "BookIndex$Spans" "firsts" "[I") (by decide +kernel)
  have km22 := S.2.2.2.2 (.methodLink RX0 22 Lib.Math.max.name) (by decide +kernel)
  have ksmax := S.2.2.2.2 (.static Lib.Math.max.name) (by decide +kernel)
  have kiMath := S.2.2.2.2 (.initialized "java/lang/Math") (by decide +kernel)
  have kcmax := S.2.2.2.2 (.code Lib.Math.max.name Lib.Math.max.code 2 (some .int)) (by decide +kernel)
  have kf15 := S.2.2.2.2 (.fieldLink RX0 15 "BookIndex$Spans" "lasts" "[I") (by decide +kernel)
  have km28 := S.2.2.2.2 (.methodLink RX0 28 Lib.Math.min.name) (by decide +kernel)
  have ksmin := S.2.2.2.2 (.static Lib.Math.min.name) (by decide +kernel)
  have kcmin := S.2.2.2.2 (.code Lib.Math.min.name Lib.Math.min.code 2 (some .int)) (by decide +kernel)
  have hin0 : ∀ w ∈ wsX00, w ∈ wsX0_pagesInCommon := by decide +kernel
  obtain ⟨w0, w1, w2⟩ := hwb
  obtain ⟨v0, v1, v2⟩ := hwo
  have L18 : ∀ (nf : Nat) (a : Int) (b : Int) (lf : Int) (t : Int), (0 ≤ a ∧ a ≤ g.1 ∧ 0 ≤ b ∧ b ≤ go.1 ∧ a + b + lf = g.1 + go.1) → (pic g go lf.toNat a b t = pic g go (g.1 + go.1).toNat 0 0 0) → (lf < (nf : Int)) → G xp l xe ({ frames := 1, cells := 0, slots := 0, locals := 14 }) xs xm xa xb xh xc 8 (fun _ => False) 0 0 (MQ xb (QW (some (.int (iI (pic g go (g.1 + go.1).toNat 0 0 0)))) (CW E ad sp se al ta n pg) (fun _ => False)) xa xs 0 0 (fun _ => False)) 18 [(0, .ref (ad (5 + 3 * i))), (1, .ref (ad (5 + 3 * o))), (2, .int (iI t)), (3, .int (iI a)), (4, .int (iI b)), (5, .int (iI lf))] [] (CW E ad sp se al ta n pg) := by
    intro nf
    induction nf with
    | zero =>
      intro a b lf t hz ht hmf
      exfalso
      omega
    | succ nf ihL18 =>
      intro a b lf t hz ht hmf
      refine g_iload S dX0_pagesInCommon_18 5 rfl ?_
      refine g_if_le S (tgt := 121) dX0_pagesInCommon_20 (by decide) (by omega) (fun c20 => ?_) (fun c20 => ?_)
      · skip
        refine g_iload_n S dX0_pagesInCommon_121 rfl 2 rfl ?_
        rw [show (pic g go (g.1 + go.1).toNat 0 0 0) = t from by rw [← ht]; exact pic_e (by omega)]
        exact g_iret S xr xlk dX0_pagesInCommon_122 (fun _ h => h)
      · skip
        refine g_iload_n S dX0_pagesInCommon_23 rfl 3 rfl ?_
        refine g_aload_n S dX0_pagesInCommon_24 rfl 0 rfl ?_
        refine g_get S xK (ref := "BookIndex$Spans") hin0 2 (by decide) (show vwCl[0]? = some (RX0, TX0, 3) from rfl) kf18 (fun _ h9 => h9) (fun _ h => cw_o (i := i) h (by omega) (hg)) rfl dX0_pagesInCommon_25 ?_
        refine g_icmp_ge S (tgt := 121) dX0_pagesInCommon_28 (by decide) (by omega) (fun c28 => ?_) (fun c28 => ?_)
        · skip
          refine g_iload_n S dX0_pagesInCommon_121 rfl 2 rfl ?_
          rw [show (pic g go (g.1 + go.1).toNat 0 0 0) = t from by rw [← ht]; exact pic_e (by omega)]
          exact g_iret S xr xlk dX0_pagesInCommon_122 (fun _ h => h)
        · skip
          refine g_iload S dX0_pagesInCommon_31 4 rfl ?_
          refine g_aload_n S dX0_pagesInCommon_33 rfl 1 rfl ?_
          refine g_get S xK (ref := "BookIndex$Spans") hin0 2 (by decide) (show vwCl[0]? = some (RX0, TX0, 3) from rfl) kf18 (fun _ h9 => h9) (fun _ h => cw_o (i := o) h (by omega) (hgo)) rfl dX0_pagesInCommon_34 ?_
          refine g_icmp_ge S (tgt := 121) dX0_pagesInCommon_37 (by decide) (by omega) (fun c37 => ?_) (fun c37 => ?_)
          · skip
            refine g_iload_n S dX0_pagesInCommon_121 rfl 2 rfl ?_
            rw [show (pic g go (g.1 + go.1).toNat 0 0 0) = t from by rw [← ht]; exact pic_e (by omega)]
            exact g_iret S xr xlk dX0_pagesInCommon_122 (fun _ h => h)
          · skip
            have b40 := w2 a (by omega) (by omega)
            have e40 := v2 b (by omega) (by omega)
            unfold bnd at b40 e40
            refine g_aload_n S dX0_pagesInCommon_40 rfl 0 rfl ?_
            refine g_get S xK (ref := "BookIndex$Spans") hin0 0 (by decide) (show vwCl[0]? = some (RX0, TX0, 3) from rfl) kf9 (fun _ h9 => h9) (fun _ h => cw_o (i := i) h (by omega) (hg)) rfl dX0_pagesInCommon_41 ?_
            refine g_iload_n S dX0_pagesInCommon_44 rfl 3 rfl ?_
            refine g_iald S xK (n := 16) (fun _ h => cw_f (i := i) h (by omega) (hg)) (by omega) (by decide) dX0_pagesInCommon_45 ?_
            refine g_aload_n S dX0_pagesInCommon_46 rfl 1 rfl ?_
            refine g_get S xK (ref := "BookIndex$Spans") hin0 0 (by decide) (show vwCl[0]? = some (RX0, TX0, 3) from rfl) kf9 (fun _ h9 => h9) (fun _ h => cw_o (i := o) h (by omega) (hgo)) rfl dX0_pagesInCommon_47 ?_
            refine g_iload S dX0_pagesInCommon_50 4 rfl ?_
            refine g_iald S xK (n := 16) (fun _ h => cw_f (i := o) h (by omega) (hgo)) (by omega) (by decide) dX0_pagesInCommon_52 ?_
            refine g_mmax S km22 ksmax kiMath kcmax (Nat.le_of_ble_eq_true rfl) (Nat.le_of_ble_eq_true rfl) ⟨Nat.zero_le _, Nat.zero_le _⟩ dX0_pagesInCommon_53 (by omega) ?_
            refine g_istore S (lv' := [(6, .int (iI (max (g.2.1 a) (go.2.1 b)))), (0, .ref (ad (5 + 3 * i))), (1, .ref (ad (5 + 3 * o))), (2, .int (iI t)), (3, .int (iI a)), (4, .int (iI b)), (5, .int (iI lf))]) dX0_pagesInCommon_56 (Nat.le_of_ble_eq_true rfl) rfl ?_
            refine g_aload_n S dX0_pagesInCommon_58 rfl 1 rfl ?_
            refine g_get S xK (ref := "BookIndex$Spans") hin0 1 (by decide) (show vwCl[0]? = some (RX0, TX0, 3) from rfl) kf15 (fun _ h9 => h9) (fun _ h => cw_o (i := i) h (by omega) (hg)) rfl dX0_pagesInCommon_59 ?_
            refine g_iload_n S dX0_pagesInCommon_62 rfl 4 rfl ?_
            refine g_iald S xK (n := 16) (fun _ h => cw_l (i := i) h (by omega) (hg)) (by omega) (by decide) dX0_pagesInCommon_63 ?_
            refine g_aload_n S dX0_pagesInCommon_64 rfl 2 rfl ?_
            refine g_get S xK (ref := "BookIndex$Spans") hin0 1 (by decide) (show vwCl[0]? = some (RX0, TX0, 3) from rfl) kf15 (fun _ h9 => h9) (fun _ h => cw_o (i := o) h (by omega) (hgo)) rfl dX0_pagesInCommon_65 ?_
            refine g_iload S dX0_pagesInCommon_68 5 rfl ?_
            refine g_iald S xK (n := 16) (fun _ h => cw_l (i := o) h (by omega) (hgo)) (by omega) (by decide) dX0_pagesInCommon_70 ?_
            refine g_mmin S km28 ksmin kiMath kcmin (Nat.le_of_ble_eq_true rfl) (Nat.le_of_ble_eq_true rfl) ⟨Nat.zero_le _, Nat.zero_le _⟩ dX0_pagesInCommon_71 (by omega) ?_
            refine g_istore S (lv' := [(7, .int (iI (min (g.2.2 a) (go.2.2 b)))), (6, .int (iI (max (g.2.1 a) (go.2.1 b)))), (0, .ref (ad (5 + 3 * i))), (1, .ref (ad (5 + 3 * o))), (2, .int (iI t)), (3, .int (iI a)), (4, .int (iI b)), (5, .int (iI lf))]) dX0_pagesInCommon_74 (Nat.le_of_ble_eq_true rfl) rfl ?_
            refine g_iload_n S dX0_pagesInCommon_76 rfl 4 rfl ?_
            refine g_iconst S dX0_pagesInCommon_77 ?_
            refine g_iload S dX0_pagesInCommon_78 0 rfl ?_
            refine g_iload S dX0_pagesInCommon_80 1 rfl ?_
            refine g_isub S dX0_pagesInCommon_82 ?_
            refine g_iconst S dX0_pagesInCommon_83 ?_
            refine g_iadd S dX0_pagesInCommon_84 ?_
            refine g_mmax S km22 ksmax kiMath kcmax (Nat.le_of_ble_eq_true rfl) (Nat.le_of_ble_eq_true rfl) ⟨Nat.zero_le _, Nat.zero_le _⟩ dX0_pagesInCommon_85 (by omega) ?_
            refine g_iadd S dX0_pagesInCommon_88 ?_
            refine g_istore_n S (lv' := [(2, .int (iI (t + max 0 (min (g.2.2 a) (go.2.2 b) - max (g.2.1 a) (go.2.1 b) + 1)))), (7, .int (iI (min (g.2.2 a) (go.2.2 b)))), (6, .int (iI (max (g.2.1 a) (go.2.1 b)))), (0, .ref (ad (5 + 3 * i))), (1, .ref (ad (5 + 3 * o))), (3, .int (iI a)), (4, .int (iI b)), (5, .int (iI lf))]) dX0_pagesInCommon_89 rfl (Nat.le_of_ble_eq_true rfl) rfl ?_
            refine g_aload_n S dX0_pagesInCommon_90 rfl 3 rfl ?_
            refine g_get S xK (ref := "BookIndex$Spans") hin0 1 (by decide) (show vwCl[0]? = some (RX0, TX0, 3) from rfl) kf15 (fun _ h9 => h9) (fun _ h => cw_o (i := i) h (by omega) (hg)) rfl dX0_pagesInCommon_91 ?_
            refine g_iload_n S dX0_pagesInCommon_94 rfl 5 rfl ?_
            refine g_iald S xK (n := 16) (fun _ h => cw_l (i := i) h (by omega) (hg)) (by omega) (by decide) dX0_pagesInCommon_95 ?_
            refine g_aload_n S dX0_pagesInCommon_96 rfl 4 rfl ?_
            refine g_get S xK (ref := "BookIndex$Spans") hin0 1 (by decide) (show vwCl[0]? = some (RX0, TX0, 3) from rfl) kf15 (fun _ h9 => h9) (fun _ h => cw_o (i := o) h (by omega) (hgo)) rfl dX0_pagesInCommon_97 ?_
            refine g_iload S dX0_pagesInCommon_100 6 rfl ?_
            refine g_iald S xK (n := 16) (fun _ h => cw_l (i := o) h (by omega) (hgo)) (by omega) (by decide) dX0_pagesInCommon_102 ?_
            refine g_icmp_gt S (tgt := 112) dX0_pagesInCommon_103 (by decide) (by omega) (fun c103 => ?_) (fun c103 => ?_)
            · skip
              refine g_iinc S (lv' := [(4, .int (iI (b + 1))), (2, .int (iI (t + max 0 (min (g.2.2 a) (go.2.2 b) - max (g.2.1 a) (go.2.1 b) + 1)))), (7, .int (iI (min (g.2.2 a) (go.2.2 b)))), (6, .int (iI (max (g.2.1 a) (go.2.1 b)))), (0, .ref (ad (5 + 3 * i))), (1, .ref (ad (5 + 3 * o))), (3, .int (iI a)), (5, .int (iI lf))]) dX0_pagesInCommon_112 6 rfl (Nat.le_of_ble_eq_true rfl) rfl ?_
              refine g_iinc S (lv' := [(5, .int (iI (lf + (-1)))), (4, .int (iI (b + 1))), (2, .int (iI (t + max 0 (min (g.2.2 a) (go.2.2 b) - max (g.2.1 a) (go.2.1 b) + 1)))), (7, .int (iI (min (g.2.2 a) (go.2.2 b)))), (6, .int (iI (max (g.2.1 a) (go.2.1 b)))), (0, .ref (ad (5 + 3 * i))), (1, .ref (ad (5 + 3 * o))), (3, .int (iI a))]) dX0_pagesInCommon_115 7 rfl (Nat.le_of_ble_eq_true rfl) rfl ?_
              refine g_goto S (tgt := 18) dX0_pagesInCommon_118 (by decide) ?_
              refine g_lv [5, 6, 2, 7, 1, 0] rfl ?_
              exact ihL18 a (b + 1) (lf + (-1)) (t + max 0 (min (g.2.2 a) (go.2.2 b) - max (g.2.1 a) (go.2.1 b) + 1)) (by omega) (by rw [← ht, pic_b (by omega) c28 c37 c103]; rfl) (by omega)
            · skip
              refine g_iinc S (lv' := [(3, .int (iI (a + 1))), (2, .int (iI (t + max 0 (min (g.2.2 a) (go.2.2 b) - max (g.2.1 a) (go.2.1 b) + 1)))), (7, .int (iI (min (g.2.2 a) (go.2.2 b)))), (6, .int (iI (max (g.2.1 a) (go.2.1 b)))), (0, .ref (ad (5 + 3 * i))), (1, .ref (ad (5 + 3 * o))), (4, .int (iI b)), (5, .int (iI lf))]) dX0_pagesInCommon_106 5 rfl (Nat.le_of_ble_eq_true rfl) rfl ?_
              refine g_goto S (tgt := 115) dX0_pagesInCommon_109 (by decide) ?_
              refine g_iinc S (lv' := [(5, .int (iI (lf + (-1)))), (3, .int (iI (a + 1))), (2, .int (iI (t + max 0 (min (g.2.2 a) (go.2.2 b) - max (g.2.1 a) (go.2.1 b) + 1)))), (7, .int (iI (min (g.2.2 a) (go.2.2 b)))), (6, .int (iI (max (g.2.1 a) (go.2.1 b)))), (0, .ref (ad (5 + 3 * i))), (1, .ref (ad (5 + 3 * o))), (4, .int (iI b))]) dX0_pagesInCommon_115 7 rfl (Nat.le_of_ble_eq_true rfl) rfl ?_
              refine g_goto S (tgt := 18) dX0_pagesInCommon_118 (by decide) ?_
              refine g_lv [5, 6, 2, 1, 7, 0] rfl ?_
              exact ihL18 (a + 1) b (lf + (-1)) (t + max 0 (min (g.2.2 a) (go.2.2 b) - max (g.2.1 a) (go.2.1 b) + 1)) (by omega) (by rw [← ht, pic_a (by omega) c28 c37 c103]; rfl) (by omega)
  refine g_iconst S dX0_pagesInCommon_0 ?_
  refine g_istore_n S (lv' := [(2, .int (iI 0)), (0, .ref (ad (5 + 3 * i))), (1, .ref (ad (5 + 3 * o)))]) dX0_pagesInCommon_1 rfl (Nat.le_of_ble_eq_true rfl) rfl ?_
  refine g_iconst S dX0_pagesInCommon_2 ?_
  refine g_istore_n S (lv' := [(3, .int (iI 0)), (2, .int (iI 0)), (0, .ref (ad (5 + 3 * i))), (1, .ref (ad (5 + 3 * o)))]) dX0_pagesInCommon_3 rfl (Nat.le_of_ble_eq_true rfl) rfl ?_
  refine g_iconst S dX0_pagesInCommon_4 ?_
  refine g_istore S (lv' := [(4, .int (iI 0)), (3, .int (iI 0)), (2, .int (iI 0)), (0, .ref (ad (5 + 3 * i))), (1, .ref (ad (5 + 3 * o)))]) dX0_pagesInCommon_5 (Nat.le_of_ble_eq_true rfl) rfl ?_
  refine g_aload_n S dX0_pagesInCommon_7 rfl 3 rfl ?_
  refine g_get S xK (ref := "BookIndex$Spans") hin0 2 (by decide) (show vwCl[0]? = some (RX0, TX0, 3) from rfl) kf18 (fun _ h9 => h9) (fun _ h => cw_o (i := i) h (by omega) (hg)) rfl dX0_pagesInCommon_8 ?_
  refine g_aload_n S dX0_pagesInCommon_11 rfl 4 rfl ?_
  refine g_get S xK (ref := "BookIndex$Spans") hin0 2 (by decide) (show vwCl[0]? = some (RX0, TX0, 3) from rfl) kf18 (fun _ h9 => h9) (fun _ h => cw_o (i := o) h (by omega) (hgo)) rfl dX0_pagesInCommon_12 ?_
  refine g_iadd S dX0_pagesInCommon_15 ?_
  refine g_istore S (lv' := [(5, .int (iI (g.1 + go.1))), (4, .int (iI 0)), (3, .int (iI 0)), (2, .int (iI 0)), (0, .ref (ad (5 + 3 * i))), (1, .ref (ad (5 + 3 * o)))]) dX0_pagesInCommon_16 (Nat.le_of_ble_eq_true rfl) rfl ?_
  refine g_lv [4, 5, 3, 2, 1, 0] rfl ?_
  exact L18 (((g.1 + go.1)) + 1).toNat 0 0 (g.1 + go.1) 0 (by omega) (rfl) (by omega)
set_option maxHeartbeats 4000000 in
set_option maxRecDepth 100000 in
theorem m_X0_append (l : Launch) (E : EN) {ad : Int → Nat} (hj : INJ ad) (sp : Int → SpT) (se : Int → Int) (al : Int → Nat) (ta : Int → Int) (n pg : Int) (i : Int) (hi : 0 ≤ i ∧ i < 27) (g : SpT) (hg : sp i = g) (f la gap : Int) (hwb : WB g) (hf : bnd f) (hla : bnd la) (hgap : 0 ≤ gap ∧ gap ≤ 100000) : Met l yX0_append wsX0_append ({ frames := 1, cells := 0, slots := 0, locals := 15 }) (CI E [.ref (ad (5 + 3 * i)), .int (iI f), .int (iI la), .int (iI gap)] (CW E ad sp se al ta n pg)) (QW (none) (CW E ad (upI sp i (apd g f la gap)) se al ta n pg) (AX ad)) 0 0 (AX ad) := by
  refine g_met (cc := cX0_append) (maxL := 4) (ret := none) (lv := [(0, .ref (ad (5 + 3 * i))), (1, .int (iI f)), (2, .int (iI la)), (3, .int (iI gap))]) (by decide) rfl (Nat.le_of_ble_eq_true rfl) rfl ?_
  intro xp xe xs xm xa xb xh xc S xK xr xlk xin
  have kf18 := S.2.2.2.2 (.fieldLink RX0 18 "BookIndex$Spans" "count" "I") (by decide +kernel)
  have kf9 := S.2.2.2.2 (.fieldLink RX0 9 "BookIndex$Spans" "firsts" "[I") (by decide +kernel)
  have kf15 := S.2.2.2.2 (.fieldLink RX0 15 "BookIndex$Spans" "lasts" "[I") (by decide +kernel)
  have km22 := S.2.2.2.2 (.methodLink RX0 22 Lib.Math.max.name) (by decide +kernel)
  have ksmax := S.2.2.2.2 (.static Lib.Math.max.name) (by decide +kernel)
  have kiMath := S.2.2.2.2 (.initialized "java/lang/Math") (by decide +kernel)
  have kcmax := S.2.2.2.2 (.code Lib.Math.max.name Lib.Math.max.code 2 (some .int)) (by decide +kernel)
  have hin0 : ∀ w ∈ wsX00, w ∈ wsX0_append := by decide +kernel
  obtain ⟨w0, w1, w2⟩ := hwb
  unfold bnd at hf hla
  refine g_aload_n S dX0_append_0 rfl 0 rfl ?_
  refine g_get S xK (ref := "BookIndex$Spans") hin0 2 (by decide) (show vwCl[0]? = some (RX0, TX0, 3) from rfl) kf18 (fun _ h9 => h9) (fun _ h => cw_o (i := i) h (by omega) (hg)) rfl dX0_append_1 ?_
  refine g_if_le S (tgt := 55) dX0_append_4 (by decide) (by omega) (fun c4 => ?_) (fun c4 => ?_)
  · skip
    refine g_aload_n S dX0_append_55 rfl 0 rfl ?_
    refine g_get S xK (ref := "BookIndex$Spans") hin0 2 (by decide) (show vwCl[0]? = some (RX0, TX0, 3) from rfl) kf18 (fun _ h9 => h9) (fun _ h => cw_o (i := i) h (by omega) (hg)) rfl dX0_append_56 ?_
    refine g_bipush S dX0_append_59 (by decide) ?_
    refine g_icmp_ge S (tgt := 94) dX0_append_61 (by decide) (by omega) (fun c61 => ?_) (fun c61 => ?_)
    · skip
      exact g_vret S xr xlk dX0_append_94 (fun _ h => by have e : apd g f la gap = _ := (if_neg (by omega)).trans (if_neg (by omega)); rw [e, upI_x _ hg]; exact h)
    · skip
      refine g_aload_n S dX0_append_64 rfl 0 rfl ?_
      refine g_get S xK (ref := "BookIndex$Spans") hin0 0 (by decide) (show vwCl[0]? = some (RX0, TX0, 3) from rfl) kf9 (fun _ h9 => h9) (fun _ h => cw_o (i := i) h (by omega) (hg)) rfl dX0_append_65 ?_
      refine g_aload_n S dX0_append_68 rfl 0 rfl ?_
      refine g_get S xK (ref := "BookIndex$Spans") hin0 2 (by decide) (show vwCl[0]? = some (RX0, TX0, 3) from rfl) kf18 (fun _ h9 => h9) (fun _ h => cw_o (i := i) h (by omega) (hg)) rfl dX0_append_69 ?_
      refine g_iload_n S dX0_append_72 rfl 1 rfl ?_
      refine g_iast S xK (Wp' := CW E ad (upI sp i (g.1, upI g.2.1 g.1 f, g.2.2)) se al ta n pg) (n := 16) (fun _ h => cw_f (i := i) h (by omega) (hg)) (by omega) (by decide) (ax_in (by omega)) (fun _ _ h hv _ oq => cw_sF (i := i) hj h (by omega) (hg) hv oq) dX0_append_73 ?_
      refine g_aload_n S dX0_append_74 rfl 0 rfl ?_
      refine g_get S xK (ref := "BookIndex$Spans") hin0 1 (by decide) (show vwCl[0]? = some (RX0, TX0, 3) from rfl) kf15 (fun _ h9 => h9) (fun _ h => cw_o (i := i) h (by omega) (upI_s _ _ _)) rfl dX0_append_75 ?_
      refine g_aload_n S dX0_append_78 rfl 0 rfl ?_
      refine g_get S xK (ref := "BookIndex$Spans") hin0 2 (by decide) (show vwCl[0]? = some (RX0, TX0, 3) from rfl) kf18 (fun _ h9 => h9) (fun _ h => cw_o (i := i) h (by omega) (upI_s _ _ _)) rfl dX0_append_79 ?_
      refine g_iload_n S dX0_append_82 rfl 2 rfl ?_
      refine g_iast S xK (Wp' := CW E ad (upI sp i (g.1, upI g.2.1 g.1 f, upI g.2.2 g.1 la)) se al ta n pg) (n := 16) (fun _ h => cw_l (i := i) h (by omega) (upI_s _ _ _)) (by omega) (by decide) (ax_in (by omega)) (fun _ _ h hv _ oq => by have h := cw_sL (i := i) hj h (by omega) (upI_s _ _ _) hv oq; rw [upI_u] at h; exact h) dX0_append_83 ?_
      refine g_aload_n S dX0_append_84 rfl 0 rfl ?_
      refine g_dup S dX0_append_85 rfl ?_
      refine g_get S xK (ref := "BookIndex$Spans") hin0 2 (by decide) (show vwCl[0]? = some (RX0, TX0, 3) from rfl) kf18 (fun _ h9 => h9) (fun _ h => cw_o (i := i) h (by omega) (upI_s _ _ _)) rfl dX0_append_86 ?_
      refine g_iconst S dX0_append_89 ?_
      refine g_iadd S dX0_append_90 ?_
      refine g_put S xK (Wp' := CW E ad (upI sp i (g.1 + 1, upI g.2.1 g.1 f, upI g.2.2 g.1 la)) se al ta n pg) (ref := "BookIndex$Spans") (ty := .int) hin0 tyX0 tyX0_ok nmX0 2 (by decide) (show vwCl[0]? = some (RX0, TX0, 3) from rfl) kf18 (fun _ h9 => h9) rfl (by decide +kernel) rfl rfl (fun _ h => cw_o (i := i) h (by omega) (upI_s _ _ _)) (Nat.le_of_ble_eq_true rfl) (ax_in (by omega)) (fun _ _ h hv _ oq => by have h := cw_sO (i := i) hj h (by omega) (upI_s _ _ _) hv oq; rw [upI_u] at h; exact h) dX0_append_91 ?_
      exact g_vret S xr xlk dX0_append_94 (fun _ h => by have e : apd g f la gap = _ := (if_neg (by omega)).trans (if_pos (by omega)); rw [e]; exact h)
  · skip
    have b7 := (w2 (g.1 - 1) (by omega) (by omega)).2
    unfold bnd at b7
    refine g_iload_n S dX0_append_7 rfl 1 rfl ?_
    refine g_aload_n S dX0_append_8 rfl 0 rfl ?_
    refine g_get S xK (ref := "BookIndex$Spans") hin0 1 (by decide) (show vwCl[0]? = some (RX0, TX0, 3) from rfl) kf15 (fun _ h9 => h9) (fun _ h => cw_o (i := i) h (by omega) (hg)) rfl dX0_append_9 ?_
    refine g_aload_n S dX0_append_12 rfl 0 rfl ?_
    refine g_get S xK (ref := "BookIndex$Spans") hin0 2 (by decide) (show vwCl[0]? = some (RX0, TX0, 3) from rfl) kf18 (fun _ h9 => h9) (fun _ h => cw_o (i := i) h (by omega) (hg)) rfl dX0_append_13 ?_
    refine g_iconst S dX0_append_16 ?_
    refine g_isub S dX0_append_17 ?_
    refine g_iald S xK (n := 16) (fun _ h => cw_l (i := i) h (by omega) (hg)) (by omega) (by decide) dX0_append_18 ?_
    refine g_isub S dX0_append_19 ?_
    refine g_iconst S dX0_append_20 ?_
    refine g_isub S dX0_append_21 ?_
    refine g_iload_n S dX0_append_22 rfl 3 rfl ?_
    refine g_icmp_gt S (tgt := 55) dX0_append_23 (by decide) (by omega) (fun c23 => ?_) (fun c23 => ?_)
    · skip
      refine g_aload_n S dX0_append_55 rfl 0 rfl ?_
      refine g_get S xK (ref := "BookIndex$Spans") hin0 2 (by decide) (show vwCl[0]? = some (RX0, TX0, 3) from rfl) kf18 (fun _ h9 => h9) (fun _ h => cw_o (i := i) h (by omega) (hg)) rfl dX0_append_56 ?_
      refine g_bipush S dX0_append_59 (by decide) ?_
      refine g_icmp_ge S (tgt := 94) dX0_append_61 (by decide) (by omega) (fun c61 => ?_) (fun c61 => ?_)
      · skip
        exact g_vret S xr xlk dX0_append_94 (fun _ h => by have e : apd g f la gap = _ := (if_neg (by omega)).trans (if_neg (by omega)); rw [e, upI_x _ hg]; exact h)
      · skip
        refine g_aload_n S dX0_append_64 rfl 0 rfl ?_
        refine g_get S xK (ref := "BookIndex$Spans") hin0 0 (by decide) (show vwCl[0]? = some (RX0, TX0, 3) from rfl) kf9 (fun _ h9 => h9) (fun _ h => cw_o (i := i) h (by omega) (hg)) rfl dX0_append_65 ?_
        refine g_aload_n S dX0_append_68 rfl 0 rfl ?_
        refine g_get S xK (ref := "BookIndex$Spans") hin0 2 (by decide) (show vwCl[0]? = some (RX0, TX0, 3) from rfl) kf18 (fun _ h9 => h9) (fun _ h => cw_o (i := i) h (by omega) (hg)) rfl dX0_append_69 ?_
        refine g_iload_n S dX0_append_72 rfl 1 rfl ?_
        refine g_iast S xK (Wp' := CW E ad (upI sp i (g.1, upI g.2.1 g.1 f, g.2.2)) se al ta n pg) (n := 16) (fun _ h => cw_f (i := i) h (by omega) (hg)) (by omega) (by decide) (ax_in (by omega)) (fun _ _ h hv _ oq => cw_sF (i := i) hj h (by omega) (hg) hv oq) dX0_append_73 ?_
        refine g_aload_n S dX0_append_74 rfl 0 rfl ?_
        refine g_get S xK (ref := "BookIndex$Spans") hin0 1 (by decide) (show vwCl[0]? = some (RX0, TX0, 3) from rfl) kf15 (fun _ h9 => h9) (fun _ h => cw_o (i := i) h (by omega) (upI_s _ _ _)) rfl dX0_append_75 ?_
        refine g_aload_n S dX0_append_78 rfl 0 rfl ?_
        refine g_get S xK (ref := "BookIndex$Spans") hin0 2 (by decide) (show vwCl[0]? = some (RX0, TX0, 3) from rfl) kf18 (fun _ h9 => h9) (fun _ h => cw_o (i := i) h (by omega) (upI_s _ _ _)) rfl dX0_append_79 ?_
        refine g_iload_n S dX0_append_82 rfl 2 rfl ?_
        refine g_iast S xK (Wp' := CW E ad (upI sp i (g.1, upI g.2.1 g.1 f, upI g.2.2 g.1 la)) se al ta n pg) (n := 16) (fun _ h => cw_l (i := i) h (by omega) (upI_s _ _ _)) (by omega) (by decide) (ax_in (by omega)) (fun _ _ h hv _ oq => by have h := cw_sL (i := i) hj h (by omega) (upI_s _ _ _) hv oq; rw [upI_u] at h; exact h) dX0_append_83 ?_
        refine g_aload_n S dX0_append_84 rfl 0 rfl ?_
        refine g_dup S dX0_append_85 rfl ?_
        refine g_get S xK (ref := "BookIndex$Spans") hin0 2 (by decide) (show vwCl[0]? = some (RX0, TX0, 3) from rfl) kf18 (fun _ h9 => h9) (fun _ h => cw_o (i := i) h (by omega) (upI_s _ _ _)) rfl dX0_append_86 ?_
        refine g_iconst S dX0_append_89 ?_
        refine g_iadd S dX0_append_90 ?_
        refine g_put S xK (Wp' := CW E ad (upI sp i (g.1 + 1, upI g.2.1 g.1 f, upI g.2.2 g.1 la)) se al ta n pg) (ref := "BookIndex$Spans") (ty := .int) hin0 tyX0 tyX0_ok nmX0 2 (by decide) (show vwCl[0]? = some (RX0, TX0, 3) from rfl) kf18 (fun _ h9 => h9) rfl (by decide +kernel) rfl rfl (fun _ h => cw_o (i := i) h (by omega) (upI_s _ _ _)) (Nat.le_of_ble_eq_true rfl) (ax_in (by omega)) (fun _ _ h hv _ oq => by have h := cw_sO (i := i) hj h (by omega) (upI_s _ _ _) hv oq; rw [upI_u] at h; exact h) dX0_append_91 ?_
        exact g_vret S xr xlk dX0_append_94 (fun _ h => by have e : apd g f la gap = _ := (if_neg (by omega)).trans (if_pos (by omega)); rw [e]; exact h)
    · skip
      refine g_aload_n S dX0_append_26 rfl 0 rfl ?_
      refine g_get S xK (ref := "BookIndex$Spans") hin0 1 (by decide) (show vwCl[0]? = some (RX0, TX0, 3) from rfl) kf15 (fun _ h9 => h9) (fun _ h => cw_o (i := i) h (by omega) (hg)) rfl dX0_append_27 ?_
      refine g_aload_n S dX0_append_30 rfl 0 rfl ?_
      refine g_get S xK (ref := "BookIndex$Spans") hin0 2 (by decide) (show vwCl[0]? = some (RX0, TX0, 3) from rfl) kf18 (fun _ h9 => h9) (fun _ h => cw_o (i := i) h (by omega) (hg)) rfl dX0_append_31 ?_
      refine g_iconst S dX0_append_34 ?_
      refine g_isub S dX0_append_35 ?_
      refine g_aload_n S dX0_append_36 rfl 0 rfl ?_
      refine g_get S xK (ref := "BookIndex$Spans") hin0 1 (by decide) (show vwCl[0]? = some (RX0, TX0, 3) from rfl) kf15 (fun _ h9 => h9) (fun _ h => cw_o (i := i) h (by omega) (hg)) rfl dX0_append_37 ?_
      refine g_aload_n S dX0_append_40 rfl 0 rfl ?_
      refine g_get S xK (ref := "BookIndex$Spans") hin0 2 (by decide) (show vwCl[0]? = some (RX0, TX0, 3) from rfl) kf18 (fun _ h9 => h9) (fun _ h => cw_o (i := i) h (by omega) (hg)) rfl dX0_append_41 ?_
      refine g_iconst S dX0_append_44 ?_
      refine g_isub S dX0_append_45 ?_
      refine g_iald S xK (n := 16) (fun _ h => cw_l (i := i) h (by omega) (hg)) (by omega) (by decide) dX0_append_46 ?_
      refine g_iload_n S dX0_append_47 rfl 2 rfl ?_
      refine g_mmax S km22 ksmax kiMath kcmax (Nat.le_of_ble_eq_true rfl) (Nat.le_of_ble_eq_true rfl) ⟨Nat.zero_le _, Nat.zero_le _⟩ dX0_append_48 (by omega) ?_
      refine g_iast S xK (Wp' := CW E ad (upI sp i (g.1, g.2.1, upI g.2.2 (g.1 - 1) (max (g.2.2 (g.1 - 1)) la))) se al ta n pg) (n := 16) (fun _ h => cw_l (i := i) h (by omega) (hg)) (by omega) (by decide) (ax_in (by omega)) (fun _ _ h hv _ oq => cw_sL (i := i) hj h (by omega) (hg) hv oq) dX0_append_51 ?_
      refine g_goto S (tgt := 94) dX0_append_52 (by decide) ?_
      exact g_vret S xr xlk dX0_append_94 (fun _ h => by have e : apd g f la gap = _ := if_pos ⟨by omega, by omega⟩; rw [e]; exact h)
set_option maxHeartbeats 4000000 in
set_option maxRecDepth 100000 in
theorem m_X0_appendUnlessEmpty (l : Launch) (E : EN) {ad : Int → Nat} (hj : INJ ad) (sp : Int → SpT) (se : Int → Int) (al : Int → Nat) (ta : Int → Int) (n pg : Int) (i : Int) (hi : 0 ≤ i ∧ i < 27) (g : SpT) (hg : sp i = g) (f la : Int) (hwb : WB g) (hf : bnd f) (hla : bnd la) : Met l yX0_appendUnlessEmpty wsX0_appendUnlessEmpty ({ frames := 2, cells := 0, slots := 0, locals := 38 }) (CI E [.ref (ad (5 + 3 * i)), .int (iI f), .int (iI la)] (CW E ad sp se al ta n pg)) (QW (none) (CW E ad (upI sp i (ape g f la)) se al ta n pg) (AX ad)) 0 0 (AX ad) := by
  refine g_met (cc := cX0_appendUnlessEmpty) (maxL := 3) (ret := none) (lv := [(0, .ref (ad (5 + 3 * i))), (1, .int (iI f)), (2, .int (iI la))]) (by decide) rfl (Nat.le_of_ble_eq_true rfl) rfl ?_
  intro xp xe xs xm xa xb xh xc S xK xr xlk xin
  have hf9 := hf
  have hl9 := hla
  unfold bnd at hf9 hl9
  refine g_iload_n S dX0_appendUnlessEmpty_0 rfl 1 rfl ?_
  refine g_iload_n S dX0_appendUnlessEmpty_1 rfl 2 rfl ?_
  refine g_icmp_gt S (tgt := 12) dX0_appendUnlessEmpty_2 (by decide) (by omega) (fun c2 => ?_) (fun c2 => ?_)
  · skip
    exact g_vret S xr xlk dX0_appendUnlessEmpty_12 (fun _ h => by have e : ape g f la = _ := if_neg (by omega); rw [e, upI_x _ hg]; exact h)
  · skip
    refine g_aload_n S dX0_appendUnlessEmpty_5 rfl 0 rfl ?_
    refine g_iload_n S dX0_appendUnlessEmpty_6 rfl 1 rfl ?_
    refine g_iload_n S dX0_appendUnlessEmpty_7 rfl 2 rfl ?_
    refine g_iconst S dX0_appendUnlessEmpty_8 ?_
    refine g_callV S xK (As := [.int (iI f), .int (iI la), .int (iI 0)]) (st := []) (stk' := []) (Wp' := CW E ad (upI sp i (apd g f la 0)) se al ta n pg) (r := (RX0, TX0, 3)) (m_X0_append l E hj sp se al ta n pg i (by omega) g (hg) f la 0 hwb hf hla (by omega)) (cwV 3 S.2.2.2.2 gX0_appendUnlessEmpty_X0_append rfl rfl rfl (by decide +kernel) ⟨Nat.le_of_ble_eq_true rfl, Nat.le_of_ble_eq_true rfl⟩) rfl rfl rfl rfl (Nat.le_of_ble_eq_true rfl) ⟨Nat.le_of_ble_eq_true rfl, Nat.le_of_ble_eq_true rfl⟩ (fun _ q => q) (fun _ h => cw_o (i := i) h (by omega) (hg)) (fun _ h => h) (fun _ _ _ h _ _ => h) dX0_appendUnlessEmpty_9 ?_
    exact g_vret S xr xlk dX0_appendUnlessEmpty_12 (fun _ h => by have e : ape g f la = _ := if_pos (by omega); rw [e]; exact h)
set_option maxHeartbeats 4000000 in
set_option maxRecDepth 100000 in
theorem m_X0_becomeOne (l : Launch) (E : EN) {ad : Int → Nat} (hj : INJ ad) (sp : Int → SpT) (se : Int → Int) (al : Int → Nat) (ta : Int → Int) (n pg : Int) (i : Int) (hi : 0 ≤ i ∧ i < 27) (g : SpT) (hg : sp i = g) (f la : Int) (hf : bnd f) (hla : bnd la) : Met l yX0_becomeOne wsX0_becomeOne ({ frames := 2, cells := 0, slots := 0, locals := 38 }) (CI E [.ref (ad (5 + 3 * i)), .int (iI f), .int (iI la)] (CW E ad sp se al ta n pg)) (QW (none) (CW E ad (upI sp i (apd (0, g.2.1, g.2.2) f la 0)) se al ta n pg) (AX ad)) 0 0 (AX ad) := by
  refine g_met (cc := cX0_becomeOne) (maxL := 3) (ret := none) (lv := [(0, .ref (ad (5 + 3 * i))), (1, .int (iI f)), (2, .int (iI la))]) (by decide) rfl (Nat.le_of_ble_eq_true rfl) rfl ?_
  intro xp xe xs xm xa xb xh xc S xK xr xlk xin
  have kf18 := S.2.2.2.2 (.fieldLink RX0 18 "BookIndex$Spans" "count" "I") (by decide +kernel)
  have hin0 : ∀ w ∈ wsX00, w ∈ wsX0_becomeOne := by decide +kernel
  refine g_aload_n S dX0_becomeOne_0 rfl 0 rfl ?_
  refine g_iconst S dX0_becomeOne_1 ?_
  refine g_put S xK (Wp' := CW E ad (upI sp i (0, g.2.1, g.2.2)) se al ta n pg) (ref := "BookIndex$Spans") (ty := .int) hin0 tyX0 tyX0_ok nmX0 2 (by decide) (show vwCl[0]? = some (RX0, TX0, 3) from rfl) kf18 (fun _ h9 => h9) rfl (by decide +kernel) rfl rfl (fun _ h => cw_o (i := i) h (by omega) (hg)) (Nat.le_of_ble_eq_true rfl) (ax_in (by omega)) (fun _ _ h hv _ oq => cw_sO (i := i) hj h (by omega) (hg) hv oq) dX0_becomeOne_2 ?_
  refine g_aload_n S dX0_becomeOne_5 rfl 0 rfl ?_
  refine g_iload_n S dX0_becomeOne_6 rfl 1 rfl ?_
  refine g_iload_n S dX0_becomeOne_7 rfl 2 rfl ?_
  refine g_iconst S dX0_becomeOne_8 ?_
  refine g_callV S xK (As := [.int (iI f), .int (iI la), .int (iI 0)]) (st := []) (stk' := []) (Wp' := CW E ad (upI sp i (apd (0, g.2.1, g.2.2) f la 0)) se al ta n pg) (r := (RX0, TX0, 3)) (m_X0_append l E hj (upI sp i (0, g.2.1, g.2.2)) se al ta n pg i (by omega) (0, g.2.1, g.2.2) (upI_s _ _ _) f la 0 (wb0 _ _) hf hla (by omega)) (cwV 3 S.2.2.2.2 gX0_becomeOne_X0_append rfl rfl rfl (by decide +kernel) ⟨Nat.le_of_ble_eq_true rfl, Nat.le_of_ble_eq_true rfl⟩) rfl rfl rfl rfl (Nat.le_of_ble_eq_true rfl) ⟨Nat.le_of_ble_eq_true rfl, Nat.le_of_ble_eq_true rfl⟩ (fun _ q => q) (fun _ h => cw_o (i := i) h (by omega) (upI_s _ _ _)) (fun _ h => h) (fun _ _ _ h _ _ => by rw [upI_u] at h; exact h) dX0_becomeOne_9 ?_
  exact g_vret S xr xlk dX0_becomeOne_12 (fun _ h => h)
set_option maxHeartbeats 4000000 in
set_option maxRecDepth 100000 in
theorem m_X0_becomeBridged (l : Launch) (E : EN) {ad : Int → Nat} (hj : INJ ad) (sp : Int → SpT) (se : Int → Int) (al : Int → Nat) (ta : Int → Int) (n pg : Int) (i : Int) (hi : 0 ≤ i ∧ i < 27) (g : SpT) (hg : sp i = g) (o : Int) (ho : 0 ≤ o ∧ o < 27) (go : SpT) (hgo : sp o = go) (hio : o ≠ i) (gap : Int) (hwo : WB go) (hgap : 0 ≤ gap ∧ gap ≤ 100000) : Met l yX0_becomeBridged wsX0_becomeBridged ({ frames := 2, cells := 0, slots := 0, locals := 38 }) (CI E [.ref (ad (5 + 3 * i)), .ref (ad (5 + 3 * o)), .int (iI gap)] (CW E ad sp se al ta n pg)) (QW (none) (CW E ad (upI sp i (brg go gap (0, g.2.1, g.2.2) go.1.toNat)) se al ta n pg) (AX ad)) 0 0 (AX ad) := by
  refine g_met (cc := cX0_becomeBridged) (maxL := 4) (ret := none) (lv := [(0, .ref (ad (5 + 3 * i))), (1, .ref (ad (5 + 3 * o))), (2, .int (iI gap))]) (by decide) rfl (Nat.le_of_ble_eq_true rfl) rfl ?_
  intro xp xe xs xm xa xb xh xc S xK xr xlk xin
  have kf18 := S.2.2.2.2 (.fieldLink RX0 18 "BookIndex$Spans" "count" "I") (by decide +kernel)
  have kf9 := S.2.2.2.2 (.fieldLink RX0 9 "BookIndex$Spans" "firsts" "[I") (by decide +kernel)
  have kf15 := S.2.2.2.2 (.fieldLink RX0 15 "BookIndex$Spans" "lasts" "[I") (by decide +kernel)
  have hin0 : ∀ w ∈ wsX00, w ∈ wsX0_becomeBridged := by decide +kernel
  obtain ⟨v0, v1, v2⟩ := id hwo
  have L7 : ∀ (nf : Nat) (z : Int) (gg : SpT), (0 ≤ z ∧ z ≤ go.1) → (gg = brg go gap (0, g.2.1, g.2.2) z.toNat) → (WB gg) → (go.1 - z < (nf : Int)) → G xp l xe ({ frames := 2, cells := 0, slots := 0, locals := 38 }) xs xm xa xb xh xc 4 (AX ad) 0 0 (MQ xb (QW (none) (CW E ad (upI sp i (brg go gap (0, g.2.1, g.2.2) go.1.toNat)) se al ta n pg) (AX ad)) xa xs 0 0 (AX ad)) 7 [(0, .ref (ad (5 + 3 * i))), (1, .ref (ad (5 + 3 * o))), (2, .int (iI gap)), (3, .int (iI z))] [] (CW E ad (upI sp i gg) se al ta n pg) := by
    intro nf
    induction nf with
    | zero =>
      intro z gg hz hgg hwg hmf
      exfalso
      omega
    | succ nf ihL7 =>
      intro z gg hz hgg hwg hmf
      refine g_iload_n S dX0_becomeBridged_7 rfl 3 rfl ?_
      refine g_aload_n S dX0_becomeBridged_8 rfl 1 rfl ?_
      refine g_get S xK (ref := "BookIndex$Spans") hin0 2 (by decide) (show vwCl[0]? = some (RX0, TX0, 3) from rfl) kf18 (fun _ h9 => h9) (fun _ h => cw_o (i := o) h (by omega) ((upI_n _ _ (by omega)).trans (hgo))) rfl dX0_becomeBridged_9 ?_
      refine g_icmp_ge S (tgt := 38) dX0_becomeBridged_12 (by decide) (by omega) (fun c12 => ?_) (fun c12 => ?_)
      · skip
        exact g_vret S xr xlk dX0_becomeBridged_38 (fun _ h => by rw [hgg, show z = go.1 by omega] at h; exact h)
      · skip
        have b15 := v2 z (by omega) (by omega)
        refine g_aload_n S dX0_becomeBridged_15 rfl 0 rfl ?_
        refine g_aload_n S dX0_becomeBridged_16 rfl 1 rfl ?_
        refine g_get S xK (ref := "BookIndex$Spans") hin0 0 (by decide) (show vwCl[0]? = some (RX0, TX0, 3) from rfl) kf9 (fun _ h9 => h9) (fun _ h => cw_o (i := o) h (by omega) ((upI_n _ _ (by omega)).trans (hgo))) rfl dX0_becomeBridged_17 ?_
        refine g_iload_n S dX0_becomeBridged_20 rfl 3 rfl ?_
        refine g_iald S xK (n := 16) (fun _ h => cw_f (i := o) h (by omega) ((upI_n _ _ (by omega)).trans (hgo))) (by omega) (by decide) dX0_becomeBridged_21 ?_
        refine g_aload_n S dX0_becomeBridged_22 rfl 1 rfl ?_
        refine g_get S xK (ref := "BookIndex$Spans") hin0 1 (by decide) (show vwCl[0]? = some (RX0, TX0, 3) from rfl) kf15 (fun _ h9 => h9) (fun _ h => cw_o (i := o) h (by omega) ((upI_n _ _ (by omega)).trans (hgo))) rfl dX0_becomeBridged_23 ?_
        refine g_iload_n S dX0_becomeBridged_26 rfl 3 rfl ?_
        refine g_iald S xK (n := 16) (fun _ h => cw_l (i := o) h (by omega) ((upI_n _ _ (by omega)).trans (hgo))) (by omega) (by decide) dX0_becomeBridged_27 ?_
        refine g_iload_n S dX0_becomeBridged_28 rfl 2 rfl ?_
        refine g_callV S xK (As := [.int (iI (go.2.1 z)), .int (iI (go.2.2 z)), .int (iI gap)]) (st := []) (stk' := []) (Wp' := CW E ad (upI sp i (apd gg (go.2.1 z) (go.2.2 z) gap)) se al ta n pg) (r := (RX0, TX0, 3)) (m_X0_append l E hj (upI sp i gg) se al ta n pg i (by omega) gg (upI_s _ _ _) (go.2.1 z) (go.2.2 z) gap hwg b15.1 b15.2 (by omega)) (cwV 3 S.2.2.2.2 gX0_becomeBridged_X0_append rfl rfl rfl (by decide +kernel) ⟨Nat.le_of_ble_eq_true rfl, Nat.le_of_ble_eq_true rfl⟩) rfl rfl rfl rfl (Nat.le_of_ble_eq_true rfl) ⟨Nat.le_of_ble_eq_true rfl, Nat.le_of_ble_eq_true rfl⟩ (fun _ q => q) (fun _ h => cw_o (i := i) h (by omega) (upI_s _ _ _)) (fun _ h => h) (fun _ _ _ h _ _ => by rw [upI_u] at h; exact h) dX0_becomeBridged_29 ?_
        refine g_iinc S (lv' := [(3, .int (iI (z + 1))), (0, .ref (ad (5 + 3 * i))), (1, .ref (ad (5 + 3 * o))), (2, .int (iI gap))]) dX0_becomeBridged_32 3 rfl (Nat.le_of_ble_eq_true rfl) rfl ?_
        refine g_goto S (tgt := 7) dX0_becomeBridged_35 (by decide) ?_
        refine g_lv [1, 2, 3, 0] rfl ?_
        exact ihL7 (z + 1) (apd gg (go.2.1 z) (go.2.2 z) gap) (by omega) (by rw [brg_s _ _ _ hz.1, ← hgg]) (apd_wb hwg b15.1 b15.2) (by omega)
  refine g_aload_n S dX0_becomeBridged_0 rfl 0 rfl ?_
  refine g_iconst S dX0_becomeBridged_1 ?_
  refine g_put S xK (Wp' := CW E ad (upI sp i (0, g.2.1, g.2.2)) se al ta n pg) (ref := "BookIndex$Spans") (ty := .int) hin0 tyX0 tyX0_ok nmX0 2 (by decide) (show vwCl[0]? = some (RX0, TX0, 3) from rfl) kf18 (fun _ h9 => h9) rfl (by decide +kernel) rfl rfl (fun _ h => cw_o (i := i) h (by omega) (hg)) (Nat.le_of_ble_eq_true rfl) (ax_in (by omega)) (fun _ _ h hv _ oq => cw_sO (i := i) hj h (by omega) (hg) hv oq) dX0_becomeBridged_2 ?_
  refine g_iconst S dX0_becomeBridged_5 ?_
  refine g_istore_n S (lv' := [(3, .int (iI 0)), (0, .ref (ad (5 + 3 * i))), (1, .ref (ad (5 + 3 * o))), (2, .int (iI gap))]) dX0_becomeBridged_6 rfl (Nat.le_of_ble_eq_true rfl) rfl ?_
  refine g_lv [1, 2, 3, 0] rfl ?_
  exact L7 ((go.1 - 0) + 1).toNat 0 (0, g.2.1, g.2.2) (by omega) (rfl) (wb0 _ _) (by omega)
set_option maxHeartbeats 4000000 in
set_option maxRecDepth 100000 in
theorem m_X0_becomeSame (l : Launch) (E : EN) {ad : Int → Nat} (hj : INJ ad) (sp : Int → SpT) (se : Int → Int) (al : Int → Nat) (ta : Int → Int) (n pg : Int) (i : Int) (hi : 0 ≤ i ∧ i < 27) (g : SpT) (hg : sp i = g) (o : Int) (ho : 0 ≤ o ∧ o < 27) (go : SpT) (hgo : sp o = go) (hio : o ≠ i) (hwo : WB go) : Met l yX0_becomeSame wsX0_becomeSame ({ frames := 3, cells := 0, slots := 0, locals := 61 }) (CI E [.ref (ad (5 + 3 * i)), .ref (ad (5 + 3 * o))] (CW E ad sp se al ta n pg)) (QW (none) (CW E ad (upI sp i (brg go 0 (0, g.2.1, g.2.2) go.1.toNat)) se al ta n pg) (AX ad)) 0 0 (AX ad) := by
  refine g_met (cc := cX0_becomeSame) (maxL := 2) (ret := none) (lv := [(0, .ref (ad (5 + 3 * i))), (1, .ref (ad (5 + 3 * o)))]) (by decide) rfl (Nat.le_of_ble_eq_true rfl) rfl ?_
  intro xp xe xs xm xa xb xh xc S xK xr xlk xin
  refine g_aload_n S dX0_becomeSame_0 rfl 0 rfl ?_
  refine g_aload_n S dX0_becomeSame_1 rfl 1 rfl ?_
  refine g_iconst S dX0_becomeSame_2 ?_
  refine g_callV S xK (As := [.ref (ad (5 + 3 * o)), .int (iI 0)]) (st := []) (stk' := []) (Wp' := CW E ad (upI sp i (brg go 0 (0, g.2.1, g.2.2) go.1.toNat)) se al ta n pg) (r := (RX0, TX0, 3)) (m_X0_becomeBridged l E hj sp se al ta n pg i (by omega) g (hg) o (by omega) go (hgo) (by omega) 0 hwo (by omega)) (cwV 2 S.2.2.2.2 gX0_becomeSame_X0_becomeBridged rfl rfl rfl (by decide +kernel) ⟨Nat.le_of_ble_eq_true rfl, Nat.le_of_ble_eq_true rfl⟩) rfl rfl rfl rfl (Nat.le_of_ble_eq_true rfl) ⟨Nat.le_of_ble_eq_true rfl, Nat.le_of_ble_eq_true rfl⟩ (fun _ q => q) (fun _ h => cw_o (i := i) h (by omega) (hg)) (fun _ h => h) (fun _ _ _ h _ _ => h) dX0_becomeSame_3 ?_
  exact g_vret S xr xlk dX0_becomeSame_6 (fun _ h => h)
set_option maxHeartbeats 4000000 in
set_option maxRecDepth 100000 in
theorem m_X0_becomeRest (l : Launch) (E : EN) {ad : Int → Nat} (hj : INJ ad) (sp : Int → SpT) (se : Int → Int) (al : Int → Nat) (ta : Int → Int) (n pg : Int) (i : Int) (hi : 0 ≤ i ∧ i < 27) (g : SpT) (hg : sp i = g) (o : Int) (ho : 0 ≤ o ∧ o < 27) (go : SpT) (hgo : sp o = go) (hio : o ≠ i) (fr to : Int) (hwo : WB go) (hft : -10000 ≤ fr ∧ fr ≤ 10000 ∧ -10000 ≤ to ∧ to ≤ 10000) : Met l yX0_becomeRest wsX0_becomeRest ({ frames := 3, cells := 0, slots := 0, locals := 60 }) (CI E [.ref (ad (5 + 3 * i)), .ref (ad (5 + 3 * o)), .int (iI fr), .int (iI to)] (CW E ad sp se al ta n pg)) (QW (none) (CW E ad (upI sp i (rst go fr to (0, g.2.1, g.2.2) go.1.toNat)) se al ta n pg) (AX ad)) 0 0 (AX ad) := by
  refine g_met (cc := cX0_becomeRest) (maxL := 5) (ret := none) (lv := [(0, .ref (ad (5 + 3 * i))), (1, .ref (ad (5 + 3 * o))), (2, .int (iI fr)), (3, .int (iI to))]) (by decide) rfl (Nat.le_of_ble_eq_true rfl) rfl ?_
  intro xp xe xs xm xa xb xh xc S xK xr xlk xin
  have kf18 := S.2.2.2.2 (.fieldLink RX0 18 "BookIndex$Spans" "count" "I") (by decide +kernel)
  have kf9 := S.2.2.2.2 (.fieldLink RX0 9 "BookIndex$Spans" "firsts" "[I") (by decide +kernel)
  have kf15 := S.2.2.2.2 (.fieldLink RX0 15 "BookIndex$Spans" "lasts" "[I") (by decide +kernel)
  have km28 := S.2.2.2.2 (.methodLink RX0 28 Lib.Math.min.name) (by decide +kernel)
  have ksmin := S.2.2.2.2 (.static Lib.Math.min.name) (by decide +kernel)
  have kiMath := S.2.2.2.2 (.initialized "java/lang/Math") (by decide +kernel)
  have kcmin := S.2.2.2.2 (.code Lib.Math.min.name Lib.Math.min.code 2 (some .int)) (by decide +kernel)
  have km22 := S.2.2.2.2 (.methodLink RX0 22 Lib.Math.max.name) (by decide +kernel)
  have ksmax := S.2.2.2.2 (.static Lib.Math.max.name) (by decide +kernel)
  have kcmax := S.2.2.2.2 (.code Lib.Math.max.name Lib.Math.max.code 2 (some .int)) (by decide +kernel)
  have hin0 : ∀ w ∈ wsX00, w ∈ wsX0_becomeRest := by decide +kernel
  obtain ⟨v0, v1, v2⟩ := id hwo
  have L8 : ∀ (nf : Nat) (z : Int) (gg : SpT), (0 ≤ z ∧ z ≤ go.1) → (gg = rst go fr to (0, g.2.1, g.2.2) z.toNat) → (WB gg) → (go.1 - z < (nf : Int)) → G xp l xe ({ frames := 3, cells := 0, slots := 0, locals := 60 }) xs xm xa xb xh xc 5 (AX ad) 0 0 (MQ xb (QW (none) (CW E ad (upI sp i (rst go fr to (0, g.2.1, g.2.2) go.1.toNat)) se al ta n pg) (AX ad)) xa xs 0 0 (AX ad)) 8 [(0, .ref (ad (5 + 3 * i))), (1, .ref (ad (5 + 3 * o))), (2, .int (iI fr)), (3, .int (iI to)), (4, .int (iI z))] [] (CW E ad (upI sp i gg) se al ta n pg) := by
    intro nf
    induction nf with
    | zero =>
      intro z gg hz hgg hwg hmf
      exfalso
      omega
    | succ nf ihL8 =>
      intro z gg hz hgg hwg hmf
      refine g_iload S dX0_becomeRest_8 4 rfl ?_
      refine g_aload_n S dX0_becomeRest_10 rfl 1 rfl ?_
      refine g_get S xK (ref := "BookIndex$Spans") hin0 2 (by decide) (show vwCl[0]? = some (RX0, TX0, 3) from rfl) kf18 (fun _ h9 => h9) (fun _ h => cw_o (i := o) h (by omega) ((upI_n _ _ (by omega)).trans (hgo))) rfl dX0_becomeRest_11 ?_
      refine g_icmp_ge S (tgt := 71) dX0_becomeRest_14 (by decide) (by omega) (fun c14 => ?_) (fun c14 => ?_)
      · skip
        exact g_vret S xr xlk dX0_becomeRest_71 (fun _ h => by rw [hgg, show z = go.1 by omega] at h; exact h)
      · skip
        have b17 := v2 z (by omega) (by omega)
        have hm1 : bnd (min (go.2.2 z) (fr - 1)) := by unfold bnd at b17 ⊢; omega
        have hm2 : bnd (max (go.2.1 z) (to + 1)) := by unfold bnd at b17 ⊢; omega
        have b18 := b17
        unfold bnd at b18
        refine g_aload_n S dX0_becomeRest_17 rfl 0 rfl ?_
        refine g_aload_n S dX0_becomeRest_18 rfl 1 rfl ?_
        refine g_get S xK (ref := "BookIndex$Spans") hin0 0 (by decide) (show vwCl[0]? = some (RX0, TX0, 3) from rfl) kf9 (fun _ h9 => h9) (fun _ h => cw_o (i := o) h (by omega) ((upI_n _ _ (by omega)).trans (hgo))) rfl dX0_becomeRest_19 ?_
        refine g_iload S dX0_becomeRest_22 4 rfl ?_
        refine g_iald S xK (n := 16) (fun _ h => cw_f (i := o) h (by omega) ((upI_n _ _ (by omega)).trans (hgo))) (by omega) (by decide) dX0_becomeRest_24 ?_
        refine g_aload_n S dX0_becomeRest_25 rfl 1 rfl ?_
        refine g_get S xK (ref := "BookIndex$Spans") hin0 1 (by decide) (show vwCl[0]? = some (RX0, TX0, 3) from rfl) kf15 (fun _ h9 => h9) (fun _ h => cw_o (i := o) h (by omega) ((upI_n _ _ (by omega)).trans (hgo))) rfl dX0_becomeRest_26 ?_
        refine g_iload S dX0_becomeRest_29 4 rfl ?_
        refine g_iald S xK (n := 16) (fun _ h => cw_l (i := o) h (by omega) ((upI_n _ _ (by omega)).trans (hgo))) (by omega) (by decide) dX0_becomeRest_31 ?_
        refine g_iload_n S dX0_becomeRest_32 rfl 2 rfl ?_
        refine g_iconst S dX0_becomeRest_33 ?_
        refine g_isub S dX0_becomeRest_34 ?_
        refine g_mmin S km28 ksmin kiMath kcmin (Nat.le_of_ble_eq_true rfl) (Nat.le_of_ble_eq_true rfl) ⟨Nat.zero_le _, Nat.zero_le _⟩ dX0_becomeRest_35 (by omega) ?_
        refine g_callV S xK (As := [.int (iI (go.2.1 z)), .int (iI (min (go.2.2 z) (fr - 1)))]) (st := []) (stk' := []) (Wp' := CW E ad (upI sp i (ape gg (go.2.1 z) (min (go.2.2 z) (fr - 1)))) se al ta n pg) (r := (RX0, TX0, 3)) (m_X0_appendUnlessEmpty l E hj (upI sp i gg) se al ta n pg i (by omega) gg (upI_s _ _ _) (go.2.1 z) (min (go.2.2 z) (fr - 1)) hwg b17.1 hm1) (cwV 2 S.2.2.2.2 gX0_becomeRest_X0_appendUnlessEmpty rfl rfl rfl (by decide +kernel) ⟨Nat.le_of_ble_eq_true rfl, Nat.le_of_ble_eq_true rfl⟩) rfl rfl rfl rfl (Nat.le_of_ble_eq_true rfl) ⟨Nat.le_of_ble_eq_true rfl, Nat.le_of_ble_eq_true rfl⟩ (fun _ q => q) (fun _ h => cw_o (i := i) h (by omega) (upI_s _ _ _)) (fun _ h => h) (fun _ _ _ h _ _ => by rw [upI_u] at h; exact h) dX0_becomeRest_38 ?_
        refine g_aload_n S dX0_becomeRest_41 rfl 0 rfl ?_
        refine g_aload_n S dX0_becomeRest_42 rfl 1 rfl ?_
        refine g_get S xK (ref := "BookIndex$Spans") hin0 0 (by decide) (show vwCl[0]? = some (RX0, TX0, 3) from rfl) kf9 (fun _ h9 => h9) (fun _ h => cw_o (i := o) h (by omega) ((upI_n _ _ (by omega)).trans (hgo))) rfl dX0_becomeRest_43 ?_
        refine g_iload S dX0_becomeRest_46 4 rfl ?_
        refine g_iald S xK (n := 16) (fun _ h => cw_f (i := o) h (by omega) ((upI_n _ _ (by omega)).trans (hgo))) (by omega) (by decide) dX0_becomeRest_48 ?_
        refine g_iload_n S dX0_becomeRest_49 rfl 3 rfl ?_
        refine g_iconst S dX0_becomeRest_50 ?_
        refine g_iadd S dX0_becomeRest_51 ?_
        refine g_mmax S km22 ksmax kiMath kcmax (Nat.le_of_ble_eq_true rfl) (Nat.le_of_ble_eq_true rfl) ⟨Nat.zero_le _, Nat.zero_le _⟩ dX0_becomeRest_52 (by omega) ?_
        refine g_aload_n S dX0_becomeRest_55 rfl 1 rfl ?_
        refine g_get S xK (ref := "BookIndex$Spans") hin0 1 (by decide) (show vwCl[0]? = some (RX0, TX0, 3) from rfl) kf15 (fun _ h9 => h9) (fun _ h => cw_o (i := o) h (by omega) ((upI_n _ _ (by omega)).trans (hgo))) rfl dX0_becomeRest_56 ?_
        refine g_iload S dX0_becomeRest_59 4 rfl ?_
        refine g_iald S xK (n := 16) (fun _ h => cw_l (i := o) h (by omega) ((upI_n _ _ (by omega)).trans (hgo))) (by omega) (by decide) dX0_becomeRest_61 ?_
        refine g_callV S xK (As := [.int (iI (max (go.2.1 z) (to + 1))), .int (iI (go.2.2 z))]) (st := []) (stk' := []) (Wp' := CW E ad (upI sp i (ape (ape gg (go.2.1 z) (min (go.2.2 z) (fr - 1))) (max (go.2.1 z) (to + 1)) (go.2.2 z))) se al ta n pg) (r := (RX0, TX0, 3)) (m_X0_appendUnlessEmpty l E hj (upI sp i (ape gg (go.2.1 z) (min (go.2.2 z) (fr - 1)))) se al ta n pg i (by omega) (ape gg (go.2.1 z) (min (go.2.2 z) (fr - 1))) (upI_s _ _ _) (max (go.2.1 z) (to + 1)) (go.2.2 z) (ape_wb hwg b17.1 hm1) hm2 b17.2) (cwV 2 S.2.2.2.2 gX0_becomeRest_X0_appendUnlessEmpty rfl rfl rfl (by decide +kernel) ⟨Nat.le_of_ble_eq_true rfl, Nat.le_of_ble_eq_true rfl⟩) rfl rfl rfl rfl (Nat.le_of_ble_eq_true rfl) ⟨Nat.le_of_ble_eq_true rfl, Nat.le_of_ble_eq_true rfl⟩ (fun _ q => q) (fun _ h => cw_o (i := i) h (by omega) (upI_s _ _ _)) (fun _ h => h) (fun _ _ _ h _ _ => by rw [upI_u] at h; exact h) dX0_becomeRest_62 ?_
        refine g_iinc S (lv' := [(4, .int (iI (z + 1))), (0, .ref (ad (5 + 3 * i))), (1, .ref (ad (5 + 3 * o))), (2, .int (iI fr)), (3, .int (iI to))]) dX0_becomeRest_65 4 rfl (Nat.le_of_ble_eq_true rfl) rfl ?_
        refine g_goto S (tgt := 8) dX0_becomeRest_68 (by decide) ?_
        refine g_lv [1, 2, 3, 4, 0] rfl ?_
        exact ihL8 (z + 1) (ape (ape gg (go.2.1 z) (min (go.2.2 z) (fr - 1))) (max (go.2.1 z) (to + 1)) (go.2.2 z)) (by omega) (by rw [rst_s _ _ _ _ hz.1, ← hgg]) (ape_wb (ape_wb hwg b17.1 hm1) hm2 b17.2) (by omega)
  refine g_aload_n S dX0_becomeRest_0 rfl 0 rfl ?_
  refine g_iconst S dX0_becomeRest_1 ?_
  refine g_put S xK (Wp' := CW E ad (upI sp i (0, g.2.1, g.2.2)) se al ta n pg) (ref := "BookIndex$Spans") (ty := .int) hin0 tyX0 tyX0_ok nmX0 2 (by decide) (show vwCl[0]? = some (RX0, TX0, 3) from rfl) kf18 (fun _ h9 => h9) rfl (by decide +kernel) rfl rfl (fun _ h => cw_o (i := i) h (by omega) (hg)) (Nat.le_of_ble_eq_true rfl) (ax_in (by omega)) (fun _ _ h hv _ oq => cw_sO (i := i) hj h (by omega) (hg) hv oq) dX0_becomeRest_2 ?_
  refine g_iconst S dX0_becomeRest_5 ?_
  refine g_istore S (lv' := [(4, .int (iI 0)), (0, .ref (ad (5 + 3 * i))), (1, .ref (ad (5 + 3 * o))), (2, .int (iI fr)), (3, .int (iI to))]) dX0_becomeRest_6 (Nat.le_of_ble_eq_true rfl) rfl ?_
  refine g_lv [1, 2, 3, 4, 0] rfl ?_
  exact L8 ((go.1 - 0) + 1).toNat 0 (0, g.2.1, g.2.2) (by omega) (rfl) (wb0 _ _) (by omega)
set_option maxHeartbeats 4000000 in
set_option maxRecDepth 100000 in
theorem m_X0_becomeWithoutPageOfBook (l : Launch) (E : EN) {ad : Int → Nat} (hj : INJ ad) (sp : Int → SpT) (se : Int → Int) (al : Int → Nat) (ta : Int → Int) (n pg : Int) (i : Int) (hi : 0 ≤ i ∧ i < 27) (g : SpT) (hg : sp i = g) (o : Int) (ho : 0 ≤ o ∧ o < 27) (go : SpT) (hgo : sp o = go) (hio : o ≠ i) (q : Int) (hwo : WB go) (hq : -10000 ≤ q ∧ q ≤ 10000) : Met l yX0_becomeWithoutPageOfBook wsX0_becomeWithoutPageOfBook ({ frames := 3, cells := 0, slots := 0, locals := 60 }) (CI E [.ref (ad (5 + 3 * i)), .ref (ad (5 + 3 * o)), .int (iI q)] (CW E ad sp se al ta n pg)) (QW (none) (CW E ad (upI sp i (wpo go q (0, g.2.1, g.2.2) go.1.toNat)) se al ta n pg) (AX ad)) 0 0 (AX ad) := by
  refine g_met (cc := cX0_becomeWithoutPageOfBook) (maxL := 6) (ret := none) (lv := [(0, .ref (ad (5 + 3 * i))), (1, .ref (ad (5 + 3 * o))), (2, .int (iI q))]) (by decide) rfl (Nat.le_of_ble_eq_true rfl) rfl ?_
  intro xp xe xs xm xa xb xh xc S xK xr xlk xin
  have kf18 := S.2.2.2.2 (.fieldLink RX0 18 "BookIndex$Spans" "count" "I") (by decide +kernel)
  have kf9 := S.2.2.2.2 (.fieldLink RX0 9 "BookIndex$Spans" "firsts" "[I") (by decide +kernel)
  have kf15 := S.2.2.2.2 (.fieldLink RX0 15 "BookIndex$Spans" "lasts" "[I") (by decide +kernel)
  have hin0 : ∀ w ∈ wsX00, w ∈ wsX0_becomeWithoutPageOfBook := by decide +kernel
  obtain ⟨v0, v1, v2⟩ := id hwo
  have L7 : ∀ (nf : Nat) (z : Int) (gg : SpT), (0 ≤ z ∧ z ≤ go.1) → (gg = wpo go q (0, g.2.1, g.2.2) z.toNat) → (WB gg) → (go.1 - z < (nf : Int)) → G xp l xe ({ frames := 3, cells := 0, slots := 0, locals := 60 }) xs xm xa xb xh xc 6 (AX ad) 0 0 (MQ xb (QW (none) (CW E ad (upI sp i (wpo go q (0, g.2.1, g.2.2) go.1.toNat)) se al ta n pg) (AX ad)) xa xs 0 0 (AX ad)) 7 [(0, .ref (ad (5 + 3 * i))), (1, .ref (ad (5 + 3 * o))), (2, .int (iI q)), (3, .int (iI z))] [] (CW E ad (upI sp i gg) se al ta n pg) := by
    intro nf
    induction nf with
    | zero =>
      intro z gg hz hgg hwg hmf
      exfalso
      omega
    | succ nf ihL7 =>
      intro z gg hz hgg hwg hmf
      refine g_iload_n S dX0_becomeWithoutPageOfBook_7 rfl 3 rfl ?_
      refine g_aload_n S dX0_becomeWithoutPageOfBook_8 rfl 1 rfl ?_
      refine g_get S xK (ref := "BookIndex$Spans") hin0 2 (by decide) (show vwCl[0]? = some (RX0, TX0, 3) from rfl) kf18 (fun _ h9 => h9) (fun _ h => cw_o (i := o) h (by omega) ((upI_n _ _ (by omega)).trans (hgo))) rfl dX0_becomeWithoutPageOfBook_9 ?_
      refine g_icmp_ge S (tgt := 71) dX0_becomeWithoutPageOfBook_12 (by decide) (by omega) (fun c12 => ?_) (fun c12 => ?_)
      · skip
        exact g_vret S xr xlk dX0_becomeWithoutPageOfBook_71 (fun _ h => by rw [hgg, show z = go.1 by omega] at h; exact h)
      · skip
        have b15 := v2 z (by omega) (by omega)
        have b16 := b15
        unfold bnd at b16
        have L62 : ∀ (fv : Int) (lw : Int), (fv = if q < go.2.1 z then go.2.1 z - 1 else go.2.1 z) → (lw = if q ≤ go.2.2 z then go.2.2 z - 1 else go.2.2 z) → G xp l xe ({ frames := 3, cells := 0, slots := 0, locals := 60 }) xs xm xa xb xh xc 6 (AX ad) 0 0 (MQ xb (QW (none) (CW E ad (upI sp i (wpo go q (0, g.2.1, g.2.2) go.1.toNat)) se al ta n pg) (AX ad)) xa xs 0 0 (AX ad)) 62 [(0, .ref (ad (5 + 3 * i))), (1, .ref (ad (5 + 3 * o))), (2, .int (iI q)), (3, .int (iI z)), (4, .int (iI (go.2.1 z))), (5, .int (iI (go.2.2 z)))] [.int (iI lw), .int (iI fv), .ref (ad (5 + 3 * i))] (CW E ad (upI sp i gg) se al ta n pg) := by
          intro fv lw hfv hlw
          have hbf : bnd fv := by subst hfv; have b9 := v2 z (by omega) (by omega); unfold bnd at b9 ⊢; split <;> omega
          have hbl : bnd lw := by subst hlw; have b9 := v2 z (by omega) (by omega); unfold bnd at b9 ⊢; split <;> omega
          refine g_callV S xK (As := [.int (iI fv), .int (iI lw)]) (st := []) (stk' := []) (Wp' := CW E ad (upI sp i (ape gg fv lw)) se al ta n pg) (r := (RX0, TX0, 3)) (m_X0_appendUnlessEmpty l E hj (upI sp i gg) se al ta n pg i (by omega) gg (upI_s _ _ _) fv lw hwg hbf hbl) (cwV 2 S.2.2.2.2 gX0_becomeWithoutPageOfBook_X0_appendUnlessEmpty rfl rfl rfl (by decide +kernel) ⟨Nat.le_of_ble_eq_true rfl, Nat.le_of_ble_eq_true rfl⟩) rfl rfl rfl rfl (Nat.le_of_ble_eq_true rfl) ⟨Nat.le_of_ble_eq_true rfl, Nat.le_of_ble_eq_true rfl⟩ (fun _ q => q) (fun _ h => cw_o (i := i) h (by omega) (upI_s _ _ _)) (fun _ h => h) (fun _ _ _ h _ _ => by rw [upI_u] at h; exact h) dX0_becomeWithoutPageOfBook_62 ?_
          refine g_iinc S (lv' := [(3, .int (iI (z + 1))), (0, .ref (ad (5 + 3 * i))), (1, .ref (ad (5 + 3 * o))), (2, .int (iI q)), (4, .int (iI (go.2.1 z))), (5, .int (iI (go.2.2 z)))]) dX0_becomeWithoutPageOfBook_65 3 rfl (Nat.le_of_ble_eq_true rfl) rfl ?_
          refine g_goto S (tgt := 7) dX0_becomeWithoutPageOfBook_68 (by decide) ?_
          refine g_lv [1, 2, 3, 0] rfl ?_
          exact ihL7 (z + 1) (ape gg fv lw) (by omega) (by rw [wpo_s _ _ _ hz.1, ← hgg, hfv, hlw]) (ape_wb hwg hbf hbl) (by omega)
        have L47 : ∀ (fv : Int), (fv = if q < go.2.1 z then go.2.1 z - 1 else go.2.1 z) → G xp l xe ({ frames := 3, cells := 0, slots := 0, locals := 60 }) xs xm xa xb xh xc 6 (AX ad) 0 0 (MQ xb (QW (none) (CW E ad (upI sp i (wpo go q (0, g.2.1, g.2.2) go.1.toNat)) se al ta n pg) (AX ad)) xa xs 0 0 (AX ad)) 47 [(0, .ref (ad (5 + 3 * i))), (1, .ref (ad (5 + 3 * o))), (2, .int (iI q)), (3, .int (iI z)), (4, .int (iI (go.2.1 z))), (5, .int (iI (go.2.2 z)))] [.int (iI fv), .ref (ad (5 + 3 * i))] (CW E ad (upI sp i gg) se al ta n pg) := by
          intro fv hfv
          refine g_iload S dX0_becomeWithoutPageOfBook_47 5 rfl ?_
          refine g_iload_n S dX0_becomeWithoutPageOfBook_49 rfl 2 rfl ?_
          refine g_icmp_lt S (tgt := 60) dX0_becomeWithoutPageOfBook_50 (by decide) (by omega) (fun c50 => ?_) (fun c50 => ?_)
          · skip
            refine g_iload S dX0_becomeWithoutPageOfBook_60 5 rfl ?_
            exact L62 fv (go.2.2 z) (hfv) ((if_neg (by omega)).symm)
          · skip
            refine g_iload S dX0_becomeWithoutPageOfBook_53 5 rfl ?_
            refine g_iconst S dX0_becomeWithoutPageOfBook_55 ?_
            refine g_isub S dX0_becomeWithoutPageOfBook_56 ?_
            refine g_goto S (tgt := 62) dX0_becomeWithoutPageOfBook_57 (by decide) ?_
            exact L62 fv (go.2.2 z - 1) (hfv) ((if_pos (by omega)).symm)
        refine g_aload_n S dX0_becomeWithoutPageOfBook_15 rfl 1 rfl ?_
        refine g_get S xK (ref := "BookIndex$Spans") hin0 0 (by decide) (show vwCl[0]? = some (RX0, TX0, 3) from rfl) kf9 (fun _ h9 => h9) (fun _ h => cw_o (i := o) h (by omega) ((upI_n _ _ (by omega)).trans (hgo))) rfl dX0_becomeWithoutPageOfBook_16 ?_
        refine g_iload_n S dX0_becomeWithoutPageOfBook_19 rfl 3 rfl ?_
        refine g_iald S xK (n := 16) (fun _ h => cw_f (i := o) h (by omega) ((upI_n _ _ (by omega)).trans (hgo))) (by omega) (by decide) dX0_becomeWithoutPageOfBook_20 ?_
        refine g_istore S (lv' := [(4, .int (iI (go.2.1 z))), (0, .ref (ad (5 + 3 * i))), (1, .ref (ad (5 + 3 * o))), (2, .int (iI q)), (3, .int (iI z))]) dX0_becomeWithoutPageOfBook_21 (Nat.le_of_ble_eq_true rfl) rfl ?_
        refine g_aload_n S dX0_becomeWithoutPageOfBook_23 rfl 2 rfl ?_
        refine g_get S xK (ref := "BookIndex$Spans") hin0 1 (by decide) (show vwCl[0]? = some (RX0, TX0, 3) from rfl) kf15 (fun _ h9 => h9) (fun _ h => cw_o (i := o) h (by omega) ((upI_n _ _ (by omega)).trans (hgo))) rfl dX0_becomeWithoutPageOfBook_24 ?_
        refine g_iload_n S dX0_becomeWithoutPageOfBook_27 rfl 4 rfl ?_
        refine g_iald S xK (n := 16) (fun _ h => cw_l (i := o) h (by omega) ((upI_n _ _ (by omega)).trans (hgo))) (by omega) (by decide) dX0_becomeWithoutPageOfBook_28 ?_
        refine g_istore S (lv' := [(5, .int (iI (go.2.2 z))), (4, .int (iI (go.2.1 z))), (0, .ref (ad (5 + 3 * i))), (1, .ref (ad (5 + 3 * o))), (2, .int (iI q)), (3, .int (iI z))]) dX0_becomeWithoutPageOfBook_29 (Nat.le_of_ble_eq_true rfl) rfl ?_
        refine g_aload_n S dX0_becomeWithoutPageOfBook_31 rfl 2 rfl ?_
        refine g_iload S dX0_becomeWithoutPageOfBook_32 1 rfl ?_
        refine g_iload_n S dX0_becomeWithoutPageOfBook_34 rfl 4 rfl ?_
        refine g_icmp_le S (tgt := 45) dX0_becomeWithoutPageOfBook_35 (by decide) (by omega) (fun c35 => ?_) (fun c35 => ?_)
        · skip
          refine g_iload S dX0_becomeWithoutPageOfBook_45 1 rfl ?_
          refine g_lv [2, 3, 4, 5, 1, 0] rfl ?_
          exact L47 (go.2.1 z) ((if_neg (by omega)).symm)
        · skip
          refine g_iload S dX0_becomeWithoutPageOfBook_38 1 rfl ?_
          refine g_iconst S dX0_becomeWithoutPageOfBook_40 ?_
          refine g_isub S dX0_becomeWithoutPageOfBook_41 ?_
          refine g_goto S (tgt := 47) dX0_becomeWithoutPageOfBook_42 (by decide) ?_
          refine g_lv [2, 3, 4, 5, 1, 0] rfl ?_
          exact L47 (go.2.1 z - 1) ((if_pos (by omega)).symm)
  refine g_aload_n S dX0_becomeWithoutPageOfBook_0 rfl 0 rfl ?_
  refine g_iconst S dX0_becomeWithoutPageOfBook_1 ?_
  refine g_put S xK (Wp' := CW E ad (upI sp i (0, g.2.1, g.2.2)) se al ta n pg) (ref := "BookIndex$Spans") (ty := .int) hin0 tyX0 tyX0_ok nmX0 2 (by decide) (show vwCl[0]? = some (RX0, TX0, 3) from rfl) kf18 (fun _ h9 => h9) rfl (by decide +kernel) rfl rfl (fun _ h => cw_o (i := i) h (by omega) (hg)) (Nat.le_of_ble_eq_true rfl) (ax_in (by omega)) (fun _ _ h hv _ oq => cw_sO (i := i) hj h (by omega) (hg) hv oq) dX0_becomeWithoutPageOfBook_2 ?_
  refine g_iconst S dX0_becomeWithoutPageOfBook_5 ?_
  refine g_istore_n S (lv' := [(3, .int (iI 0)), (0, .ref (ad (5 + 3 * i))), (1, .ref (ad (5 + 3 * o))), (2, .int (iI q))]) dX0_becomeWithoutPageOfBook_6 rfl (Nat.le_of_ble_eq_true rfl) rfl ?_
  refine g_lv [1, 2, 3, 0] rfl ?_
  exact L7 ((go.1 - 0) + 1).toNat 0 (0, g.2.1, g.2.2) (by omega) (rfl) (wb0 _ _) (by omega)
set_option maxHeartbeats 4000000 in
set_option maxRecDepth 100000 in
theorem m_X0_becomeUnion (l : Launch) (E : EN) {ad : Int → Nat} (hj : INJ ad) (sp : Int → SpT) (se : Int → Int) (al : Int → Nat) (ta : Int → Int) (n pg : Int) (i : Int) (hi : 0 ≤ i ∧ i < 27) (g : SpT) (hg : sp i = g) (x : Int) (hx : 0 ≤ x ∧ x < 27) (gx : SpT) (hgx : sp x = gx) (o : Int) (ho : 0 ≤ o ∧ o < 27) (go : SpT) (hgo : sp o = go) (hxi : x ≠ i) (hoi : o ≠ i) (hwx : WB gx) (hwo : WB go) : Met l yX0_becomeUnion wsX0_becomeUnion ({ frames := 2, cells := 0, slots := 0, locals := 38 }) (CI E [.ref (ad (5 + 3 * i)), .ref (ad (5 + 3 * x)), .ref (ad (5 + 3 * o))] (CW E ad sp se al ta n pg)) (QW (none) (CW E ad (upI sp i (uni gx go (gx.1 + go.1).toNat 0 0 (0, g.2.1, g.2.2))) se al ta n pg) (AX ad)) 0 0 (AX ad) := by
  refine g_met (cc := cX0_becomeUnion) (maxL := 7) (ret := none) (lv := [(0, .ref (ad (5 + 3 * i))), (1, .ref (ad (5 + 3 * x))), (2, .ref (ad (5 + 3 * o)))]) (by decide) rfl (Nat.le_of_ble_eq_true rfl) rfl ?_
  intro xp xe xs xm xa xb xh xc S xK xr xlk xin
  have kf18 := S.2.2.2.2 (.fieldLink RX0 18 "BookIndex$Spans" "count" "I") (by decide +kernel)
  have kf9 := S.2.2.2.2 (.fieldLink RX0 9 "BookIndex$Spans" "firsts" "[I") (by decide +kernel)
  have hin0 : ∀ w ∈ wsX00, w ∈ wsX0_becomeUnion := by decide +kernel
  obtain ⟨u0, u1, u2⟩ := id hwx
  obtain ⟨v0, v1, v2⟩ := id hwo
  have L21 : ∀ (nf : Nat) (a : Int) (b : Int) (lf : Int) (gg : SpT), (0 ≤ a ∧ 0 ≤ b ∧ a + b + lf = gx.1 + go.1 ∧ 0 ≤ lf) → (uni gx go lf.toNat a b gg = uni gx go (gx.1 + go.1).toNat 0 0 (0, g.2.1, g.2.2)) → (WB gg) → (lf < (nf : Int)) → G xp l xe ({ frames := 2, cells := 0, slots := 0, locals := 38 }) xs xm xa xb xh xc 7 (AX ad) 0 0 (MQ xb (QW (none) (CW E ad (upI sp i (uni gx go (gx.1 + go.1).toNat 0 0 (0, g.2.1, g.2.2))) se al ta n pg) (AX ad)) xa xs 0 0 (AX ad)) 21 [(0, .ref (ad (5 + 3 * i))), (1, .ref (ad (5 + 3 * x))), (2, .ref (ad (5 + 3 * o))), (3, .int (iI a)), (4, .int (iI b)), (5, .int (iI lf))] [] (CW E ad (upI sp i gg) se al ta n pg) := by
    intro nf
    induction nf with
    | zero =>
      intro a b lf gg hz ht hwg hmf
      exfalso
      omega
    | succ nf ihL21 =>
      intro a b lf gg hz ht hwg hmf
      refine g_iload S dX0_becomeUnion_21 5 rfl ?_
      refine g_if_le S (tgt := 118) dX0_becomeUnion_23 (by decide) (by omega) (fun c23 => ?_) (fun c23 => ?_)
      · skip
        exact g_vret S xr xlk dX0_becomeUnion_118 (fun _ h => by rw [← ht, show lf.toNat = 0 by omega]; exact h)
      · skip
        have L71 : (go.1 ≤ b ∨ (a < gx.1 ∧ gx.2.1 a ≤ go.2.1 b)) → G xp l xe ({ frames := 2, cells := 0, slots := 0, locals := 38 }) xs xm xa xb xh xc 7 (AX ad) 0 0 (MQ xb (QW (none) (CW E ad (upI sp i (uni gx go (gx.1 + go.1).toNat 0 0 (0, g.2.1, g.2.2))) se al ta n pg) (AX ad)) xa xs 0 0 (AX ad)) 71 [(0, .ref (ad (5 + 3 * i))), (1, .ref (ad (5 + 3 * x))), (2, .ref (ad (5 + 3 * o))), (3, .int (iI a)), (4, .int (iI b)), (5, .int (iI lf))] [] (CW E ad (upI sp i gg) se al ta n pg) := by
          intro  hc
          refine g_aload_n S dX0_becomeUnion_71 rfl 0 rfl ?_
          refine g_aload_n S dX0_becomeUnion_72 rfl 1 rfl ?_
          refine g_iload_n S dX0_becomeUnion_73 rfl 3 rfl ?_
          refine g_callV S xK (As := [.int (iI a)]) (st := [.ref (ad (5 + 3 * i))]) (stk' := [.int (iI (spF gx a)), .ref (ad (5 + 3 * i))]) (Wp' := CW E ad (upI sp i gg) se al ta n pg) (r := (RX0, TX0, 3)) (m_X0_first l E hj (upI sp i gg) se al ta n pg x (by omega) gx ((upI_n _ _ (by omega)).trans (hgx)) a hwx (by omega)) (cwV 1 S.2.2.2.2 gX0_becomeUnion_X0_first rfl rfl rfl (by decide +kernel) ⟨Nat.le_of_ble_eq_true rfl, Nat.le_of_ble_eq_true rfl⟩) rfl rfl rfl rfl (Nat.le_of_ble_eq_true rfl) ⟨Nat.le_of_ble_eq_true rfl, Nat.le_of_ble_eq_true rfl⟩ (fun _ q => q.elim) (fun _ h => cw_o (i := x) h (by omega) ((upI_n _ _ (by omega)).trans (hgx))) (fun _ h => h) (fun _ _ _ h _ _ => h) dX0_becomeUnion_74 ?_
          refine g_aload_n S dX0_becomeUnion_77 rfl 1 rfl ?_
          refine g_iload_n S dX0_becomeUnion_78 rfl 3 rfl ?_
          refine g_callV S xK (As := [.int (iI a)]) (st := [.int (iI (spF gx a)), .ref (ad (5 + 3 * i))]) (stk' := [.int (iI (spL gx a)), .int (iI (spF gx a)), .ref (ad (5 + 3 * i))]) (Wp' := CW E ad (upI sp i gg) se al ta n pg) (r := (RX0, TX0, 3)) (m_X0_last l E hj (upI sp i gg) se al ta n pg x (by omega) gx ((upI_n _ _ (by omega)).trans (hgx)) a hwx (by omega)) (cwV 1 S.2.2.2.2 gX0_becomeUnion_X0_last rfl rfl rfl (by decide +kernel) ⟨Nat.le_of_ble_eq_true rfl, Nat.le_of_ble_eq_true rfl⟩) rfl rfl rfl rfl (Nat.le_of_ble_eq_true rfl) ⟨Nat.le_of_ble_eq_true rfl, Nat.le_of_ble_eq_true rfl⟩ (fun _ q => q.elim) (fun _ h => cw_o (i := x) h (by omega) ((upI_n _ _ (by omega)).trans (hgx))) (fun _ h => h) (fun _ _ _ h _ _ => h) dX0_becomeUnion_79 ?_
          refine g_iconst S dX0_becomeUnion_82 ?_
          refine g_callV S xK (As := [.int (iI (spF gx a)), .int (iI (spL gx a)), .int (iI 0)]) (st := []) (stk' := []) (Wp' := CW E ad (upI sp i (apd gg (spF gx a) (spL gx a) 0)) se al ta n pg) (r := (RX0, TX0, 3)) (m_X0_append l E hj (upI sp i gg) se al ta n pg i (by omega) gg (upI_s _ _ _) (spF gx a) (spL gx a) 0 hwg (spF_bnd hwx a) (spL_bnd hwx a) (by omega)) (cwV 3 S.2.2.2.2 gX0_becomeUnion_X0_append rfl rfl rfl (by decide +kernel) ⟨Nat.le_of_ble_eq_true rfl, Nat.le_of_ble_eq_true rfl⟩) rfl rfl rfl rfl (Nat.le_of_ble_eq_true rfl) ⟨Nat.le_of_ble_eq_true rfl, Nat.le_of_ble_eq_true rfl⟩ (fun _ q => q) (fun _ h => cw_o (i := i) h (by omega) (upI_s _ _ _)) (fun _ h => h) (fun _ _ _ h _ _ => by rw [upI_u] at h; exact h) dX0_becomeUnion_83 ?_
          refine g_iinc S (lv' := [(3, .int (iI (a + 1))), (0, .ref (ad (5 + 3 * i))), (1, .ref (ad (5 + 3 * x))), (2, .ref (ad (5 + 3 * o))), (4, .int (iI b)), (5, .int (iI lf))]) dX0_becomeUnion_86 3 rfl (Nat.le_of_ble_eq_true rfl) rfl ?_
          refine g_goto S (tgt := 112) dX0_becomeUnion_89 (by decide) ?_
          refine g_iinc S (lv' := [(5, .int (iI (lf + (-1)))), (3, .int (iI (a + 1))), (0, .ref (ad (5 + 3 * i))), (1, .ref (ad (5 + 3 * x))), (2, .ref (ad (5 + 3 * o))), (4, .int (iI b))]) dX0_becomeUnion_112 5 rfl (Nat.le_of_ble_eq_true rfl) rfl ?_
          refine g_goto S (tgt := 21) dX0_becomeUnion_115 (by decide) ?_
          refine g_lv [2, 3, 4, 1, 5, 0] rfl ?_
          exact ihL21 (a + 1) b (lf + (-1)) (apd gg (spF gx a) (spL gx a) 0) (by omega) (by rw [← ht, uni_a (by omega) hc]; rfl) (apd_wb hwg (spF_bnd hwx a) (spL_bnd hwx a)) (by omega)
        have L92 : (¬ (go.1 ≤ b ∨ (a < gx.1 ∧ gx.2.1 a ≤ go.2.1 b))) → G xp l xe ({ frames := 2, cells := 0, slots := 0, locals := 38 }) xs xm xa xb xh xc 7 (AX ad) 0 0 (MQ xb (QW (none) (CW E ad (upI sp i (uni gx go (gx.1 + go.1).toNat 0 0 (0, g.2.1, g.2.2))) se al ta n pg) (AX ad)) xa xs 0 0 (AX ad)) 92 [(0, .ref (ad (5 + 3 * i))), (1, .ref (ad (5 + 3 * x))), (2, .ref (ad (5 + 3 * o))), (3, .int (iI a)), (4, .int (iI b)), (5, .int (iI lf))] [] (CW E ad (upI sp i gg) se al ta n pg) := by
          intro  hc
          refine g_aload_n S dX0_becomeUnion_92 rfl 0 rfl ?_
          refine g_aload_n S dX0_becomeUnion_93 rfl 2 rfl ?_
          refine g_iload S dX0_becomeUnion_94 4 rfl ?_
          refine g_callV S xK (As := [.int (iI b)]) (st := [.ref (ad (5 + 3 * i))]) (stk' := [.int (iI (spF go b)), .ref (ad (5 + 3 * i))]) (Wp' := CW E ad (upI sp i gg) se al ta n pg) (r := (RX0, TX0, 3)) (m_X0_first l E hj (upI sp i gg) se al ta n pg o (by omega) go ((upI_n _ _ (by omega)).trans (hgo)) b hwo (by omega)) (cwV 1 S.2.2.2.2 gX0_becomeUnion_X0_first rfl rfl rfl (by decide +kernel) ⟨Nat.le_of_ble_eq_true rfl, Nat.le_of_ble_eq_true rfl⟩) rfl rfl rfl rfl (Nat.le_of_ble_eq_true rfl) ⟨Nat.le_of_ble_eq_true rfl, Nat.le_of_ble_eq_true rfl⟩ (fun _ q => q.elim) (fun _ h => cw_o (i := o) h (by omega) ((upI_n _ _ (by omega)).trans (hgo))) (fun _ h => h) (fun _ _ _ h _ _ => h) dX0_becomeUnion_96 ?_
          refine g_aload_n S dX0_becomeUnion_99 rfl 2 rfl ?_
          refine g_iload S dX0_becomeUnion_100 4 rfl ?_
          refine g_callV S xK (As := [.int (iI b)]) (st := [.int (iI (spF go b)), .ref (ad (5 + 3 * i))]) (stk' := [.int (iI (spL go b)), .int (iI (spF go b)), .ref (ad (5 + 3 * i))]) (Wp' := CW E ad (upI sp i gg) se al ta n pg) (r := (RX0, TX0, 3)) (m_X0_last l E hj (upI sp i gg) se al ta n pg o (by omega) go ((upI_n _ _ (by omega)).trans (hgo)) b hwo (by omega)) (cwV 1 S.2.2.2.2 gX0_becomeUnion_X0_last rfl rfl rfl (by decide +kernel) ⟨Nat.le_of_ble_eq_true rfl, Nat.le_of_ble_eq_true rfl⟩) rfl rfl rfl rfl (Nat.le_of_ble_eq_true rfl) ⟨Nat.le_of_ble_eq_true rfl, Nat.le_of_ble_eq_true rfl⟩ (fun _ q => q.elim) (fun _ h => cw_o (i := o) h (by omega) ((upI_n _ _ (by omega)).trans (hgo))) (fun _ h => h) (fun _ _ _ h _ _ => h) dX0_becomeUnion_102 ?_
          refine g_iconst S dX0_becomeUnion_105 ?_
          refine g_callV S xK (As := [.int (iI (spF go b)), .int (iI (spL go b)), .int (iI 0)]) (st := []) (stk' := []) (Wp' := CW E ad (upI sp i (apd gg (spF go b) (spL go b) 0)) se al ta n pg) (r := (RX0, TX0, 3)) (m_X0_append l E hj (upI sp i gg) se al ta n pg i (by omega) gg (upI_s _ _ _) (spF go b) (spL go b) 0 hwg (spF_bnd hwo b) (spL_bnd hwo b) (by omega)) (cwV 3 S.2.2.2.2 gX0_becomeUnion_X0_append rfl rfl rfl (by decide +kernel) ⟨Nat.le_of_ble_eq_true rfl, Nat.le_of_ble_eq_true rfl⟩) rfl rfl rfl rfl (Nat.le_of_ble_eq_true rfl) ⟨Nat.le_of_ble_eq_true rfl, Nat.le_of_ble_eq_true rfl⟩ (fun _ q => q) (fun _ h => cw_o (i := i) h (by omega) (upI_s _ _ _)) (fun _ h => h) (fun _ _ _ h _ _ => by rw [upI_u] at h; exact h) dX0_becomeUnion_106 ?_
          refine g_iinc S (lv' := [(4, .int (iI (b + 1))), (0, .ref (ad (5 + 3 * i))), (1, .ref (ad (5 + 3 * x))), (2, .ref (ad (5 + 3 * o))), (3, .int (iI a)), (5, .int (iI lf))]) dX0_becomeUnion_109 4 rfl (Nat.le_of_ble_eq_true rfl) rfl ?_
          refine g_iinc S (lv' := [(5, .int (iI (lf + (-1)))), (4, .int (iI (b + 1))), (0, .ref (ad (5 + 3 * i))), (1, .ref (ad (5 + 3 * x))), (2, .ref (ad (5 + 3 * o))), (3, .int (iI a))]) dX0_becomeUnion_112 5 rfl (Nat.le_of_ble_eq_true rfl) rfl ?_
          refine g_goto S (tgt := 21) dX0_becomeUnion_115 (by decide) ?_
          refine g_lv [2, 3, 4, 5, 1, 0] rfl ?_
          exact ihL21 a (b + 1) (lf + (-1)) (apd gg (spF go b) (spL go b) 0) (by omega) (by rw [← ht, uni_b (by omega) hc]; rfl) (apd_wb hwg (spF_bnd hwo b) (spL_bnd hwo b)) (by omega)
        refine g_iload S dX0_becomeUnion_26 4 rfl ?_
        refine g_aload_n S dX0_becomeUnion_28 rfl 2 rfl ?_
        refine g_get S xK (ref := "BookIndex$Spans") hin0 2 (by decide) (show vwCl[0]? = some (RX0, TX0, 3) from rfl) kf18 (fun _ h9 => h9) (fun _ h => cw_o (i := o) h (by omega) ((upI_n _ _ (by omega)).trans (hgo))) rfl dX0_becomeUnion_29 ?_
        refine g_icmp_ge S (tgt := 59) dX0_becomeUnion_32 (by decide) (by omega) (fun c32 => ?_) (fun c32 => ?_)
        · skip
          refine g_iconst S dX0_becomeUnion_59 ?_
          refine g_goto S (tgt := 64) dX0_becomeUnion_60 (by decide) ?_
          refine g_istore S (lv' := [(6, .int (iI 1)), (0, .ref (ad (5 + 3 * i))), (1, .ref (ad (5 + 3 * x))), (2, .ref (ad (5 + 3 * o))), (3, .int (iI a)), (4, .int (iI b)), (5, .int (iI lf))]) dX0_becomeUnion_64 (Nat.le_of_ble_eq_true rfl) rfl ?_
          refine g_iload S dX0_becomeUnion_66 0 rfl ?_
          refine g_if_eq S (tgt := 92) dX0_becomeUnion_68 (by decide) (by omega) (fun c68 => ?_) (fun c68 => ?_)
          · skip
            exact absurd c68 (by decide)
          · skip
            refine g_lv [1, 2, 3, 4, 5, 6] rfl ?_
            exact L71  (by omega)
        · skip
          refine g_iload_n S dX0_becomeUnion_35 rfl 3 rfl ?_
          refine g_aload_n S dX0_becomeUnion_36 rfl 1 rfl ?_
          refine g_get S xK (ref := "BookIndex$Spans") hin0 2 (by decide) (show vwCl[0]? = some (RX0, TX0, 3) from rfl) kf18 (fun _ h9 => h9) (fun _ h => cw_o (i := x) h (by omega) ((upI_n _ _ (by omega)).trans (hgx))) rfl dX0_becomeUnion_37 ?_
          refine g_icmp_ge S (tgt := 63) dX0_becomeUnion_40 (by decide) (by omega) (fun c40 => ?_) (fun c40 => ?_)
          · skip
            refine g_iconst S dX0_becomeUnion_63 ?_
            refine g_istore S (lv' := [(6, .int (iI 0)), (0, .ref (ad (5 + 3 * i))), (1, .ref (ad (5 + 3 * x))), (2, .ref (ad (5 + 3 * o))), (3, .int (iI a)), (4, .int (iI b)), (5, .int (iI lf))]) dX0_becomeUnion_64 (Nat.le_of_ble_eq_true rfl) rfl ?_
            refine g_iload S dX0_becomeUnion_66 0 rfl ?_
            refine g_if_eq S (tgt := 92) dX0_becomeUnion_68 (by decide) (by omega) (fun c68 => ?_) (fun c68 => ?_)
            · skip
              refine g_lv [1, 2, 3, 4, 5, 6] rfl ?_
              exact L92  (by omega)
            · skip
              exact absurd c68 (by decide)
          · skip
            have b43 := u2 a (by omega) (by omega)
            have e43 := v2 b (by omega) (by omega)
            unfold bnd at b43 e43
            refine g_aload_n S dX0_becomeUnion_43 rfl 1 rfl ?_
            refine g_get S xK (ref := "BookIndex$Spans") hin0 0 (by decide) (show vwCl[0]? = some (RX0, TX0, 3) from rfl) kf9 (fun _ h9 => h9) (fun _ h => cw_o (i := x) h (by omega) ((upI_n _ _ (by omega)).trans (hgx))) rfl dX0_becomeUnion_44 ?_
            refine g_iload_n S dX0_becomeUnion_47 rfl 3 rfl ?_
            refine g_iald S xK (n := 16) (fun _ h => cw_f (i := x) h (by omega) ((upI_n _ _ (by omega)).trans (hgx))) (by omega) (by decide) dX0_becomeUnion_48 ?_
            refine g_aload_n S dX0_becomeUnion_49 rfl 2 rfl ?_
            refine g_get S xK (ref := "BookIndex$Spans") hin0 0 (by decide) (show vwCl[0]? = some (RX0, TX0, 3) from rfl) kf9 (fun _ h9 => h9) (fun _ h => cw_o (i := o) h (by omega) ((upI_n _ _ (by omega)).trans (hgo))) rfl dX0_becomeUnion_50 ?_
            refine g_iload S dX0_becomeUnion_53 4 rfl ?_
            refine g_iald S xK (n := 16) (fun _ h => cw_f (i := o) h (by omega) ((upI_n _ _ (by omega)).trans (hgo))) (by omega) (by decide) dX0_becomeUnion_55 ?_
            refine g_icmp_gt S (tgt := 63) dX0_becomeUnion_56 (by decide) (by omega) (fun c56 => ?_) (fun c56 => ?_)
            · skip
              refine g_iconst S dX0_becomeUnion_63 ?_
              refine g_istore S (lv' := [(6, .int (iI 0)), (0, .ref (ad (5 + 3 * i))), (1, .ref (ad (5 + 3 * x))), (2, .ref (ad (5 + 3 * o))), (3, .int (iI a)), (4, .int (iI b)), (5, .int (iI lf))]) dX0_becomeUnion_64 (Nat.le_of_ble_eq_true rfl) rfl ?_
              refine g_iload S dX0_becomeUnion_66 0 rfl ?_
              refine g_if_eq S (tgt := 92) dX0_becomeUnion_68 (by decide) (by omega) (fun c68 => ?_) (fun c68 => ?_)
              · skip
                refine g_lv [1, 2, 3, 4, 5, 6] rfl ?_
                exact L92  (by omega)
              · skip
                exact absurd c68 (by decide)
            · skip
              refine g_iconst S dX0_becomeUnion_59 ?_
              refine g_goto S (tgt := 64) dX0_becomeUnion_60 (by decide) ?_
              refine g_istore S (lv' := [(6, .int (iI 1)), (0, .ref (ad (5 + 3 * i))), (1, .ref (ad (5 + 3 * x))), (2, .ref (ad (5 + 3 * o))), (3, .int (iI a)), (4, .int (iI b)), (5, .int (iI lf))]) dX0_becomeUnion_64 (Nat.le_of_ble_eq_true rfl) rfl ?_
              refine g_iload S dX0_becomeUnion_66 0 rfl ?_
              refine g_if_eq S (tgt := 92) dX0_becomeUnion_68 (by decide) (by omega) (fun c68 => ?_) (fun c68 => ?_)
              · skip
                exact absurd c68 (by decide)
              · skip
                refine g_lv [1, 2, 3, 4, 5, 6] rfl ?_
                exact L71  (by omega)
  refine g_aload_n S dX0_becomeUnion_0 rfl 0 rfl ?_
  refine g_iconst S dX0_becomeUnion_1 ?_
  refine g_put S xK (Wp' := CW E ad (upI sp i (0, g.2.1, g.2.2)) se al ta n pg) (ref := "BookIndex$Spans") (ty := .int) hin0 tyX0 tyX0_ok nmX0 2 (by decide) (show vwCl[0]? = some (RX0, TX0, 3) from rfl) kf18 (fun _ h9 => h9) rfl (by decide +kernel) rfl rfl (fun _ h => cw_o (i := i) h (by omega) (hg)) (Nat.le_of_ble_eq_true rfl) (ax_in (by omega)) (fun _ _ h hv _ oq => cw_sO (i := i) hj h (by omega) (hg) hv oq) dX0_becomeUnion_2 ?_
  refine g_iconst S dX0_becomeUnion_5 ?_
  refine g_istore_n S (lv' := [(3, .int (iI 0)), (0, .ref (ad (5 + 3 * i))), (1, .ref (ad (5 + 3 * x))), (2, .ref (ad (5 + 3 * o)))]) dX0_becomeUnion_6 rfl (Nat.le_of_ble_eq_true rfl) rfl ?_
  refine g_iconst S dX0_becomeUnion_7 ?_
  refine g_istore S (lv' := [(4, .int (iI 0)), (3, .int (iI 0)), (0, .ref (ad (5 + 3 * i))), (1, .ref (ad (5 + 3 * x))), (2, .ref (ad (5 + 3 * o)))]) dX0_becomeUnion_8 (Nat.le_of_ble_eq_true rfl) rfl ?_
  refine g_aload_n S dX0_becomeUnion_10 rfl 3 rfl ?_
  refine g_get S xK (ref := "BookIndex$Spans") hin0 2 (by decide) (show vwCl[0]? = some (RX0, TX0, 3) from rfl) kf18 (fun _ h9 => h9) (fun _ h => cw_o (i := x) h (by omega) ((upI_n _ _ (by omega)).trans (hgx))) rfl dX0_becomeUnion_11 ?_
  refine g_aload_n S dX0_becomeUnion_14 rfl 4 rfl ?_
  refine g_get S xK (ref := "BookIndex$Spans") hin0 2 (by decide) (show vwCl[0]? = some (RX0, TX0, 3) from rfl) kf18 (fun _ h9 => h9) (fun _ h => cw_o (i := o) h (by omega) ((upI_n _ _ (by omega)).trans (hgo))) rfl dX0_becomeUnion_15 ?_
  refine g_iadd S dX0_becomeUnion_18 ?_
  refine g_istore S (lv' := [(5, .int (iI (gx.1 + go.1))), (4, .int (iI 0)), (3, .int (iI 0)), (0, .ref (ad (5 + 3 * i))), (1, .ref (ad (5 + 3 * x))), (2, .ref (ad (5 + 3 * o)))]) dX0_becomeUnion_19 (Nat.le_of_ble_eq_true rfl) rfl ?_
  refine g_lv [3, 4, 5, 2, 1, 0] rfl ?_
  exact L21 (((gx.1 + go.1)) + 1).toNat 0 0 (gx.1 + go.1) (0, g.2.1, g.2.2) (by omega) (rfl) (wb0 _ _) (by omega)
set_option maxHeartbeats 4000000 in
set_option maxRecDepth 100000 in
theorem m_X0_moveOn (l : Launch) (E : EN) {ad : Int → Nat} (hj : INJ ad) (sp : Int → SpT) (se : Int → Int) (al : Int → Nat) (ta : Int → Int) (n pg : Int) (i : Int) (hi : 0 ≤ i ∧ i < 27) (g : SpT) (hg : sp i = g) (q mn : Int) (hwb : WB g) (hqm : -10000 ≤ q ∧ q ≤ 10000 ∧ -10000 ≤ mn ∧ mn ≤ 10000) : Met l yX0_moveOn wsX0_moveOn ({ frames := 0, cells := 0, slots := 0, locals := 0 }) (CI E [.ref (ad (5 + 3 * i)), .int (iI q), .int (iI mn)] (CW E ad sp se al ta n pg)) (QW (none) (CW E ad (upI sp i (mvd g q mn g.1)) se al ta n pg) (AX ad)) 0 0 (AX ad) := by
  refine g_met (cc := cX0_moveOn) (maxL := 4) (ret := none) (lv := [(0, .ref (ad (5 + 3 * i))), (1, .int (iI q)), (2, .int (iI mn))]) (by decide) rfl (Nat.le_of_ble_eq_true rfl) rfl ?_
  intro xp xe xs xm xa xb xh xc S xK xr xlk xin
  have kf18 := S.2.2.2.2 (.fieldLink RX0 18 "BookIndex$Spans" "count" "I") (by decide +kernel)
  have kf15 := S.2.2.2.2 (.fieldLink RX0 15 "BookIndex$Spans" "lasts" "[I") (by decide +kernel)
  have kf9 := S.2.2.2.2 (.fieldLink RX0 9 "BookIndex$Spans" "firsts" "[I") (by decide +kernel)
  have hin0 : ∀ w ∈ wsX00, w ∈ wsX0_moveOn := by decide +kernel
  obtain ⟨w0, w1, w2⟩ := hwb
  have L2 : ∀ (nf : Nat) (z : Int) (gg : SpT), (0 ≤ z ∧ z ≤ g.1) → (gg = mvd g q mn z) → (g.1 - z < (nf : Int)) → G xp l xe ({ frames := 0, cells := 0, slots := 0, locals := 0 }) xs xm xa xb xh xc 4 (AX ad) 0 0 (MQ xb (QW (none) (CW E ad (upI sp i (mvd g q mn g.1)) se al ta n pg) (AX ad)) xa xs 0 0 (AX ad)) 2 [(0, .ref (ad (5 + 3 * i))), (1, .int (iI q)), (2, .int (iI mn)), (3, .int (iI z))] [] (CW E ad (upI sp i gg) se al ta n pg) := by
    intro nf
    induction nf with
    | zero =>
      intro z gg hz hgg hmf
      exfalso
      omega
    | succ nf ihL2 =>
      intro z gg hz hgg hmf
      have e1 : gg.1 = g.1 := by rw [hgg]; rfl
      have ef : gg.2.1 z = g.2.1 z := by rw [hgg]; exact mvd_f g q mn z
      have el : gg.2.2 z = g.2.2 z := by rw [hgg]; exact mvd_l g q mn z
      refine g_iload_n S dX0_moveOn_2 rfl 3 rfl ?_
      refine g_aload_n S dX0_moveOn_3 rfl 0 rfl ?_
      refine g_get S xK (ref := "BookIndex$Spans") hin0 2 (by decide) (show vwCl[0]? = some (RX0, TX0, 3) from rfl) kf18 (fun _ h9 => h9) (fun _ h => cw_o (i := i) h (by omega) (upI_s _ _ _)) rfl dX0_moveOn_4 ?_
      refine g_icmp_ge S (tgt := 56) dX0_moveOn_7 (by decide) (by omega) (fun c7 => ?_) (fun c7 => ?_)
      · skip
        exact g_vret S xr xlk dX0_moveOn_56 (fun _ h => by rw [hgg, show z = g.1 by omega] at h; exact h)
      · skip
        have b10 := w2 z (by omega) (by omega)
        unfold bnd at b10
        have L50 : ∀ (g5 : SpT), (g5 = mvd g q mn (z + 1)) → G xp l xe ({ frames := 0, cells := 0, slots := 0, locals := 0 }) xs xm xa xb xh xc 4 (AX ad) 0 0 (MQ xb (QW (none) (CW E ad (upI sp i (mvd g q mn g.1)) se al ta n pg) (AX ad)) xa xs 0 0 (AX ad)) 50 [(0, .ref (ad (5 + 3 * i))), (1, .int (iI q)), (2, .int (iI mn)), (3, .int (iI z))] [] (CW E ad (upI sp i g5) se al ta n pg) := by
          intro g5 h5
          refine g_iinc S (lv' := [(3, .int (iI (z + 1))), (0, .ref (ad (5 + 3 * i))), (1, .int (iI q)), (2, .int (iI mn))]) dX0_moveOn_50 3 rfl (Nat.le_of_ble_eq_true rfl) rfl ?_
          refine g_goto S (tgt := 2) dX0_moveOn_53 (by decide) ?_
          refine g_lv [1, 2, 3, 0] rfl ?_
          exact ihL2 (z + 1) g5 (by omega) (h5) (by omega)
        have L30 : ∀ (g3 : SpT), (g3 = (gg.1, (mvd g q mn (z + 1)).2.1, gg.2.2)) → G xp l xe ({ frames := 0, cells := 0, slots := 0, locals := 0 }) xs xm xa xb xh xc 4 (AX ad) 0 0 (MQ xb (QW (none) (CW E ad (upI sp i (mvd g q mn g.1)) se al ta n pg) (AX ad)) xa xs 0 0 (AX ad)) 30 [(0, .ref (ad (5 + 3 * i))), (1, .int (iI q)), (2, .int (iI mn)), (3, .int (iI z))] [] (CW E ad (upI sp i g3) se al ta n pg) := by
          intro g3 h3
          have e3 : g3.2.2 z = g.2.2 z := by rw [h3]; exact el
          refine g_aload_n S dX0_moveOn_30 rfl 0 rfl ?_
          refine g_get S xK (ref := "BookIndex$Spans") hin0 1 (by decide) (show vwCl[0]? = some (RX0, TX0, 3) from rfl) kf15 (fun _ h9 => h9) (fun _ h => cw_o (i := i) h (by omega) (upI_s _ _ _)) rfl dX0_moveOn_31 ?_
          refine g_iload_n S dX0_moveOn_34 rfl 3 rfl ?_
          refine g_iald S xK (n := 16) (fun _ h => cw_l (i := i) h (by omega) (upI_s _ _ _)) (by omega) (by decide) dX0_moveOn_35 ?_
          refine g_iload_n S dX0_moveOn_36 rfl 1 rfl ?_
          refine g_icmp_lt S (tgt := 50) dX0_moveOn_37 (by decide) (by omega) (fun c37 => ?_) (fun c37 => ?_)
          · skip
            exact L50 g3 (by rw [h3, hgg, mvd_L0 (g := g) (p := q) (m := mn) (z := z) (by omega)]; rfl)
          · skip
            refine g_aload_n S dX0_moveOn_40 rfl 0 rfl ?_
            refine g_get S xK (ref := "BookIndex$Spans") hin0 1 (by decide) (show vwCl[0]? = some (RX0, TX0, 3) from rfl) kf15 (fun _ h9 => h9) (fun _ h => cw_o (i := i) h (by omega) (upI_s _ _ _)) rfl dX0_moveOn_41 ?_
            refine g_iload_n S dX0_moveOn_44 rfl 3 rfl ?_
            refine g_dup2 S dX0_moveOn_45 rfl rfl ?_
            refine g_iald S xK (n := 16) (fun _ h => cw_l (i := i) h (by omega) (upI_s _ _ _)) (by omega) (by decide) dX0_moveOn_46 ?_
            refine g_iload_n S dX0_moveOn_47 rfl 2 rfl ?_
            refine g_iadd S dX0_moveOn_48 ?_
            refine g_iast S xK (Wp' := CW E ad (upI sp i (g3.1, g3.2.1, upI g3.2.2 z (g3.2.2 z + mn))) se al ta n pg) (n := 16) (fun _ h => cw_l (i := i) h (by omega) (upI_s _ _ _)) (by omega) (by decide) (ax_in (by omega)) (fun _ _ h hv _ oq => by have h := cw_sL (i := i) hj h (by omega) (upI_s _ _ _) hv oq; rw [upI_u] at h; exact h) dX0_moveOn_49 ?_
            exact L50 (g3.1, g3.2.1, upI g3.2.2 z (g3.2.2 z + mn)) (by rw [h3]; show (gg.1, (mvd g q mn (z + 1)).2.1, upI gg.2.2 z (gg.2.2 z + mn)) = _; rw [el, hgg, mvd_L hz.1 (by omega)]; rfl)
        refine g_aload_n S dX0_moveOn_10 rfl 0 rfl ?_
        refine g_get S xK (ref := "BookIndex$Spans") hin0 0 (by decide) (show vwCl[0]? = some (RX0, TX0, 3) from rfl) kf9 (fun _ h9 => h9) (fun _ h => cw_o (i := i) h (by omega) (upI_s _ _ _)) rfl dX0_moveOn_11 ?_
        refine g_iload_n S dX0_moveOn_14 rfl 3 rfl ?_
        refine g_iald S xK (n := 16) (fun _ h => cw_f (i := i) h (by omega) (upI_s _ _ _)) (by omega) (by decide) dX0_moveOn_15 ?_
        refine g_iload_n S dX0_moveOn_16 rfl 1 rfl ?_
        refine g_icmp_lt S (tgt := 30) dX0_moveOn_17 (by decide) (by omega) (fun c17 => ?_) (fun c17 => ?_)
        · skip
          exact L30 gg (by rw [← mvd_F0 (g := g) (p := q) (m := mn) (z := z) (by omega), ← hgg])
        · skip
          refine g_aload_n S dX0_moveOn_20 rfl 0 rfl ?_
          refine g_get S xK (ref := "BookIndex$Spans") hin0 0 (by decide) (show vwCl[0]? = some (RX0, TX0, 3) from rfl) kf9 (fun _ h9 => h9) (fun _ h => cw_o (i := i) h (by omega) (upI_s _ _ _)) rfl dX0_moveOn_21 ?_
          refine g_iload_n S dX0_moveOn_24 rfl 3 rfl ?_
          refine g_dup2 S dX0_moveOn_25 rfl rfl ?_
          refine g_iald S xK (n := 16) (fun _ h => cw_f (i := i) h (by omega) (upI_s _ _ _)) (by omega) (by decide) dX0_moveOn_26 ?_
          refine g_iload_n S dX0_moveOn_27 rfl 2 rfl ?_
          refine g_iadd S dX0_moveOn_28 ?_
          refine g_iast S xK (Wp' := CW E ad (upI sp i (gg.1, upI gg.2.1 z (gg.2.1 z + mn), gg.2.2)) se al ta n pg) (n := 16) (fun _ h => cw_f (i := i) h (by omega) (upI_s _ _ _)) (by omega) (by decide) (ax_in (by omega)) (fun _ _ h hv _ oq => by have h := cw_sF (i := i) hj h (by omega) (upI_s _ _ _) hv oq; rw [upI_u] at h; exact h) dX0_moveOn_29 ?_
          exact L30 (gg.1, upI gg.2.1 z (gg.2.1 z + mn), gg.2.2) (by rw [show upI gg.2.1 z (gg.2.1 z + mn) = (mvd g q mn (z + 1)).2.1 from by rw [ef, hgg]; exact mvd_F hz.1 (by omega)])
  refine g_iconst S dX0_moveOn_0 ?_
  refine g_istore_n S (lv' := [(3, .int (iI 0)), (0, .ref (ad (5 + 3 * i))), (1, .int (iI q)), (2, .int (iI mn))]) dX0_moveOn_1 rfl (Nat.le_of_ble_eq_true rfl) rfl ?_
  refine g_lv [1, 2, 3, 0] rfl ?_
  refine g_w (Wp' := CW E ad (upI sp i g) se al ta n pg) (fun _ h => by rw [upI_x _ (hg)]; exact h) ?_
  exact L2 ((g.1 - 0) + 1).toNat 0 g (by omega) ((mvd_0 g q mn).symm) (by omega)
