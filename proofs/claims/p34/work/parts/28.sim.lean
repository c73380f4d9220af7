/-! THE INDEX BY HAND, and the law's own small methods -/
def cel (xs : Int → Int) (L k : Int) : Int := if k < L then xs k else 790386105 * (k + 3)
set_option maxHeartbeats 4000000 in
set_option maxRecDepth 100000 in
theorem m_X2_with (l : Launch) (E : EN) (z : Nat) {W0 : Heap → Prop} (hk : KP z W0) (n : Int) (f : Int → Nat) (ra la : Nat) (hn : 0 ≤ n ∧ n ≤ 30) (h1 : ∀ H, W0 H → vR E 3 ra n f H) (h2 : ∀ H, W0 H → ∀ k : Int, 0 ≤ k → k < n → AC E 0 (f k) H) (h3 : ∀ H, W0 H → AC E 0 la H) : Met l yX2_with wsX2_with ({ frames := 0, cells := 1, slots := 31, locals := 0 }) (CS E [.ref (ra), .ref (la)] (fun H => H.size = z ∧ W0 H)) (QW (some (.ref z)) (fun H => H.size = z + 1 ∧ vR E 3 z (n + 1) (upI f n la) H ∧ W0 H) (fun q => z ≤ q)) 1 31 (fun q => z ≤ q) := by
  refine g_metS (cc := cX2_with) (maxL := 4) (ret := (some (.array (.array .int)))) (lv := [(0, .ref (ra)), (1, .ref (la))]) (by decide) rfl (Nat.le_of_ble_eq_true rfl) rfl ?_
  intro xp xe xs xm xa xb xh xc S xK xO xr xlk xin
  have kc23 := S.2.2.2.2 (.classLink RX2 23 "[I") (by decide +kernel)
  refine g_aload_n S dX2_with_0 rfl 0 rfl ?_
  refine g_lenR S xK (t := 3) (by decide) (n := n) (f := f) (fun _ h => h1 _ h.2) (by omega) dX2_with_1 ?_
  refine g_iconst S dX2_with_2 ?_
  refine g_iadd S dX2_with_3 ?_
  refine g_newR S xK xO (t := 3) (by decide) (Wp' := fun H => H.size = z + 1 ∧ W0 H ∧ vP E 3 z (n + 1) 0 (fun _ => 0) H) (n := n + 1) (a := z) kc23 (by omega) ⟨show 0 + 1 ≤ 1 by omega, show 0 + (n + 1).toNat ≤ 31 by omega⟩ (fun _ h => h.1) (fun _ _ h hv z1 hq => ⟨z1, hk _ _ h.2 (by have y9_q7 := h.1; omega) (fun q q1 => hq q (by have y9_q7 := h.1; omega)), hv⟩) dX2_with_4 ?_
  refine g_astore_n S (lv' := [(2, .ref (z)), (0, .ref (ra)), (1, .ref (la))]) dX2_with_7 rfl (Nat.le_of_ble_eq_true rfl) rfl ?_
  refine g_iconst S dX2_with_8 ?_
  refine g_istore_n S (lv' := [(3, .int (iI 0)), (2, .ref (z)), (0, .ref (ra)), (1, .ref (la))]) dX2_with_9 rfl (Nat.le_of_ble_eq_true rfl) rfl ?_
  have L10 : ∀ (nf : Nat) (o_q7 : Int) (ff_q7 : Int → Nat), (0 ≤ o_q7 ∧ o_q7 ≤ n) → (∀ j : Int, 0 ≤ j → j < o_q7 → ff_q7 j = f j) → (n - o_q7 < (nf : Int)) → G xp l xe ({ frames := 0, cells := 1, slots := 31, locals := 0 }) xs xm xa xb xh xc 4 (fun q => z ≤ q) (0 + 1) (0 + (n + 1).toNat) (MQ xb (QW (some (.ref z)) (fun H => H.size = z + 1 ∧ vR E 3 z (n + 1) (upI f n la) H ∧ W0 H) (fun q => z ≤ q)) xa xs 1 31 (fun q => z ≤ q)) 10 [(0, .ref (ra)), (1, .ref (la)), (2, .ref (z)), (3, .int (iI o_q7))] [] (fun H => H.size = z + 1 ∧ W0 H ∧ vP E 3 z (n + 1) o_q7 ff_q7 H) := by
    intro nf
    induction nf with
    | zero =>
      intro o_q7 ff_q7 ho_q7 hff_q7 hmf
      exfalso
      omega
    | succ nf ihL10 =>
      intro o_q7 ff_q7 ho_q7 hff_q7 hmf
      refine g_iload_n S dX2_with_10 rfl 3 rfl ?_
      refine g_aload_n S dX2_with_11 rfl 0 rfl ?_
      refine g_lenR S xK (t := 3) (by decide) (n := n) (f := f) (fun _ h => h1 _ h.2.1) (by omega) dX2_with_12 ?_
      refine g_icmp_ge S (tgt := 28) dX2_with_13 (by decide) (by omega) (fun c13_q7 => ?_) (fun c13_q7 => ?_)
      · skip
        have eo_q7 : n = o_q7 := by omega
        subst eo_q7
        refine g_aload_n S dX2_with_28 rfl 2 rfl ?_
        refine g_aload_n S dX2_with_29 rfl 0 rfl ?_
        refine g_lenR S xK (t := 3) (by decide) (n := n) (f := f) (fun _ h => h1 _ h.2.1) (by omega) dX2_with_30 ?_
        refine g_aload_n S dX2_with_31 rfl 1 rfl ?_
        refine g_stP S xK xO (t := 3) (by decide) (Wp' := fun H => H.size = z + 1 ∧ W0 H ∧ vP E 3 z (n + 1) (n + 1) (upI ff_q7 n la) H) (n := n + 1) (f := ff_q7) (fun _ h => h.2.2) (fun _ h => h3 _ h.2.1) (by omega) (by omega) (fun _ _ h hv z1 oq => ⟨z1.trans h.1, hk _ _ h.2.1 (by have y9_q7 := h.1; omega) (fun q q1 => oq q (by omega)), hv⟩) dX2_with_32 ?_
        refine g_aload_n S dX2_with_33 rfl 2 rfl ?_
        refine g_wid (k := 1) (n := 31) (by omega) (by omega) ?_
        exact g_areq S xr xlk dX2_with_34 (fun _ h => ⟨h.1, h.2.2.full (by omega) (fun j j0 j1 => by by_cases e : j = n; (rw [e, upI_s, upI_s]); (rw [upI_n _ _ e, upI_n _ _ e]; exact hff_q7 j j0 (by omega))), h.2.1⟩)
      · skip
        refine g_aload_n S dX2_with_16 rfl 2 rfl ?_
        refine g_iload_n S dX2_with_17 rfl 3 rfl ?_
        refine g_aload_n S dX2_with_18 rfl 0 rfl ?_
        refine g_iload_n S dX2_with_19 rfl 3 rfl ?_
        refine g_ldR S xK (t := 3) (by decide) (n := n) (f := f) (fun _ h => h1 _ h.2.1) (by omega) dX2_with_20 ?_
        refine g_stP S xK xO (t := 3) (by decide) (Wp' := fun H => H.size = z + 1 ∧ W0 H ∧ vP E 3 z (n + 1) (o_q7 + 1) (upI ff_q7 o_q7 (f o_q7)) H) (n := n + 1) (f := ff_q7) (fun _ h => h.2.2) (fun _ h => h2 _ h.2.1 o_q7 (by omega) (by omega)) (by omega) (by omega) (fun _ _ h hv z1 oq => ⟨z1.trans h.1, hk _ _ h.2.1 (by have y9_q7 := h.1; omega) (fun q q1 => oq q (by omega)), hv⟩) dX2_with_21 ?_
        refine g_iinc S (lv' := [(3, .int (iI (o_q7 + 1))), (0, .ref (ra)), (1, .ref (la)), (2, .ref (z))]) dX2_with_22 3 rfl (Nat.le_of_ble_eq_true rfl) rfl ?_
        refine g_goto S (tgt := 10) dX2_with_25 (by decide) ?_
        refine g_lv [1, 2, 3, 0] rfl ?_
        exact ihL10 (o_q7 + 1) (upI ff_q7 o_q7 (f o_q7)) (by omega) (fun j j0 j1 => by by_cases e : j = o_q7; (rw [e]; exact upI_s _ _ _); (rw [upI_n _ _ e]; exact hff_q7 j j0 (by omega))) (by omega)
  refine g_lv [2, 3, 1, 0] rfl ?_
  exact L10 ((n - 0) + 1).toNat 0 (fun _ => 0) (by omega) (fun j j0 j1 => by omega) (by omega)
set_option maxHeartbeats 4000000 in
set_option maxRecDepth 100000 in
theorem m_X2_with_ (l : Launch) (E : EN) (z : Nat) {W0 : Heap → Prop} (hk : KP z W0) (n : Int) (F : Int → Int) (ra : Nat) (x : Int) (hn : 0 ≤ n ∧ n ≤ 30) (h1 : ∀ H, W0 H → vI E ra n F H) : Met l yX2_with_ wsX2_with_ ({ frames := 0, cells := 1, slots := 31, locals := 0 }) (CS E [.ref (ra), .int (iI x)] (fun H => H.size = z ∧ W0 H)) (QW (some (.ref z)) (fun H => H.size = z + 1 ∧ vI E z (n + 1) (upI F n x) H ∧ W0 H) (fun q => z ≤ q)) 1 31 (fun q => z ≤ q) := by
  refine g_metS (cc := cX2_with_) (maxL := 4) (ret := (some (.array .int))) (lv := [(0, .ref (ra)), (1, .int (iI x))]) (by decide) rfl (Nat.le_of_ble_eq_true rfl) rfl ?_
  intro xp xe xs xm xa xb xh xc S xK xO xr xlk xin
  have kaI := S.2.2.2.2 (.arrayClass .int) (by decide +kernel)
  refine g_aload_n S dX2_with__0 rfl 0 rfl ?_
  refine g_lenI S xK (n := n) (F := F) (fun _ h => h1 _ h.2) (by omega) dX2_with__1 ?_
  refine g_iconst S dX2_with__2 ?_
  refine g_iadd S dX2_with__3 ?_
  refine g_newIZ S xK (Wp' := fun H => H.size = z + 1 ∧ W0 H ∧ vI E z (n + 1) (fun _ => 0) H) (n := n + 1) (a := z) kaI (by omega) ⟨show 0 + 1 ≤ 1 by omega, show 0 + (n + 1).toNat ≤ 31 by omega⟩ (fun _ h => h.1) (fun _ _ h hv z1 hq => ⟨z1, hk _ _ h.2 (by have y9_q7 := h.1; omega) (fun q q1 => hq q (by have y9_q7 := h.1; omega)), hv⟩) dX2_with__4 ?_
  refine g_astore_n S (lv' := [(2, .ref (z)), (0, .ref (ra)), (1, .int (iI x))]) dX2_with__6 rfl (Nat.le_of_ble_eq_true rfl) rfl ?_
  refine g_iconst S dX2_with__7 ?_
  refine g_istore_n S (lv' := [(3, .int (iI 0)), (2, .ref (z)), (0, .ref (ra)), (1, .int (iI x))]) dX2_with__8 rfl (Nat.le_of_ble_eq_true rfl) rfl ?_
  have L9 : ∀ (nf : Nat) (o_q7 : Int) (ff_q7 : Int → Int), (0 ≤ o_q7 ∧ o_q7 ≤ n) → (∀ j : Int, 0 ≤ j → j < o_q7 → ff_q7 j = F j) → (n - o_q7 < (nf : Int)) → G xp l xe ({ frames := 0, cells := 1, slots := 31, locals := 0 }) xs xm xa xb xh xc 4 (fun q => z ≤ q) (0 + 1) (0 + (n + 1).toNat) (MQ xb (QW (some (.ref z)) (fun H => H.size = z + 1 ∧ vI E z (n + 1) (upI F n x) H ∧ W0 H) (fun q => z ≤ q)) xa xs 1 31 (fun q => z ≤ q)) 9 [(0, .ref (ra)), (1, .int (iI x)), (2, .ref (z)), (3, .int (iI o_q7))] [] (fun H => H.size = z + 1 ∧ W0 H ∧ vI E z (n + 1) ff_q7 H) := by
    intro nf
    induction nf with
    | zero =>
      intro o_q7 ff_q7 ho_q7 hff_q7 hmf
      exfalso
      omega
    | succ nf ihL9 =>
      intro o_q7 ff_q7 ho_q7 hff_q7 hmf
      refine g_iload_n S dX2_with__9 rfl 3 rfl ?_
      refine g_aload_n S dX2_with__10 rfl 0 rfl ?_
      refine g_lenI S xK (n := n) (F := F) (fun _ h => h1 _ h.2.1) (by omega) dX2_with__11 ?_
      refine g_icmp_ge S (tgt := 27) dX2_with__12 (by decide) (by omega) (fun c12_q7 => ?_) (fun c12_q7 => ?_)
      · skip
        have eo_q7 : n = o_q7 := by omega
        subst eo_q7
        refine g_aload_n S dX2_with__27 rfl 2 rfl ?_
        refine g_aload_n S dX2_with__28 rfl 0 rfl ?_
        refine g_lenI S xK (n := n) (F := F) (fun _ h => h1 _ h.2.1) (by omega) dX2_with__29 ?_
        refine g_iload_n S dX2_with__30 rfl 1 rfl ?_
        refine g_iast S xK (Wp' := fun H => H.size = z + 1 ∧ W0 H ∧ vI E z (n + 1) (upI ff_q7 n x) H) (n := (n + 1 : Int).toNat) (F := ff_q7) (fun _ h => h.2.2) (by omega) (by omega) (by omega) (fun _ _ h hv z1 oq => ⟨z1.trans h.1, hk _ _ h.2.1 (by have y9_q7 := h.1; omega) (fun q q1 => oq q (by omega)), hv⟩) dX2_with__31 ?_
        refine g_aload_n S dX2_with__32 rfl 2 rfl ?_
        refine g_wid (k := 1) (n := 31) (by omega) (by omega) ?_
        exact g_areq S xr xlk dX2_with__33 (fun _ h => ⟨h.1, h.2.2.eq (fun j j0 j1 => by by_cases e : j = n; (rw [e, upI_s, upI_s]); (rw [upI_n _ _ e, upI_n _ _ e]; exact hff_q7 j j0 (by omega))), h.2.1⟩)
      · skip
        refine g_aload_n S dX2_with__15 rfl 2 rfl ?_
        refine g_iload_n S dX2_with__16 rfl 3 rfl ?_
        refine g_aload_n S dX2_with__17 rfl 0 rfl ?_
        refine g_iload_n S dX2_with__18 rfl 3 rfl ?_
        refine g_iald S xK (n := (n : Int).toNat) (F := F) (fun _ h => h1 _ h.2.1) (by omega) (by omega) dX2_with__19 ?_
        refine g_iast S xK (Wp' := fun H => H.size = z + 1 ∧ W0 H ∧ vI E z (n + 1) (upI ff_q7 o_q7 (F o_q7)) H) (n := (n + 1 : Int).toNat) (F := ff_q7) (fun _ h => h.2.2) (by omega) (by omega) (by omega) (fun _ _ h hv z1 oq => ⟨z1.trans h.1, hk _ _ h.2.1 (by have y9_q7 := h.1; omega) (fun q q1 => oq q (by omega)), hv⟩) dX2_with__20 ?_
        refine g_iinc S (lv' := [(3, .int (iI (o_q7 + 1))), (0, .ref (ra)), (1, .int (iI x)), (2, .ref (z))]) dX2_with__21 3 rfl (Nat.le_of_ble_eq_true rfl) rfl ?_
        refine g_goto S (tgt := 9) dX2_with__24 (by decide) ?_
        refine g_lv [1, 2, 3, 0] rfl ?_
        exact ihL9 (o_q7 + 1) (upI ff_q7 o_q7 (F o_q7)) (by omega) (fun j j0 j1 => by by_cases e : j = o_q7; (rw [e]; exact upI_s _ _ _); (rw [upI_n _ _ e]; exact hff_q7 j j0 (by omega))) (by omega)
  refine g_lv [2, 3, 1, 0] rfl ?_
  exact L9 ((n - 0) + 1).toNat 0 (fun _ => 0) (by omega) (fun j j0 j1 => by omega) (by omega)
set_option maxHeartbeats 4000000 in
set_option maxRecDepth 100000 in
theorem m_X2_pagesOf (l : Launch) (E : EN) {Wp : Heap → Prop} (b : Nat) (g : SpT) (r : Int → Nat) (hR : ∀ H, Wp H → RW E b g r H) (hg : 0 ≤ g.1 ∧ g.1 ≤ 16) : Met l yX2_pagesOf wsX2_pagesOf ({ frames := 0, cells := 0, slots := 0, locals := 0 }) (CI E [.ref (b)] (fun H => Wp H)) (QW (some (.int (iI (smI (fun k => g.2.2 k - g.2.1 k + 1) g.1.toNat)))) (Wp) (fun _ => False)) 0 0 (fun _ => False) := by
  refine g_met (cc := cX2_pagesOf) (maxL := 6) (ret := (some .int)) (lv := [(0, .ref (b))]) (by decide) rfl (Nat.le_of_ble_eq_true rfl) rfl ?_
  intro xp xe xs xm xa xb xh xc S xK xr xlk xin
  refine g_iconst S dX2_pagesOf_0 ?_
  refine g_istore_n S (lv' := [(1, .int (iI 0)), (0, .ref (b))]) dX2_pagesOf_1 rfl (Nat.le_of_ble_eq_true rfl) rfl ?_
  refine g_aload_n S dX2_pagesOf_2 rfl 1 rfl ?_
  refine g_astore_n S (lv' := [(2, .ref (b)), (1, .int (iI 0)), (0, .ref (b))]) dX2_pagesOf_3 rfl (Nat.le_of_ble_eq_true rfl) rfl ?_
  refine g_aload_n S dX2_pagesOf_4 rfl 0 rfl ?_
  refine g_lenR S xK (t := 3) (by decide) (n := g.1) (f := r) (fun _ h => (hR _ h).1) (by omega) dX2_pagesOf_5 ?_
  refine g_istore_n S (lv' := [(3, .int (iI g.1)), (2, .ref (b)), (1, .int (iI 0)), (0, .ref (b))]) dX2_pagesOf_6 rfl (Nat.le_of_ble_eq_true rfl) rfl ?_
  refine g_iconst S dX2_pagesOf_7 ?_
  refine g_istore S (lv' := [(4, .int (iI 0)), (3, .int (iI g.1)), (2, .ref (b)), (1, .int (iI 0)), (0, .ref (b))]) dX2_pagesOf_8 (Nat.le_of_ble_eq_true rfl) rfl ?_
  have L10 : ∀ (nf : Nat) (o_q7 : Int) (t_q7 : Int), (0 ≤ o_q7 ∧ o_q7 ≤ g.1) → (t_q7 = smI (fun k => g.2.2 k - g.2.1 k + 1) o_q7.toNat) → (g.1 - o_q7 < (nf : Int)) → G xp l xe ({ frames := 0, cells := 0, slots := 0, locals := 0 }) xs xm xa xb xh xc 6 (fun _ => False) 0 0 (MQ xb (QW (some (.int (iI (smI (fun k => g.2.2 k - g.2.1 k + 1) g.1.toNat)))) (Wp) (fun _ => False)) xa xs 0 0 (fun _ => False)) 10 [(1, .int (iI t_q7)), (2, .ref (b)), (3, .int (iI g.1)), (4, .int (iI o_q7))] [] (fun H => Wp H) := by
    intro nf
    induction nf with
    | zero =>
      intro o_q7 t_q7 ho_q7 ht_q7 hmf
      exfalso
      omega
    | succ nf ihL10 =>
      intro o_q7 t_q7 ho_q7 ht_q7 hmf
      refine g_iload S dX2_pagesOf_10 3 rfl ?_
      refine g_iload_n S dX2_pagesOf_12 rfl 2 rfl ?_
      refine g_icmp_ge S (tgt := 42) dX2_pagesOf_13 (by decide) (by omega) (fun c13_q7 => ?_) (fun c13_q7 => ?_)
      · skip
        refine g_iload_n S dX2_pagesOf_42 rfl 0 rfl ?_
        rw [show smI (fun k => g.2.2 k - g.2.1 k + 1) g.1.toNat = t_q7 from by rw [show g.1.toNat = o_q7.toNat by omega, ht_q7]]
        exact g_iret S xr xlk dX2_pagesOf_43 (fun _ h => h)
      · skip
        refine g_aload_n S dX2_pagesOf_16 rfl 1 rfl ?_
        refine g_iload S dX2_pagesOf_17 3 rfl ?_
        refine g_ldR S xK (t := 3) (by decide) (n := g.1) (f := r) (fun _ h => (hR _ h).1) (by omega) dX2_pagesOf_19 ?_
        refine g_astore S (lv' := [(5, .ref (r o_q7)), (1, .int (iI t_q7)), (2, .ref (b)), (3, .int (iI g.1)), (4, .int (iI o_q7))]) dX2_pagesOf_20 (Nat.le_of_ble_eq_true rfl) rfl ?_
        refine g_iload_n S dX2_pagesOf_22 rfl 1 rfl ?_
        refine g_aload S dX2_pagesOf_23 0 rfl ?_
        refine g_iconst S dX2_pagesOf_25 ?_
        refine g_iald S xK (n := (2 : Int).toNat) (F := pr (g.2.1 o_q7) (g.2.2 o_q7)) (fun _ h => (hR _ h).2 o_q7 (by omega) (by omega)) (by omega) (by omega) dX2_pagesOf_26 ?_
        refine g_st1 (v2 := .int (iI (g.2.2 o_q7))) rfl ?_
        refine g_aload S dX2_pagesOf_27 0 rfl ?_
        refine g_iconst S dX2_pagesOf_29 ?_
        refine g_iald S xK (n := (2 : Int).toNat) (F := pr (g.2.1 o_q7) (g.2.2 o_q7)) (fun _ h => (hR _ h).2 o_q7 (by omega) (by omega)) (by omega) (by omega) dX2_pagesOf_30 ?_
        refine g_st1 (v2 := .int (iI (g.2.1 o_q7))) rfl ?_
        refine g_isub S dX2_pagesOf_31 ?_
        refine g_iconst S dX2_pagesOf_32 ?_
        refine g_iadd S dX2_pagesOf_33 ?_
        refine g_iadd S dX2_pagesOf_34 ?_
        refine g_istore_n S (lv' := [(1, .int (iI (t_q7 + (g.2.2 o_q7 - g.2.1 o_q7 + 1)))), (5, .ref (r o_q7)), (2, .ref (b)), (3, .int (iI g.1)), (4, .int (iI o_q7))]) dX2_pagesOf_35 rfl (Nat.le_of_ble_eq_true rfl) rfl ?_
        refine g_iinc S (lv' := [(4, .int (iI (o_q7 + 1))), (1, .int (iI (t_q7 + (g.2.2 o_q7 - g.2.1 o_q7 + 1)))), (5, .ref (r o_q7)), (2, .ref (b)), (3, .int (iI g.1))]) dX2_pagesOf_36 4 rfl (Nat.le_of_ble_eq_true rfl) rfl ?_
        refine g_goto S (tgt := 10) dX2_pagesOf_39 (by decide) ?_
        refine g_lv [1, 3, 4, 0] rfl ?_
        exact ihL10 (o_q7 + 1) (t_q7 + (g.2.2 o_q7 - g.2.1 o_q7 + 1)) (by omega) (by rw [smI_s _ ho_q7.1, ← ht_q7]) (by omega)
  refine g_lv [3, 2, 1, 0] rfl ?_
  exact L10 ((g.1 - 0) + 1).toNat 0 0 (by omega) (rfl) (by omega)
set_option maxHeartbeats 4000000 in
set_option maxRecDepth 100000 in
theorem m_X2_isOn (l : Launch) (E : EN) {Wp : Heap → Prop} (zc sm : Nat) (SS : SA) (sp : Int → SpT) (se : Int → Int) (n pg : Int) (u q : Int) (hO : ∀ H, Wp H → va_at E.1 vwCl (sm, .inr (2, [.int (iI pg), .ref (s3 SS), .ref (s1 SS), .ref (s2 SS)])) H) (hX : ∀ H, Wp H → SX E zc sm SS sp se n H) (hn : 0 ≤ n ∧ n ≤ 24) (hpg : 1 ≤ pg ∧ pg ≤ 300) (hsp : SPV sp n pg) (hu : 0 ≤ u ∧ u < n) (hq : -2147483648 ≤ q ∧ q ≤ 2147483647) : Met l yX2_isOn wsX2_isOn ({ frames := 0, cells := 0, slots := 0, locals := 0 }) (CI E [.ref (sm), .int (iI u), .int (iI q)] (fun H => Wp H)) (QW (some (.int (iI (pI (cov (sp u) q))))) (Wp) (fun _ => False)) 0 0 (fun _ => False) := by
  refine g_met (cc := cX2_isOn) (maxL := 7) (ret := (some .boolean)) (lv := [(0, .ref (sm)), (1, .int (iI u)), (2, .int (iI q))]) (by decide) rfl (Nat.le_of_ble_eq_true rfl) rfl ?_
  intro xp xe xs xm xa xb xh xc S xK xr xlk xin
  have kf15 := S.2.2.2.2 (.fieldLink RX2 15 "BookIndexLaw$Sim" "spans" "[[[I") (by decide +kernel)
  have hin2_q7 : ∀ w ∈ wsX20, w ∈ wsX2_isOn := by decide +kernel
  have w9_q7 := (hsp u hu.1 hu.2).1.1; have y9_q7 := (hsp u hu.1 hu.2).2
  refine g_aload_n S dX2_isOn_0 rfl 0 rfl ?_
  refine g_get S xK (ref := "BookIndexLaw$Sim") hin2_q7 1 (by decide) (show vwCl[2]? = some (RX2, TX2, 4) from rfl) kf15 (fun _ h9 => h9) (fun _ h => hO _ h) rfl dX2_isOn_1 ?_
  refine g_iload_n S dX2_isOn_4 rfl 1 rfl ?_
  refine g_ldR S xK (t := 4) (by decide) (n := n) (f := sB SS) (fun _ h => (hX _ h).a3) (by omega) dX2_isOn_5 ?_
  refine g_astore_n S (lv' := [(3, .ref (sB SS u)), (0, .ref (sm)), (1, .int (iI u)), (2, .int (iI q))]) dX2_isOn_6 rfl (Nat.le_of_ble_eq_true rfl) rfl ?_
  refine g_aload_n S dX2_isOn_7 rfl 0 rfl ?_
  refine g_lenR S xK (t := 3) (by decide) (n := (sp u).1) (f := sR SS u) (fun _ h => (hX _ h).b (u := u) (by omega)) (by omega) dX2_isOn_8 ?_
  refine g_istore S (lv' := [(4, .int (iI ((sp u).1))), (3, .ref (sB SS u)), (0, .ref (sm)), (1, .int (iI u)), (2, .int (iI q))]) dX2_isOn_9 (Nat.le_of_ble_eq_true rfl) rfl ?_
  refine g_iconst S dX2_isOn_11 ?_
  refine g_istore S (lv' := [(5, .int (iI 0)), (4, .int (iI ((sp u).1))), (3, .ref (sB SS u)), (0, .ref (sm)), (1, .int (iI u)), (2, .int (iI q))]) dX2_isOn_12 (Nat.le_of_ble_eq_true rfl) rfl ?_
  have L14 : ∀ (nf : Nat) (o_q7 : Int), (0 ≤ o_q7 ∧ o_q7 ≤ (sp u).1) → (∀ k : Int, 0 ≤ k → k < o_q7 → ¬ ((sp u).2.1 k ≤ q ∧ q ≤ (sp u).2.2 k)) → ((sp u).1 - o_q7 < (nf : Int)) → G xp l xe ({ frames := 0, cells := 0, slots := 0, locals := 0 }) xs xm xa xb xh xc 7 (fun _ => False) 0 0 (MQ xb (QW (some (.int (iI (pI (cov (sp u) q))))) (Wp) (fun _ => False)) xa xs 0 0 (fun _ => False)) 14 [(1, .int (iI u)), (2, .int (iI q)), (3, .ref (sB SS u)), (4, .int (iI ((sp u).1))), (5, .int (iI o_q7))] [] (fun H => Wp H) := by
    intro nf
    induction nf with
    | zero =>
      intro o_q7 ho_q7 hno_q7 hmf
      exfalso
      omega
    | succ nf ihL14 =>
      intro o_q7 ho_q7 hno_q7 hmf
      refine g_iload S dX2_isOn_14 4 rfl ?_
      refine g_iload S dX2_isOn_16 3 rfl ?_
      refine g_icmp_ge S (tgt := 51) dX2_isOn_18 (by decide) (by omega) (fun c18_q7 => ?_) (fun c18_q7 => ?_)
      · skip
        refine g_iconst S dX2_isOn_51 ?_
        rw [show pI (cov (sp u) q) = 0 from pI_f (fun ⟨k, k0, k1, k2, k3⟩ => hno_q7 k k0 (by omega) ⟨k2, k3⟩)]
        exact g_zret S xr xlk (Or.inl rfl) dX2_isOn_52 (fun _ h => h)
      · skip
        refine g_aload_n S dX2_isOn_21 rfl 2 rfl ?_
        refine g_iload S dX2_isOn_22 4 rfl ?_
        refine g_ldR S xK (t := 3) (by decide) (n := (sp u).1) (f := sR SS u) (fun _ h => (hX _ h).b (u := u) (by omega)) (by omega) dX2_isOn_24 ?_
        refine g_astore S (lv' := [(6, .ref (sR SS u o_q7)), (1, .int (iI u)), (2, .int (iI q)), (3, .ref (sB SS u)), (4, .int (iI ((sp u).1))), (5, .int (iI o_q7))]) dX2_isOn_25 (Nat.le_of_ble_eq_true rfl) rfl ?_
        have v9_q7 := (hsp u hu.1 hu.2).1.2.2.1 o_q7 (by omega) (by omega)
        refine g_iload_n S dX2_isOn_27 rfl 2 rfl ?_
        refine g_aload S dX2_isOn_28 0 rfl ?_
        refine g_iconst S dX2_isOn_30 ?_
        refine g_iald S xK (n := (2 : Int).toNat) (F := pr ((sp u).2.1 o_q7) ((sp u).2.2 o_q7)) (fun _ h => (hX _ h).r (u := u) (k := o_q7) (by omega) (by omega)) (by omega) (by omega) dX2_isOn_31 ?_
        refine g_st1 (v2 := .int (iI ((sp u).2.1 o_q7))) rfl ?_
        refine g_icmp_lt S (tgt := 45) dX2_isOn_32 (by decide) (by omega) (fun c32_q7 => ?_) (fun c32_q7 => ?_)
        · skip
          refine g_iinc S (lv' := [(5, .int (iI (o_q7 + 1))), (6, .ref (sR SS u o_q7)), (1, .int (iI u)), (2, .int (iI q)), (3, .ref (sB SS u)), (4, .int (iI ((sp u).1)))]) dX2_isOn_45 5 rfl (Nat.le_of_ble_eq_true rfl) rfl ?_
          refine g_goto S (tgt := 14) dX2_isOn_48 (by decide) ?_
          refine g_lv [2, 3, 4, 5, 0] rfl ?_
          exact ihL14 (o_q7 + 1) (by omega) (fun k k0 k1 z => by by_cases e : k = o_q7; (rw [e] at z; omega); (exact hno_q7 k k0 (by omega) z)) (by omega)
        · skip
          refine g_iload_n S dX2_isOn_35 rfl 2 rfl ?_
          refine g_aload S dX2_isOn_36 0 rfl ?_
          refine g_iconst S dX2_isOn_38 ?_
          refine g_iald S xK (n := (2 : Int).toNat) (F := pr ((sp u).2.1 o_q7) ((sp u).2.2 o_q7)) (fun _ h => (hX _ h).r (u := u) (k := o_q7) (by omega) (by omega)) (by omega) (by omega) dX2_isOn_39 ?_
          refine g_st1 (v2 := .int (iI ((sp u).2.2 o_q7))) rfl ?_
          refine g_icmp_gt S (tgt := 45) dX2_isOn_40 (by decide) (by omega) (fun c40_q7 => ?_) (fun c40_q7 => ?_)
          · skip
            refine g_iinc S (lv' := [(5, .int (iI (o_q7 + 1))), (6, .ref (sR SS u o_q7)), (1, .int (iI u)), (2, .int (iI q)), (3, .ref (sB SS u)), (4, .int (iI ((sp u).1)))]) dX2_isOn_45 5 rfl (Nat.le_of_ble_eq_true rfl) rfl ?_
            refine g_goto S (tgt := 14) dX2_isOn_48 (by decide) ?_
            refine g_lv [2, 3, 4, 5, 0] rfl ?_
            exact ihL14 (o_q7 + 1) (by omega) (fun k k0 k1 z => by by_cases e : k = o_q7; (rw [e] at z; omega); (exact hno_q7 k k0 (by omega) z)) (by omega)
          · skip
            refine g_iconst S dX2_isOn_43 ?_
            rw [show pI (cov (sp u) q) = 1 from pI_t ⟨o_q7, by omega, by omega, by omega, by omega⟩]
            exact g_zret S xr xlk (Or.inr rfl) dX2_isOn_44 (fun _ h => h)
  refine g_lv [4, 5, 2, 1, 0] rfl ?_
  exact L14 (((sp u).1 - 0) + 1).toNat 0 (by omega) (fun k k0 k1 => by omega) (by omega)
set_option maxHeartbeats 4000000 in
set_option maxRecDepth 100000 in
theorem m_X2_onPage (l : Launch) (E : EN) {Wp : Heap → Prop} (zc sm : Nat) (SS : SA) (sp : Int → SpT) (se : Int → Int) (n pg : Int) (q : Int) (hO : ∀ H, Wp H → va_at E.1 vwCl (sm, .inr (2, [.int (iI pg), .ref (s3 SS), .ref (s1 SS), .ref (s2 SS)])) H) (hX : ∀ H, Wp H → SX E zc sm SS sp se n H) (hn : 0 ≤ n ∧ n ≤ 24) (hpg : 1 ≤ pg ∧ pg ≤ 300) (hsp : SPV sp n pg) (hq : -2147483648 ≤ q ∧ q ≤ 2147483647) : Met l yX2_onPage wsX2_onPage ({ frames := 1, cells := 0, slots := 0, locals := 26 }) (CI E [.ref (sm), .int (iI q)] (fun H => Wp H)) (QW (some (.int (iI (smI (fun i => pI (cov (sp i) q)) n.toNat)))) (Wp) (fun _ => False)) 0 0 (fun _ => False) := by
  refine g_met (cc := cX2_onPage) (maxL := 4) (ret := (some .int)) (lv := [(0, .ref (sm)), (1, .int (iI q))]) (by decide) rfl (Nat.le_of_ble_eq_true rfl) rfl ?_
  intro xp xe xs xm xa xb xh xc S xK xr xlk xin
  have kf19 := S.2.2.2.2 (.fieldLink RX2 19 "BookIndexLaw$Sim" "see" "[I") (by decide +kernel)
  have hin2_q7 : ∀ w ∈ wsX20, w ∈ wsX2_onPage := by decide +kernel
  refine g_iconst S dX2_onPage_0 ?_
  refine g_istore_n S (lv' := [(2, .int (iI 0)), (0, .ref (sm)), (1, .int (iI q))]) dX2_onPage_1 rfl (Nat.le_of_ble_eq_true rfl) rfl ?_
  refine g_iconst S dX2_onPage_2 ?_
  refine g_istore_n S (lv' := [(3, .int (iI 0)), (2, .int (iI 0)), (0, .ref (sm)), (1, .int (iI q))]) dX2_onPage_3 rfl (Nat.le_of_ble_eq_true rfl) rfl ?_
  have L4 : ∀ (nf : Nat) (o_q7 : Int) (t_q7 : Int), (0 ≤ o_q7 ∧ o_q7 ≤ n) → (t_q7 = smI (fun i => pI (cov (sp i) q)) o_q7.toNat) → (n - o_q7 < (nf : Int)) → G xp l xe ({ frames := 1, cells := 0, slots := 0, locals := 26 }) xs xm xa xb xh xc 4 (fun _ => False) 0 0 (MQ xb (QW (some (.int (iI (smI (fun i => pI (cov (sp i) q)) n.toNat)))) (Wp) (fun _ => False)) xa xs 0 0 (fun _ => False)) 4 [(0, .ref (sm)), (1, .int (iI q)), (2, .int (iI t_q7)), (3, .int (iI o_q7))] [] (fun H => Wp H) := by
    intro nf
    induction nf with
    | zero =>
      intro o_q7 t_q7 ho_q7 ht_q7 hmf
      exfalso
      omega
    | succ nf ihL4 =>
      intro o_q7 t_q7 ho_q7 ht_q7 hmf
      refine g_iload_n S dX2_onPage_4 rfl 3 rfl ?_
      refine g_aload_n S dX2_onPage_5 rfl 0 rfl ?_
      refine g_get S xK (ref := "BookIndexLaw$Sim") hin2_q7 2 (by decide) (show vwCl[2]? = some (RX2, TX2, 4) from rfl) kf19 (fun _ h9 => h9) (fun _ h => hO _ h) rfl dX2_onPage_6 ?_
      refine g_lenI S xK (n := n) (F := se) (fun _ h => (hX _ h).a1) (by omega) dX2_onPage_9 ?_
      refine g_icmp_ge S (tgt := 36) dX2_onPage_10 (by decide) (by omega) (fun c10_q7 => ?_) (fun c10_q7 => ?_)
      · skip
        refine g_iload_n S dX2_onPage_36 rfl 2 rfl ?_
        rw [show smI (fun i => pI (cov (sp i) q)) n.toNat = t_q7 from by rw [show n.toNat = o_q7.toNat by omega, ht_q7]]
        exact g_iret S xr xlk dX2_onPage_37 (fun _ h => h)
      · skip
        have L28 : ∀ (v_q7 : Int), (v_q7 = pI (cov (sp o_q7) q)) → G xp l xe ({ frames := 1, cells := 0, slots := 0, locals := 26 }) xs xm xa xb xh xc 4 (fun _ => False) 0 0 (MQ xb (QW (some (.int (iI (smI (fun i => pI (cov (sp i) q)) n.toNat)))) (Wp) (fun _ => False)) xa xs 0 0 (fun _ => False)) 28 [(0, .ref (sm)), (1, .int (iI q)), (3, .int (iI o_q7))] [.int (iI v_q7), .int (iI t_q7)] (fun H => Wp H) := by
          intro v_q7 hv_q7
          refine g_iadd S dX2_onPage_28 ?_
          refine g_istore_n S (lv' := [(2, .int (iI (t_q7 + v_q7))), (0, .ref (sm)), (1, .int (iI q)), (3, .int (iI o_q7))]) dX2_onPage_29 rfl (Nat.le_of_ble_eq_true rfl) rfl ?_
          refine g_iinc S (lv' := [(3, .int (iI (o_q7 + 1))), (2, .int (iI (t_q7 + v_q7))), (0, .ref (sm)), (1, .int (iI q))]) dX2_onPage_30 3 rfl (Nat.le_of_ble_eq_true rfl) rfl ?_
          refine g_goto S (tgt := 4) dX2_onPage_33 (by decide) ?_
          refine g_lv [2, 3, 1, 0] rfl ?_
          exact ihL4 (o_q7 + 1) (t_q7 + v_q7) (by omega) (by rw [smI_s _ ho_q7.1, ← ht_q7, hv_q7]) (by omega)
        refine g_iload_n S dX2_onPage_13 rfl 2 rfl ?_
        refine g_aload_n S dX2_onPage_14 rfl 0 rfl ?_
        refine g_iload_n S dX2_onPage_15 rfl 3 rfl ?_
        refine g_iload_n S dX2_onPage_16 rfl 1 rfl ?_
        refine g_callV S xK (As := [.int (iI o_q7), .int (iI q)]) (st := [.int (iI t_q7)]) (stk' := [.int (iI (pI (cov (sp o_q7) q))), .int (iI t_q7)]) (Wp' := fun H => Wp H) (r := (RX2, TX2, 4)) (m_X2_isOn l E (Wp := fun H => Wp H) zc sm SS sp se n pg o_q7 q hO hX hn hpg hsp (by omega) (by omega)) (cwV 2 S.2.2.2.2 gX2_onPage_X2_isOn rfl rfl rfl (by decide +kernel) ⟨Nat.le_of_ble_eq_true rfl, Nat.le_of_ble_eq_true rfl⟩) rfl rfl rfl rfl (Nat.le_of_ble_eq_true rfl) ⟨show 0 + 0 ≤ 0 by omega, show 0 + 0 ≤ 0 by omega⟩ (fun _ q => q.elim) (fun _ h => hO _ h) (fun _ h => h) (fun _ _ _ h _ _ => h) dX2_onPage_17 ?_
        have z20_q7 := pI_b (cov (sp o_q7) q)
        refine g_if_eq S (tgt := 27) dX2_onPage_20 (by decide) (by omega) (fun c20_q7 => ?_) (fun c20_q7 => ?_)
        · skip
          refine g_iconst S dX2_onPage_27 ?_
          refine g_lv [0, 1, 3] rfl ?_
          exact L28 0 (by omega)
        · skip
          refine g_iconst S dX2_onPage_23 ?_
          refine g_goto S (tgt := 28) dX2_onPage_24 (by decide) ?_
          refine g_lv [0, 1, 3] rfl ?_
          exact L28 1 (by omega)
  refine g_lv [2, 3, 1, 0] rfl ?_
  exact L4 ((n - 0) + 1).toNat 0 0 (by omega) (rfl) (by omega)
set_option maxHeartbeats 4000000 in
set_option maxRecDepth 100000 in
theorem m_L_below (l : Launch) (E : EN) {Wp : Heap → Prop} (v n : Int) (hn : 1 ≤ n ∧ n ≤ 100000) : Met l yL_below wsL_below ({ frames := 0, cells := 0, slots := 0, locals := 0 }) (CI E [.int (iI v), .int (iI n)] (fun H => Wp H)) (QW (some (.int (iI (blw v n)))) (Wp) (fun _ => False)) 0 0 (fun _ => False) := by
  refine g_met (cc := cL_below) (maxL := 2) (ret := (some .int)) (lv := [(0, .int (iI v)), (1, .int (iI n))]) (by decide) rfl (Nat.le_of_ble_eq_true rfl) rfl ?_
  intro xp xe xs xm xa xb xh xc S xK xr xlk xin
  have kk7 := S.2.2.2.2 (.constant RL 7 (2147483647)) (by decide +kernel)
  refine g_iload_n S dL_below_0 rfl 0 rfl ?_
  refine g_ldc S (n := 2147483647) rfl kk7 dL_below_1 ?_
  refine g_iand S (z := (iI (bA v))) dL_below_3 ((iI_of _).symm) ?_
  refine g_iload_n S dL_below_4 rfl 1 rfl ?_
  refine g_irem S (z := iI (blw v n)) dL_below_5 (iI_ne0 hn) (blw_rem hn) ?_
  exact g_iret S xr xlk dL_below_6 (fun _ h => h)
set_option maxHeartbeats 4000000 in
set_option maxRecDepth 100000 in
theorem m_L_cell (l : Launch) (E : EN) {Wp : Heap → Prop} (sb : Nat) (L : Int) (sc : Int → Int) (k : Int) (hb : ∀ H, Wp H → vI E sb L sc H) (hL : 0 ≤ L ∧ L ≤ 1000) (hk : 0 ≤ k ∧ k ≤ 1000) : Met l yL_cell wsL_cell ({ frames := 0, cells := 0, slots := 0, locals := 0 }) (CI E [.ref (sb), .int (iI k)] (fun H => Wp H)) (QW (some (.int (iI (cel sc L k)))) (Wp) (fun _ => False)) 0 0 (fun _ => False) := by
  refine g_met (cc := cL_cell) (maxL := 2) (ret := (some .int)) (lv := [(0, .ref (sb)), (1, .int (iI k))]) (by decide) rfl (Nat.le_of_ble_eq_true rfl) rfl ?_
  intro xp xe xs xm xa xb xh xc S xK xr xlk xin
  have kk8 := S.2.2.2.2 (.constant RL 8 (790386105)) (by decide +kernel)
  refine g_iload_n S dL_cell_0 rfl 1 rfl ?_
  refine g_aload_n S dL_cell_1 rfl 0 rfl ?_
  refine g_lenI S xK (n := L) (F := sc) (fun _ h => hb _ h) (by omega) dL_cell_2 ?_
  refine g_icmp_ge S (tgt := 12) dL_cell_3 (by decide) (by omega) (fun c3_q7 => ?_) (fun c3_q7 => ?_)
  · skip
    refine g_ldc S (n := 790386105) rfl kk8 dL_cell_12 ?_
    refine g_iload_n S dL_cell_14 rfl 1 rfl ?_
    refine g_iconst S dL_cell_15 ?_
    refine g_iadd S dL_cell_16 ?_
    refine g_imul S dL_cell_17 ?_
    rw [show cel sc L k = (790386105 * (k + 3)) from if_neg (by omega)]
    exact g_iret S xr xlk dL_cell_18 (fun _ h => h)
  · skip
    refine g_aload_n S dL_cell_6 rfl 0 rfl ?_
    refine g_iload_n S dL_cell_7 rfl 1 rfl ?_
    refine g_iald S xK (n := (L : Int).toNat) (F := sc) (fun _ h => hb _ h) (by omega) (by omega) dL_cell_8 ?_
    refine g_goto S (tgt := 18) dL_cell_9 (by decide) ?_
    rw [show cel sc L k = (sc k) from if_pos (by omega)]
    exact g_iret S xr xlk dL_cell_18 (fun _ h => h)
set_option maxHeartbeats 4000000 in
set_option maxRecDepth 100000 in
theorem m_L_isStep (l : Launch) (E : EN) {Wp : Heap → Prop} (zc sm : Nat) (SS : SA) (sp : Int → SpT) (se : Int → Int) (n pg : Int) (u o : Int) (hO : ∀ H, Wp H → va_at E.1 vwCl (sm, .inr (2, [.int (iI pg), .ref (s3 SS), .ref (s1 SS), .ref (s2 SS)])) H) (hX : ∀ H, Wp H → SX E zc sm SS sp se n H) (hn : 0 ≤ n ∧ n ≤ 24) (hu : 0 ≤ u ∧ u < n) (ho : -2147483648 ≤ o ∧ o ≤ 2147483647) (hm : 0 ≤ sM SS u ∧ sM SS u ≤ 24) (hv : ∀ k : Int, 0 ≤ k → k < sM SS u → -2147483648 ≤ sV SS u k ∧ sV SS u k ≤ 2147483647) (hse : -2147483648 ≤ se u ∧ se u ≤ 2147483647) : Met l yL_isStep wsL_isStep ({ frames := 0, cells := 0, slots := 0, locals := 0 }) (CI E [.ref (sm), .int (iI u), .int (iI o)] (fun H => Wp H)) (QW (some (.int (iI (pI ((∃ k : Int, 0 ≤ k ∧ k < sM SS u ∧ sV SS u k = o) ∨ se u = o))))) (Wp) (fun _ => False)) 0 0 (fun _ => False) := by
  refine g_met (cc := cL_isStep) (maxL := 7) (ret := (some .boolean)) (lv := [(0, .ref (sm)), (1, .int (iI u)), (2, .int (iI o))]) (by decide) rfl (Nat.le_of_ble_eq_true rfl) rfl ?_
  intro xp xe xs xm xa xb xh xc S xK xr xlk xin
  have kf68 := S.2.2.2.2 (.fieldLink RL 68 "BookIndexLaw$Sim" "also" "[[I") (by decide +kernel)
  have kf9 := S.2.2.2.2 (.fieldLink RL 9 "BookIndexLaw$Sim" "see" "[I") (by decide +kernel)
  have hin2_q7 : ∀ w ∈ wsX20, w ∈ wsL_isStep := by decide +kernel
  refine g_aload_n S dL_isStep_0 rfl 0 rfl ?_
  refine g_get S xK (ref := "BookIndexLaw$Sim") hin2_q7 3 (by decide) (show vwCl[2]? = some (RX2, TX2, 4) from rfl) kf68 (fun _ h9 => h9) (fun _ h => hO _ h) rfl dL_isStep_1 ?_
  refine g_iload_n S dL_isStep_4 rfl 1 rfl ?_
  refine g_ldR S xK (t := 3) (by decide) (n := n) (f := sD SS) (fun _ h => (hX _ h).a2) (by omega) dL_isStep_5 ?_
  refine g_astore_n S (lv' := [(3, .ref (sD SS u)), (0, .ref (sm)), (1, .int (iI u)), (2, .int (iI o))]) dL_isStep_6 rfl (Nat.le_of_ble_eq_true rfl) rfl ?_
  refine g_aload_n S dL_isStep_7 rfl 0 rfl ?_
  refine g_lenI S xK (n := sM SS u) (F := sV SS u) (fun _ h => (hX _ h).d (u := u) (by omega)) (by omega) dL_isStep_8 ?_
  refine g_istore S (lv' := [(4, .int (iI (sM SS u))), (3, .ref (sD SS u)), (0, .ref (sm)), (1, .int (iI u)), (2, .int (iI o))]) dL_isStep_9 (Nat.le_of_ble_eq_true rfl) rfl ?_
  refine g_iconst S dL_isStep_11 ?_
  refine g_istore S (lv' := [(5, .int (iI 0)), (4, .int (iI (sM SS u))), (3, .ref (sD SS u)), (0, .ref (sm)), (1, .int (iI u)), (2, .int (iI o))]) dL_isStep_12 (Nat.le_of_ble_eq_true rfl) rfl ?_
  have L14 : ∀ (nf : Nat) (yv_q7 : Int), (0 ≤ yv_q7 ∧ yv_q7 ≤ sM SS u) → (∀ k : Int, 0 ≤ k → k < yv_q7 → sV SS u k ≠ o) → (sM SS u - yv_q7 < (nf : Int)) → G xp l xe ({ frames := 0, cells := 0, slots := 0, locals := 0 }) xs xm xa xb xh xc 7 (fun _ => False) 0 0 (MQ xb (QW (some (.int (iI (pI ((∃ k : Int, 0 ≤ k ∧ k < sM SS u ∧ sV SS u k = o) ∨ se u = o))))) (Wp) (fun _ => False)) xa xs 0 0 (fun _ => False)) 14 [(0, .ref (sm)), (1, .int (iI u)), (2, .int (iI o)), (3, .ref (sD SS u)), (4, .int (iI (sM SS u))), (5, .int (iI yv_q7))] [] (fun H => Wp H) := by
    intro nf
    induction nf with
    | zero =>
      intro yv_q7 hy_q7 hno_q7 hmf
      exfalso
      omega
    | succ nf ihL14 =>
      intro yv_q7 hy_q7 hno_q7 hmf
      refine g_iload S dL_isStep_14 5 rfl ?_
      refine g_iload S dL_isStep_16 4 rfl ?_
      refine g_icmp_ge S (tgt := 41) dL_isStep_18 (by decide) (by omega) (fun c18_q7 => ?_) (fun c18_q7 => ?_)
      · skip
        refine g_aload_n S dL_isStep_41 rfl 0 rfl ?_
        refine g_get S xK (ref := "BookIndexLaw$Sim") hin2_q7 2 (by decide) (show vwCl[2]? = some (RX2, TX2, 4) from rfl) kf9 (fun _ h9 => h9) (fun _ h => hO _ h) rfl dL_isStep_42 ?_
        refine g_iload_n S dL_isStep_45 rfl 1 rfl ?_
        refine g_iald S xK (n := (n : Int).toNat) (F := se) (fun _ h => (hX _ h).a1) (by omega) (by omega) dL_isStep_46 ?_
        refine g_iload_n S dL_isStep_47 rfl 2 rfl ?_
        refine g_icmp_ne S (tgt := 55) dL_isStep_48 (by decide) (by omega) (fun c48_q7 => ?_) (fun c48_q7 => ?_)
        · skip
          refine g_iconst S dL_isStep_55 ?_
          rw [show pI ((∃ k : Int, 0 ≤ k ∧ k < sM SS u ∧ sV SS u k = o) ∨ se u = o) = 0 from pI_f (fun w => w.elim (fun ⟨k, k0, k1, k2⟩ => hno_q7 k k0 (by omega) k2) (fun w => by omega))]
          exact g_zret S xr xlk (Or.inl rfl) dL_isStep_56 (fun _ h => h)
        · skip
          refine g_iconst S dL_isStep_51 ?_
          refine g_goto S (tgt := 56) dL_isStep_52 (by decide) ?_
          rw [show pI ((∃ k : Int, 0 ≤ k ∧ k < sM SS u ∧ sV SS u k = o) ∨ se u = o) = 1 from pI_t (Or.inr (by omega))]
          exact g_zret S xr xlk (Or.inr rfl) dL_isStep_56 (fun _ h => h)
      · skip
        refine g_aload_n S dL_isStep_21 rfl 3 rfl ?_
        refine g_iload S dL_isStep_22 5 rfl ?_
        refine g_iald S xK (n := (sM SS u : Int).toNat) (F := sV SS u) (fun _ h => (hX _ h).d (u := u) (by omega)) (by omega) (by omega) dL_isStep_24 ?_
        refine g_istore S (lv' := [(6, .int (iI (sV SS u yv_q7))), (0, .ref (sm)), (1, .int (iI u)), (2, .int (iI o)), (3, .ref (sD SS u)), (4, .int (iI (sM SS u))), (5, .int (iI yv_q7))]) dL_isStep_25 (Nat.le_of_ble_eq_true rfl) rfl ?_
        have v9_q7 := hv yv_q7 (by omega) (by omega)
        refine g_iload S dL_isStep_27 0 rfl ?_
        refine g_iload_n S dL_isStep_29 rfl 3 rfl ?_
        refine g_icmp_ne S (tgt := 35) dL_isStep_30 (by decide) (by omega) (fun c30_q7 => ?_) (fun c30_q7 => ?_)
        · skip
          refine g_iinc S (lv' := [(5, .int (iI (yv_q7 + 1))), (6, .int (iI (sV SS u yv_q7))), (0, .ref (sm)), (1, .int (iI u)), (2, .int (iI o)), (3, .ref (sD SS u)), (4, .int (iI (sM SS u)))]) dL_isStep_35 6 rfl (Nat.le_of_ble_eq_true rfl) rfl ?_
          refine g_goto S (tgt := 14) dL_isStep_38 (by decide) ?_
          refine g_lv [2, 3, 4, 5, 6, 0] rfl ?_
          exact ihL14 (yv_q7 + 1) (by omega) (fun k k0 k1 w => by by_cases e : k = yv_q7; (rw [e] at w; omega); (exact hno_q7 k k0 (by omega) w)) (by omega)
        · skip
          refine g_iconst S dL_isStep_33 ?_
          rw [show pI ((∃ k : Int, 0 ≤ k ∧ k < sM SS u ∧ sV SS u k = o) ∨ se u = o) = 1 from pI_t (Or.inl ⟨yv_q7, by omega, by omega, by omega⟩)]
          exact g_zret S xr xlk (Or.inr rfl) dL_isStep_34 (fun _ h => h)
  refine g_lv [3, 4, 5, 2, 1, 0] rfl ?_
  exact L14 ((sM SS u - 0) + 1).toNat 0 (by omega) (fun k k0 k1 => by omega) (by omega)
