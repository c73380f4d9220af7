section GR2
variable {p : Program} {l : Launch} {e : Env} {R : Room} {s : State} {m : MethodId} {args : Array Value} {below : List Frame} {meth : Method} {c : Code} {nL : Nat} {A : Nat → Prop} {cells slots : Nat} {Q : State → Prop}
variable {cc : ByteArray} {Ts : List Cond} {own : String} {pc : Nat} {lv lv' : List (Nat × Value)} {st : List Value} {Wp Wp' : Heap → Prop} {E : EN}
theorem g_iushr (S : CallFix p m c cc nL s args Ts own) {x y : Int32} (hd : decode cc pc = .ok (.iushr, 1)) (k : G p l e R s m args below meth c nL A cells slots Q (pc + 1) lv (.int (x.toUInt32 >>> (y.toUInt32 &&& Int32.toUInt32 31)).toInt32 :: st) Wp) : G p l e R s m args below meth c nL A cells slots Q pc lv (.int y :: .int x :: st) Wp :=
  fun H locs ls hl hw hS => lv_iushr S.1 S.2.1 hd rfl (k H locs ls hl hw hS)
theorem g_ldcw (S : CallFix p m c cc nL s args Ts own) {ix : Nat} {v : Int32} (hc : (Cond.constant own ix v).before args s = true) (hd : decode cc pc = .ok (.ldc_w ix, 3)) (k : G p l e R s m args below meth c nL A cells slots Q (pc + 3) lv (.int v :: st) Wp) : G p l e R s m args below meth c nL A cells slots Q pc lv st Wp :=
  fun H locs ls hl hw hS => lv_ldcw S.1 S.2.1 S.2.2.2.1 hc hd (k H locs ls hl hw hS)
theorem g_iaddx (S : CallFix p m c cc nL s args Ts own) {x y : Int32} (hd : decode cc pc = .ok (.iadd, 1)) (k : G p l e R s m args below meth c nL A cells slots Q (pc + 1) lv (.int (x + y) :: st) Wp) : G p l e R s m args below meth c nL A cells slots Q pc lv (.int y :: .int x :: st) Wp :=
  fun H locs ls hl hw hS => lv_iadd S.1 S.2.1 hd (k H locs ls hl hw hS)
theorem g_isubx (S : CallFix p m c cc nL s args Ts own) {x y : Int32} (hd : decode cc pc = .ok (.isub, 1)) (k : G p l e R s m args below meth c nL A cells slots Q (pc + 1) lv (.int (x - y) :: st) Wp) : G p l e R s m args below meth c nL A cells slots Q pc lv (.int y :: .int x :: st) Wp :=
  fun H locs ls hl hw hS => lv_isub S.1 S.2.1 hd (k H locs ls hl hw hS)
end GR2
set_option maxHeartbeats 4000000 in
set_option maxRecDepth 100000 in
theorem m_J6_bitCount_0f7a4 (l : Launch) (E : EN) (Wp : Heap → Prop) (m : Nat) (hm : m < 2 ^ 24) : Met l yJ6_bitCount_0f7a4 wsJ6_bitCount_0f7a4 ({ frames := 0, cells := 0, slots := 0, locals := 0 }) (CI E [.int (iI (m : Int))] Wp) (QW (some (.int (iI ((pop m 24 : Nat) : Int)))) Wp (fun _ => False)) 0 0 (fun _ => False) := by
  refine g_met (cc := cJ6_bitCount_0f7a4) (maxL := 1) (ret := some .int) (lv := [(0, .int (iI (m : Int)))]) (by decide) rfl (Nat.le_of_ble_eq_true rfl) rfl ?_
  intro xp xe xs xm xa xb xh xc S hK hr hlk hin2
  have k265 := S.2.2.2.2 (.constant RJ6 265 1431655765) (by decide +kernel)
  have k266 := S.2.2.2.2 (.constant RJ6 266 858993459) (by decide +kernel)
  have k267 := S.2.2.2.2 (.constant RJ6 267 252645135) (by decide +kernel)
  rw [← bcX_pop hm]
  generalize iI (m : Int) = x0
  unfold bcX
  dsimp only
  refine g_iload_n S dJ6_bitCount_0f7a4_0 rfl 0 rfl ?_
  refine g_iload_n S dJ6_bitCount_0f7a4_1 rfl 0 rfl ?_
  refine g_iconst S dJ6_bitCount_0f7a4_2 ?_
  refine g_iushr S dJ6_bitCount_0f7a4_3 ?_
  refine g_ldcw S k265 dJ6_bitCount_0f7a4_4 ?_
  refine g_iand S dJ6_bitCount_0f7a4_7 rfl ?_
  refine g_isubx S dJ6_bitCount_0f7a4_8 ?_
  generalize x0 - ((x0.toUInt32 >>> ((iI 1).toUInt32 &&& Int32.toUInt32 31)).toInt32 &&& 1431655765) = x1
  refine g_istore_n S (lv' := [(0, .int x1)]) dJ6_bitCount_0f7a4_9 rfl (Nat.le_of_ble_eq_true rfl) rfl ?_
  refine g_iload_n S dJ6_bitCount_0f7a4_10 rfl 0 rfl ?_
  refine g_ldcw S k266 dJ6_bitCount_0f7a4_11 ?_
  refine g_iand S dJ6_bitCount_0f7a4_14 rfl ?_
  refine g_iload_n S dJ6_bitCount_0f7a4_15 rfl 0 rfl ?_
  refine g_iconst S dJ6_bitCount_0f7a4_16 ?_
  refine g_iushr S dJ6_bitCount_0f7a4_17 ?_
  refine g_ldcw S k266 dJ6_bitCount_0f7a4_18 ?_
  refine g_iand S dJ6_bitCount_0f7a4_21 rfl ?_
  refine g_iaddx S dJ6_bitCount_0f7a4_22 ?_
  generalize (x1 &&& 858993459) + ((x1.toUInt32 >>> ((iI 2).toUInt32 &&& Int32.toUInt32 31)).toInt32 &&& 858993459) = x2
  refine g_istore_n S (lv' := [(0, .int x2)]) dJ6_bitCount_0f7a4_23 rfl (Nat.le_of_ble_eq_true rfl) rfl ?_
  refine g_iload_n S dJ6_bitCount_0f7a4_24 rfl 0 rfl ?_
  refine g_iload_n S dJ6_bitCount_0f7a4_25 rfl 0 rfl ?_
  refine g_iconst S dJ6_bitCount_0f7a4_26 ?_
  refine g_iushr S dJ6_bitCount_0f7a4_27 ?_
  refine g_iaddx S dJ6_bitCount_0f7a4_28 ?_
  refine g_ldcw S k267 dJ6_bitCount_0f7a4_29 ?_
  refine g_iand S dJ6_bitCount_0f7a4_32 rfl ?_
  generalize (x2 + (x2.toUInt32 >>> ((iI 4).toUInt32 &&& Int32.toUInt32 31)).toInt32) &&& 252645135 = x3
  refine g_istore_n S (lv' := [(0, .int x3)]) dJ6_bitCount_0f7a4_33 rfl (Nat.le_of_ble_eq_true rfl) rfl ?_
  refine g_iload_n S dJ6_bitCount_0f7a4_34 rfl 0 rfl ?_
  refine g_iload_n S dJ6_bitCount_0f7a4_35 rfl 0 rfl ?_
  refine g_bipush S dJ6_bitCount_0f7a4_36 (by decide) ?_
  refine g_iushr S dJ6_bitCount_0f7a4_38 ?_
  refine g_iaddx S dJ6_bitCount_0f7a4_39 ?_
  generalize x3 + (x3.toUInt32 >>> ((iI 8).toUInt32 &&& Int32.toUInt32 31)).toInt32 = x4
  refine g_istore_n S (lv' := [(0, .int x4)]) dJ6_bitCount_0f7a4_40 rfl (Nat.le_of_ble_eq_true rfl) rfl ?_
  refine g_iload_n S dJ6_bitCount_0f7a4_41 rfl 0 rfl ?_
  refine g_iload_n S dJ6_bitCount_0f7a4_42 rfl 0 rfl ?_
  refine g_bipush S dJ6_bitCount_0f7a4_43 (by decide) ?_
  refine g_iushr S dJ6_bitCount_0f7a4_45 ?_
  refine g_iaddx S dJ6_bitCount_0f7a4_46 ?_
  generalize x4 + (x4.toUInt32 >>> ((iI 16).toUInt32 &&& Int32.toUInt32 31)).toInt32 = x5
  refine g_istore_n S (lv' := [(0, .int x5)]) dJ6_bitCount_0f7a4_47 rfl (Nat.le_of_ble_eq_true rfl) rfl ?_
  refine g_iload_n S dJ6_bitCount_0f7a4_48 rfl 0 rfl ?_
  refine g_bipush S dJ6_bitCount_0f7a4_49 (by decide) ?_
  refine g_iand S dJ6_bitCount_0f7a4_51 rfl ?_
  exact g_iret S hr hlk dJ6_bitCount_0f7a4_52 (fun _ h => h)
set_option maxHeartbeats 4000000 in
set_option maxRecDepth 100000 in
theorem m_X2_begins (l : Launch) (E : EN) {am : Int → Nat} (hj : INM am) (th pg n : Int) (on se : Int → Int) (al : Int → Nat) (g : SpT) (h k : Int) (hh : 0 ≤ h ∧ h ≤ 23) (hk : 0 ≤ k ∧ k < g.1) (hgn : g.1 ≤ 8) (hpg : 1 ≤ pg ∧ pg ≤ 300) (hon : ∀ k, on k = 0 ∨ on k = 1) (hv : VL g pg) (hcv : ∀ q : Int, 0 ≤ q → q ≤ 301 → (on (302 * h + q) = 1 ↔ cov g q)) : Met l yX2_begins wsX2_begins ({ frames := 1, cells := 0, slots := 0, locals := 22 }) (CI E [.ref (am 0), .int (iI h), .int (iI k)] (MW E am th pg n on se al)) (QW (some (.int (iI (g.2.1 k)))) (MW E am th pg n on se al) (fun _ => False)) 0 0 (fun _ => False) := by
  refine g_met (cc := cX2_begins) (maxL := 5) (ret := (some .int)) (lv := [(0, .ref (am 0)), (1, .int (iI h)), (2, .int (iI k))]) (by decide) rfl (Nat.le_of_ble_eq_true rfl) rfl ?_
  intro xp xe xs xm xa xb xh xc S xK xr xlk xin
  have L5 : ∀ (nf : Nat) (p : Int) (j : Int), (0 ≤ j ∧ j ≤ k + 1) → ((j = 0 ∧ p = 0) ∨ (1 ≤ j ∧ p = g.2.1 (j - 1))) → (k + 1 - j < (nf : Int)) → G xp l xe ({ frames := 1, cells := 0, slots := 0, locals := 22 }) xs xm xa xb xh xc 5 (fun _ => False) 0 0 (MQ xb (QW (some (.int (iI (g.2.1 k)))) (MW E am th pg n on se al) (fun _ => False)) xa xs 0 0 (fun _ => False)) 5 [(0, .ref (am 0)), (1, .int (iI h)), (2, .int (iI k)), (3, .int (iI p)), (4, .int (iI j))] [] (MW E am th pg n on se al) := by
    intro nf
    induction nf with
    | zero =>
      intro p j hjj hj2 hmf
      exfalso
      omega
    | succ nf ihL5 =>
      intro p j hjj hj2 hmf
      refine g_iload S dX2_begins_5 4 rfl ?_
      refine g_iload_n S dX2_begins_7 rfl 2 rfl ?_
      refine g_icmp_gt S (tgt := 47) dX2_begins_8 (by decide) (by omega) (fun c8 => ?_) (fun c8 => ?_)
      · skip
        refine g_iload_n S dX2_begins_47 rfl 3 rfl ?_
        rw [show (g.2.1 k) = p from by rcases hj2 with z | z; (· omega); (· rw [z.2, show j - 1 = k by omega])]
        exact g_iret S xr xlk dX2_begins_48 (fun _ h => h)
      · skip
        have LB : ∀ (nf : Nat) (p : Int), (0 ≤ p ∧ p ≤ 301) → ((j = 0 ∧ 0 ≤ p ∧ p ≤ g.2.1 0) ∨ (1 ≤ j ∧ g.2.2 (j - 1) + 1 ≤ p ∧ p ≤ g.2.1 j)) → (302 - p < (nf : Int)) → G xp l xe ({ frames := 1, cells := 0, slots := 0, locals := 22 }) xs xm xa xb xh xc 5 (fun _ => False) 0 0 (MQ xb (QW (some (.int (iI (g.2.1 k)))) (MW E am th pg n on se al) (fun _ => False)) xa xs 0 0 (fun _ => False)) 26 [(0, .ref (am 0)), (1, .int (iI h)), (2, .int (iI k)), (3, .int (iI p)), (4, .int (iI j))] [] (MW E am th pg n on se al) := by
          intro nf
          induction nf with
          | zero =>
            intro p hpp hb hmf
            exfalso
            omega
          | succ nf ihLB =>
            intro p hpp hb hmf
            have f0 := hv.2.2.1 0 (by omega) (by omega)
            have fj := hv.2.2.1 j (by omega) (by omega)
            refine g_aload_n S dX2_begins_26 rfl 0 rfl ?_
            refine g_iload_n S dX2_begins_27 rfl 1 rfl ?_
            refine g_iload_n S dX2_begins_28 rfl 3 rfl ?_
            refine g_callV S xK (As := [.int (iI h), .int (iI p)]) (st := []) (stk' := [.int (iI (on (302 * h + p)))]) (Wp' := MW E am th pg n on se al) (r := (RX2, TX2, 6)) (m_X2_has l E hj th pg n on se al h p (by omega) (by omega) hon) (cwV 2 S.2.2.2.2 gX2_begins_X2_has rfl rfl rfl (by decide +kernel) ⟨Nat.le_of_ble_eq_true rfl, Nat.le_of_ble_eq_true rfl⟩) rfl rfl rfl rfl (Nat.le_of_ble_eq_true rfl) ⟨Nat.le_of_ble_eq_true rfl, Nat.le_of_ble_eq_true rfl⟩ (fun _ q => q.elim) (fun _ h => mw_x h) (fun _ h => h) (fun _ _ _ h _ _ => h) dX2_begins_29 ?_
            have o32 := hon (302 * h + p)
            have v32 := hcv p (by omega) (by omega)
            refine g_if_ne S (tgt := 41) dX2_begins_32 (by decide) (by omega) (fun c32 => ?_) (fun c32 => ?_)
            · skip
              refine g_iinc S (lv' := [(4, .int (iI (j + 1))), (0, .ref (am 0)), (1, .int (iI h)), (2, .int (iI k)), (3, .int (iI p))]) dX2_begins_41 4 rfl (Nat.le_of_ble_eq_true rfl) rfl ?_
              refine g_goto S (tgt := 5) dX2_begins_44 (by decide) ?_
              refine g_lv [1, 2, 3, 4, 0] rfl ?_
              exact ihL5 p (j + 1) (by omega) (by rw [show j + 1 - 1 = j by omega]; rcases hb with z | z; (· have z2 := v32.trans (cov_lo hv (q := p) (by omega) z.2.2); have e0 : j = 0 := z.1; subst e0; exact Or.inr (by omega)); (· have z2 := v32.trans (cov_gap hv (a := j - 1) (q := p) (by omega) z.2.1 (by rw [show j - 1 + 1 = j by omega]; exact z.2.2)); rw [show j - 1 + 1 = j by omega] at z2; exact Or.inr (by omega))) (by omega)
            · skip
              refine g_iinc S (lv' := [(3, .int (iI (p + 1))), (0, .ref (am 0)), (1, .int (iI h)), (2, .int (iI k)), (4, .int (iI j))]) dX2_begins_35 3 rfl (Nat.le_of_ble_eq_true rfl) rfl ?_
              refine g_goto S (tgt := 26) dX2_begins_38 (by decide) ?_
              refine g_lv [1, 2, 3, 0, 4] rfl ?_
              exact ihLB (p + 1) (by rcases hb with z | z; (· have z2 := v32.trans (cov_lo hv (q := p) (by omega) z.2.2); omega); (· have z2 := v32.trans (cov_gap hv (a := j - 1) (q := p) (by omega) z.2.1 (by rw [show j - 1 + 1 = j by omega]; exact z.2.2)); rw [show j - 1 + 1 = j by omega] at z2; omega)) (by rcases hb with z | z; (· have z2 := v32.trans (cov_lo hv (q := p) (by omega) z.2.2); exact Or.inl (by omega)); (· have z2 := v32.trans (cov_gap hv (a := j - 1) (q := p) (by omega) z.2.1 (by rw [show j - 1 + 1 = j by omega]; exact z.2.2)); rw [show j - 1 + 1 = j by omega] at z2; exact Or.inr (by omega))) (by omega)
        have LA : ∀ (nf : Nat) (p : Int), (0 ≤ p ∧ p ≤ 301) → ((j = 0 ∧ p = 0) ∨ (1 ≤ j ∧ g.2.1 (j - 1) ≤ p ∧ p ≤ g.2.2 (j - 1) + 1)) → (302 - p < (nf : Int)) → G xp l xe ({ frames := 1, cells := 0, slots := 0, locals := 22 }) xs xm xa xb xh xc 5 (fun _ => False) 0 0 (MQ xb (QW (some (.int (iI (g.2.1 k)))) (MW E am th pg n on se al) (fun _ => False)) xa xs 0 0 (fun _ => False)) 11 [(0, .ref (am 0)), (1, .int (iI h)), (2, .int (iI k)), (3, .int (iI p)), (4, .int (iI j))] [] (MW E am th pg n on se al) := by
          intro nf
          induction nf with
          | zero =>
            intro p hpp hb hmf
            exfalso
            omega
          | succ nf ihLA =>
            intro p hpp hb hmf
            have fj : j = 0 ∨ (g.2.2 (j - 1) ≤ pg ∧ 1 ≤ g.2.1 (j - 1)) := by rcases hb with z | z; (· exact Or.inl z.1); (· have z3 := hv.2.2.1 (j - 1) (by omega) (by omega); exact Or.inr (by omega))
            have f0 := hv.2.2.1 0 (by omega) (by omega)
            refine g_aload_n S dX2_begins_11 rfl 0 rfl ?_
            refine g_iload_n S dX2_begins_12 rfl 1 rfl ?_
            refine g_iload_n S dX2_begins_13 rfl 3 rfl ?_
            refine g_callV S xK (As := [.int (iI h), .int (iI p)]) (st := []) (stk' := [.int (iI (on (302 * h + p)))]) (Wp' := MW E am th pg n on se al) (r := (RX2, TX2, 6)) (m_X2_has l E hj th pg n on se al h p (by omega) (by omega) hon) (cwV 2 S.2.2.2.2 gX2_begins_X2_has rfl rfl rfl (by decide +kernel) ⟨Nat.le_of_ble_eq_true rfl, Nat.le_of_ble_eq_true rfl⟩) rfl rfl rfl rfl (Nat.le_of_ble_eq_true rfl) ⟨Nat.le_of_ble_eq_true rfl, Nat.le_of_ble_eq_true rfl⟩ (fun _ q => q.elim) (fun _ h => mw_x h) (fun _ h => h) (fun _ _ _ h _ _ => h) dX2_begins_14 ?_
            have o17 := hon (302 * h + p)
            have v17 := hcv p (by omega) (by omega)
            refine g_if_eq S (tgt := 26) dX2_begins_17 (by decide) (by omega) (fun c17 => ?_) (fun c17 => ?_)
            · skip
              exact LB ((302 - p) + 1).toNat p (by omega) (by rcases hb with z | z; (· exact Or.inl (by omega)); (· have z2 := v17.trans (cov_at hv (a := j - 1) (q := p) (by omega) z.2.1 z.2.2); have z4 := hv.2.2.2 (j - 1) (by omega) (by omega); rw [show j - 1 + 1 = j by omega] at z4; exact Or.inr (by omega))) (by omega)
            · skip
              refine g_iinc S (lv' := [(3, .int (iI (p + 1))), (0, .ref (am 0)), (1, .int (iI h)), (2, .int (iI k)), (4, .int (iI j))]) dX2_begins_20 3 rfl (Nat.le_of_ble_eq_true rfl) rfl ?_
              refine g_goto S (tgt := 11) dX2_begins_23 (by decide) ?_
              refine g_lv [1, 2, 3, 0, 4] rfl ?_
              exact ihLA (p + 1) (by rcases hb with z | z; (· have z2 := v17.trans (cov_lo hv (q := p) (by omega) (by omega)); omega); (· have z2 := v17.trans (cov_at hv (a := j - 1) (q := p) (by omega) z.2.1 z.2.2); omega)) (by rcases hb with z | z; (· have z2 := v17.trans (cov_lo hv (q := p) (by omega) (by omega)); omega); (· have z2 := v17.trans (cov_at hv (a := j - 1) (q := p) (by omega) z.2.1 z.2.2); exact Or.inr (by omega))) (by omega)
        exact LA ((302 - p) + 1).toNat p (by rcases hj2 with z | z; (· omega); (· have z3 := hv.2.2.1 (j - 1) (by omega) (by omega); omega)) (by rcases hj2 with z | z; (· exact Or.inl z); (· have z3 := hv.2.2.1 (j - 1) (by omega) (by omega); exact Or.inr (by omega))) (by omega)
  refine g_iconst S dX2_begins_0 ?_
  refine g_istore_n S (lv' := [(3, .int (iI 0)), (0, .ref (am 0)), (1, .int (iI h)), (2, .int (iI k))]) dX2_begins_1 rfl (Nat.le_of_ble_eq_true rfl) rfl ?_
  refine g_iconst S dX2_begins_2 ?_
  refine g_istore S (lv' := [(4, .int (iI 0)), (3, .int (iI 0)), (0, .ref (am 0)), (1, .int (iI h)), (2, .int (iI k))]) dX2_begins_3 (Nat.le_of_ble_eq_true rfl) rfl ?_
  refine g_lv [2, 3, 4, 1, 0] rfl ?_
  exact L5 ((k + 1 - 0) + 1).toNat 0 0 (by omega) (Or.inl ⟨rfl, rfl⟩) (by omega)
set_option maxHeartbeats 4000000 in
set_option maxRecDepth 100000 in
theorem m_X2_ends (l : Launch) (E : EN) {am : Int → Nat} (hj : INM am) (th pg n : Int) (on se : Int → Int) (al : Int → Nat) (g : SpT) (h k : Int) (hh : 0 ≤ h ∧ h ≤ 23) (hk : 0 ≤ k ∧ k < g.1) (hgn : g.1 ≤ 8) (hpg : 1 ≤ pg ∧ pg ≤ 300) (hon : ∀ k, on k = 0 ∨ on k = 1) (hv : VL g pg) (hcv : ∀ q : Int, 0 ≤ q → q ≤ 301 → (on (302 * h + q) = 1 ↔ cov g q)) : Met l yX2_ends wsX2_ends ({ frames := 2, cells := 0, slots := 0, locals := 46 }) (CI E [.ref (am 0), .int (iI h), .int (iI k)] (MW E am th pg n on se al)) (QW (some (.int (iI (g.2.2 k)))) (MW E am th pg n on se al) (fun _ => False)) 0 0 (fun _ => False) := by
  refine g_met (cc := cX2_ends) (maxL := 4) (ret := (some .int)) (lv := [(0, .ref (am 0)), (1, .int (iI h)), (2, .int (iI k))]) (by decide) rfl (Nat.le_of_ble_eq_true rfl) rfl ?_
  intro xp xe xs xm xa xb xh xc S xK xr xlk xin
  have fk := hv.2.2.1 k (by omega) (by omega)
  have L7 : ∀ (nf : Nat) (p : Int), (p ≤ 301) → (g.2.1 k ≤ p ∧ p ≤ g.2.2 k) → (302 - p < (nf : Int)) → G xp l xe ({ frames := 2, cells := 0, slots := 0, locals := 46 }) xs xm xa xb xh xc 4 (fun _ => False) 0 0 (MQ xb (QW (some (.int (iI (g.2.2 k)))) (MW E am th pg n on se al) (fun _ => False)) xa xs 0 0 (fun _ => False)) 7 [(0, .ref (am 0)), (1, .int (iI h)), (2, .int (iI k)), (3, .int (iI p))] [] (MW E am th pg n on se al) := by
    intro nf
    induction nf with
    | zero =>
      intro p hpp hb hmf
      exfalso
      omega
    | succ nf ihL7 =>
      intro p hpp hb hmf
      refine g_aload_n S dX2_ends_7 rfl 0 rfl ?_
      refine g_iload_n S dX2_ends_8 rfl 1 rfl ?_
      refine g_iload_n S dX2_ends_9 rfl 3 rfl ?_
      refine g_iconst S dX2_ends_10 ?_
      refine g_iadd S dX2_ends_11 ?_
      refine g_callV S xK (As := [.int (iI h), .int (iI (p + 1))]) (st := []) (stk' := [.int (iI (on (302 * h + (p + 1))))]) (Wp' := MW E am th pg n on se al) (r := (RX2, TX2, 6)) (m_X2_has l E hj th pg n on se al h (p + 1) (by omega) (by omega) hon) (cwV 2 S.2.2.2.2 gX2_ends_X2_has rfl rfl rfl (by decide +kernel) ⟨Nat.le_of_ble_eq_true rfl, Nat.le_of_ble_eq_true rfl⟩) rfl rfl rfl rfl (Nat.le_of_ble_eq_true rfl) ⟨Nat.le_of_ble_eq_true rfl, Nat.le_of_ble_eq_true rfl⟩ (fun _ q => q.elim) (fun _ h => mw_x h) (fun _ h => h) (fun _ _ _ h _ _ => h) dX2_ends_12 ?_
      have o15 := hon (302 * h + (p + 1))
      have v15 := hcv (p + 1) (by omega) (by omega)
      have w15 := v15.trans (cov_at hv (a := k) (q := p + 1) hk (by omega) (by omega))
      refine g_if_eq S (tgt := 24) dX2_ends_15 (by decide) (by omega) (fun c15 => ?_) (fun c15 => ?_)
      · skip
        refine g_iload_n S dX2_ends_24 rfl 3 rfl ?_
        rw [show (g.2.2 k) = p from by omega]
        exact g_iret S xr xlk dX2_ends_25 (fun _ h => h)
      · skip
        refine g_iinc S (lv' := [(3, .int (iI (p + 1))), (0, .ref (am 0)), (1, .int (iI h)), (2, .int (iI k))]) dX2_ends_18 3 rfl (Nat.le_of_ble_eq_true rfl) rfl ?_
        refine g_goto S (tgt := 7) dX2_ends_21 (by decide) ?_
        refine g_lv [1, 2, 3, 0] rfl ?_
        exact ihL7 (p + 1) (by omega) (by omega) (by omega)
  refine g_aload_n S dX2_ends_0 rfl 0 rfl ?_
  refine g_iload_n S dX2_ends_1 rfl 1 rfl ?_
  refine g_iload_n S dX2_ends_2 rfl 2 rfl ?_
  refine g_callV S xK (As := [.int (iI h), .int (iI k)]) (st := []) (stk' := [.int (iI (g.2.1 k))]) (Wp' := MW E am th pg n on se al) (r := (RX2, TX2, 6)) (m_X2_begins l E hj th pg n on se al g h k hh hk hgn hpg hon hv hcv) (cwV 2 S.2.2.2.2 gX2_ends_X2_begins rfl rfl rfl (by decide +kernel) ⟨Nat.le_of_ble_eq_true rfl, Nat.le_of_ble_eq_true rfl⟩) rfl rfl rfl rfl (Nat.le_of_ble_eq_true rfl) ⟨Nat.le_of_ble_eq_true rfl, Nat.le_of_ble_eq_true rfl⟩ (fun _ q => q.elim) (fun _ h => mw_x h) (fun _ h => h) (fun _ _ _ h _ _ => h) dX2_ends_3 ?_
  refine g_istore_n S (lv' := [(3, .int (iI (g.2.1 k))), (0, .ref (am 0)), (1, .int (iI h)), (2, .int (iI k))]) dX2_ends_6 rfl (Nat.le_of_ble_eq_true rfl) rfl ?_
  refine g_lv [1, 2, 3, 0] rfl ?_
  exact L7 ((302 - (g.2.1 k)) + 1).toNat (g.2.1 k) (by omega) (by omega) (by omega)
set_option maxHeartbeats 4000000 in
set_option maxRecDepth 100000 in
theorem m_X2_step (l : Launch) (E : EN) {am : Int → Nat} (hj : INM am) (th pg n : Int) (on se : Int → Int) (al : Int → Nat) (m : Nat) (hm : m < 2 ^ n.toNat) (hn : 0 ≤ n ∧ n ≤ 24) (hgr : GR se al n) : Met l yX2_step wsX2_step ({ frames := 0, cells := 0, slots := 0, locals := 0 }) (CI E [.ref (am 0), .int (iI ((m : Nat) : Int))] (MW E am th pg n on se al)) (QW (some (.int (iI ((stS se al m n.toNat : Nat) : Int)))) (MW E am th pg n on se al) (fun _ => False)) 0 0 (fun _ => False) := by
  refine g_met (cc := cX2_step) (maxL := 4) (ret := (some .int)) (lv := [(0, .ref (am 0)), (1, .int (iI ((m : Nat) : Int)))]) (by decide) rfl (Nat.le_of_ble_eq_true rfl) rfl ?_
  intro xp xe xs xm xa xb xh xc S xK xr xlk xin
  have kf27 := S.2.2.2.2 (.fieldLink RX2 27 "BookIndexModel" "headings" "I") (by decide +kernel)
  have kf21 := S.2.2.2.2 (.fieldLink RX2 21 "BookIndexModel" "also" "[I") (by decide +kernel)
  have kf17 := S.2.2.2.2 (.fieldLink RX2 17 "BookIndexModel" "see" "[I") (by decide +kernel)
  have hin2 : ∀ w ∈ wsX20, w ∈ wsX2_step := by decide +kernel
  have hm24 := lt24 hn hm
  have L4 : ∀ (nf : Nat) (o : Int) (r : Nat), (0 ≤ o ∧ o ≤ n) → (r = stS se al m o.toNat) → (n - o < (nf : Int)) → G xp l xe ({ frames := 0, cells := 0, slots := 0, locals := 0 }) xs xm xa xb xh xc 4 (fun _ => False) 0 0 (MQ xb (QW (some (.int (iI ((stS se al m n.toNat : Nat) : Int)))) (MW E am th pg n on se al) (fun _ => False)) xa xs 0 0 (fun _ => False)) 4 [(0, .ref (am 0)), (1, .int (iI ((m : Nat) : Int))), (2, .int (iI ((r : Nat) : Int))), (3, .int (iI o))] [] (MW E am th pg n on se al) := by
    intro nf
    induction nf with
    | zero =>
      intro o r ho hr hmf
      exfalso
      omega
    | succ nf ihL4 =>
      intro o r ho hr hmf
      refine g_iload_n S dX2_step_4 rfl 3 rfl ?_
      refine g_aload_n S dX2_step_5 rfl 0 rfl ?_
      refine g_get S xK (ref := "BookIndexModel") hin2 2 (by decide) (show vwCl[2]? = some (RX2, TX2, 6) from rfl) kf27 (fun _ h9 => h9) (fun _ h => mw_x h) rfl dX2_step_6 ?_
      refine g_icmp_ge S (tgt := 59) dX2_step_9 (by decide) (by omega) (fun c9 => ?_) (fun c9 => ?_)
      · skip
        refine g_iload_n S dX2_step_59 rfl 2 rfl ?_
        rw [show ((stS se al m n.toNat : Nat) : Int) = ((r : Nat) : Int) from by rw [show n.toNat = o.toNat by omega, hr]]
        exact g_iret S xr xlk dX2_step_60 (fun _ h => h)
      · skip
        refine g_iload_n S dX2_step_12 rfl 1 rfl ?_
        refine g_iload_n S dX2_step_13 rfl 3 rfl ?_
        refine g_ishr S (z := (iI ((m : Nat) : Int) >>> (iI o &&& 31))) dX2_step_14 (rfl) ?_
        refine g_iconst S dX2_step_15 ?_
        refine g_iand S (z := (iI (pI (m.testBit o.toNat = true)))) dX2_step_16 (iI_bit hm24 (by omega)) ?_
        refine g_iconst S dX2_step_17 ?_
        have z18 := pI_b (m.testBit o.toNat = true)
        refine g_icmp_ne S (tgt := 53) dX2_step_18 (by decide) (by omega) (fun c18 => ?_) (fun c18 => ?_)
        · skip
          refine g_iinc S (lv' := [(3, .int (iI (o + 1))), (0, .ref (am 0)), (1, .int (iI ((m : Nat) : Int))), (2, .int (iI ((r : Nat) : Int)))]) dX2_step_53 3 rfl (Nat.le_of_ble_eq_true rfl) rfl ?_
          refine g_goto S (tgt := 4) dX2_step_56 (by decide) ?_
          refine g_lv [1, 2, 3, 0] rfl ?_
          exact ihL4 (o + 1) r (by omega) (by rw [stS_n ho.1 (pI_ne1 c18), ← hr]) (by omega)
        · skip
          have L50 : ∀ (x : Nat), (x = sb (se o)) → G xp l xe ({ frames := 0, cells := 0, slots := 0, locals := 0 }) xs xm xa xb xh xc 4 (fun _ => False) 0 0 (MQ xb (QW (some (.int (iI ((stS se al m n.toNat : Nat) : Int)))) (MW E am th pg n on se al) (fun _ => False)) xa xs 0 0 (fun _ => False)) 50 [(0, .ref (am 0)), (1, .int (iI ((m : Nat) : Int))), (2, .int (iI ((r : Nat) : Int))), (3, .int (iI o))] [.int (iI ((x : Nat) : Int)), .int (iI ((al o : Nat) : Int)), .int (iI ((r : Nat) : Int))] (MW E am th pg n on se al) := by
            intro x hx
            refine g_ior S (z := (iI (((al o) ||| x : Nat) : Int))) dX2_step_50 (iI_or _ _) ?_
            refine g_ior S (z := (iI ((r ||| ((al o) ||| x) : Nat) : Int))) dX2_step_51 (iI_or _ _) ?_
            refine g_istore_n S (lv' := [(2, .int (iI ((r ||| ((al o) ||| x) : Nat) : Int))), (0, .ref (am 0)), (1, .int (iI ((m : Nat) : Int))), (3, .int (iI o))]) dX2_step_52 rfl (Nat.le_of_ble_eq_true rfl) rfl ?_
            refine g_iinc S (lv' := [(3, .int (iI (o + 1))), (2, .int (iI ((r ||| ((al o) ||| x) : Nat) : Int))), (0, .ref (am 0)), (1, .int (iI ((m : Nat) : Int)))]) dX2_step_53 3 rfl (Nat.le_of_ble_eq_true rfl) rfl ?_
            refine g_goto S (tgt := 4) dX2_step_56 (by decide) ?_
            refine g_lv [2, 3, 1, 0] rfl ?_
            exact ihL4 (o + 1) (r ||| ((al o) ||| x)) (by omega) (by rw [stS_y ho.1 (pI_eq1 c18), ← hr, hx]) (by omega)
          refine g_iload_n S dX2_step_21 rfl 2 rfl ?_
          refine g_aload_n S dX2_step_22 rfl 0 rfl ?_
          refine g_get S xK (ref := "BookIndexModel") hin2 5 (by decide) (show vwCl[2]? = some (RX2, TX2, 6) from rfl) kf21 (fun _ h9 => h9) (fun _ h => mw_x h) rfl dX2_step_23 ?_
          refine g_iload_n S dX2_step_26 rfl 3 rfl ?_
          refine g_iald S xK (n := 24) (fun _ h => mw_al h) (by omega) (by decide) dX2_step_27 ?_
          refine g_aload_n S dX2_step_28 rfl 0 rfl ?_
          refine g_get S xK (ref := "BookIndexModel") hin2 4 (by decide) (show vwCl[2]? = some (RX2, TX2, 6) from rfl) kf17 (fun _ h9 => h9) (fun _ h => mw_x h) rfl dX2_step_29 ?_
          refine g_iload_n S dX2_step_32 rfl 3 rfl ?_
          refine g_iald S xK (n := 24) (fun _ h => mw_se h) (by omega) (by decide) dX2_step_33 ?_
          refine g_iconst S dX2_step_34 ?_
          have s35 := hgr.1 o (by omega) (by omega)
          refine g_icmp_ne S (tgt := 42) dX2_step_35 (by decide) (by omega) (fun c35 => ?_) (fun c35 => ?_)
          · skip
            refine g_iconst S dX2_step_42 ?_
            refine g_aload_n S dX2_step_43 rfl 0 rfl ?_
            refine g_get S xK (ref := "BookIndexModel") hin2 4 (by decide) (show vwCl[2]? = some (RX2, TX2, 6) from rfl) kf17 (fun _ h9 => h9) (fun _ h => mw_x h) rfl dX2_step_44 ?_
            refine g_iload_n S dX2_step_47 rfl 3 rfl ?_
            refine g_iald S xK (n := 24) (fun _ h => mw_se h) (by omega) (by decide) dX2_step_48 ?_
            refine g_ishl S (z := (iI ((2 ^ (se o).toNat : Nat) : Int))) dX2_step_49 (iI_shl1 (by omega)) ?_
            exact L50 (2 ^ (se o).toNat) (by unfold sb; rw [if_neg c35])
          · skip
            refine g_iconst S dX2_step_38 ?_
            refine g_goto S (tgt := 50) dX2_step_39 (by decide) ?_
            exact L50 0 (by unfold sb; rw [if_pos c35])
  refine g_iconst S dX2_step_0 ?_
  refine g_istore_n S (lv' := [(2, .int (iI 0)), (0, .ref (am 0)), (1, .int (iI ((m : Nat) : Int)))]) dX2_step_1 rfl (Nat.le_of_ble_eq_true rfl) rfl ?_
  refine g_iconst S dX2_step_2 ?_
  refine g_istore_n S (lv' := [(3, .int (iI 0)), (2, .int (iI 0)), (0, .ref (am 0)), (1, .int (iI ((m : Nat) : Int)))]) dX2_step_3 rfl (Nat.le_of_ble_eq_true rfl) rfl ?_
  refine g_lv [2, 3, 1, 0] rfl ?_
  exact L4 ((n - 0) + 1).toNat 0 0 (by omega) (rfl) (by omega)
set_option maxHeartbeats 4000000 in
set_option maxRecDepth 100000 in
theorem m_X2_all (l : Launch) (E : EN) {am : Int → Nat} (hj : INM am) (th pg n : Int) (on se : Int → Int) (al : Int → Nat) (m : Nat) (hm : m < 2 ^ n.toNat) (hn : 0 ≤ n ∧ n ≤ 24) (hgr : GR se al n) : Met l yX2_all wsX2_all ({ frames := 1, cells := 0, slots := 0, locals := 23 }) (CI E [.ref (am 0), .int (iI ((m : Nat) : Int))] (MW E am th pg n on se al)) (QW (some (.int (iI ((itS se al n 24 m : Nat) : Int)))) (MW E am th pg n on se al) (fun _ => False)) 0 0 (fun _ => False) := by
  refine g_met (cc := cX2_all) (maxL := 3) (ret := (some .int)) (lv := [(0, .ref (am 0)), (1, .int (iI ((m : Nat) : Int)))]) (by decide) rfl (Nat.le_of_ble_eq_true rfl) rfl ?_
  intro xp xe xs xm xa xb xh xc S xK xr xlk xin
  have L2 : ∀ (nf : Nat) (x : Nat) (j : Nat), (x = itS se al n j m) → (x < 2 ^ n.toNat) → (pop x 24 ≤ 24) → (j ≤ pop x 24) → (24 - (pop x 24 : Int) < (nf : Int)) → G xp l xe ({ frames := 1, cells := 0, slots := 0, locals := 23 }) xs xm xa xb xh xc 3 (fun _ => False) 0 0 (MQ xb (QW (some (.int (iI ((itS se al n 24 m : Nat) : Int)))) (MW E am th pg n on se al) (fun _ => False)) xa xs 0 0 (fun _ => False)) 2 [(0, .ref (am 0)), (1, .int (iI ((m : Nat) : Int))), (2, .int (iI ((x : Nat) : Int)))] [] (MW E am th pg n on se al) := by
    intro nf
    induction nf with
    | zero =>
      intro x j hx hxl hpl9 hjp hmf
      exfalso
      omega
    | succ nf ihL2 =>
      intro x j hx hxl hpl9 hjp hmf
      have hsl := stS_lt hgr x n.toNat (by omega)
      have hpl := pop_le x 24
      have hs24 := lt24 hn hsl
      have ha24 := mk_r (anN_le (stS se al x n.toNat) x hs24)
      refine g_aload_n S dX2_all_2 rfl 0 rfl ?_
      refine g_iload_n S dX2_all_3 rfl 2 rfl ?_
      refine g_callV S xK (As := [.int (iI ((x : Nat) : Int))]) (st := []) (stk' := [.int (iI ((stS se al x n.toNat : Nat) : Int))]) (Wp' := MW E am th pg n on se al) (r := (RX2, TX2, 6)) (m_X2_step l E hj th pg n on se al x hxl hn hgr) (cwV 1 S.2.2.2.2 gX2_all_X2_step rfl rfl rfl (by decide +kernel) ⟨Nat.le_of_ble_eq_true rfl, Nat.le_of_ble_eq_true rfl⟩) rfl rfl rfl rfl (Nat.le_of_ble_eq_true rfl) ⟨Nat.le_of_ble_eq_true rfl, Nat.le_of_ble_eq_true rfl⟩ (fun _ q => q.elim) (fun _ h => mw_x h) (fun _ h => h) (fun _ _ _ h _ _ => h) dX2_all_4 ?_
      refine g_iload_n S dX2_all_7 rfl 2 rfl ?_
      refine g_iconst S dX2_all_8 ?_
      refine g_ixor S (z := (iI ((x : Nat) : Int) ^^^ iI (-1))) dX2_all_9 (rfl) ?_
      refine g_iand S (z := (iI ((anN (stS se al x n.toNat) x : Nat) : Int))) dX2_all_10 (iI_andn) ?_
      refine g_if_eq S (tgt := 25) dX2_all_11 (by decide) (by omega) (fun c11 => ?_) (fun c11 => ?_)
      · skip
        refine g_iload_n S dX2_all_25 rfl 2 rfl ?_
        rw [show itS se al n 24 m = x from by have z := anN_0.mp (show anN (stS se al x n.toNat) x = 0 by omega); rw [show 24 = j + (24 - j) by omega, itS_add, ← hx]; exact itS_fix z _]
        exact g_iret S xr xlk dX2_all_26 (fun _ h => h)
      · skip
        have hgw := or_grow (w := 24) (m := x) (s := stS se al x n.toNat) (fun q => c11 (by rw [show anN (stS se al x n.toNat) x = 0 from anN_0.mpr q]; rfl)) (lt24 hn (Nat.or_lt_two_pow hxl hsl))
        have hpl2 := pop_le (x ||| stS se al x n.toNat) 24
        refine g_iload_n S dX2_all_14 rfl 2 rfl ?_
        refine g_aload_n S dX2_all_15 rfl 0 rfl ?_
        refine g_iload_n S dX2_all_16 rfl 2 rfl ?_
        refine g_callV S xK (As := [.int (iI ((x : Nat) : Int))]) (st := [.int (iI ((x : Nat) : Int))]) (stk' := [.int (iI ((stS se al x n.toNat : Nat) : Int)), .int (iI ((x : Nat) : Int))]) (Wp' := MW E am th pg n on se al) (r := (RX2, TX2, 6)) (m_X2_step l E hj th pg n on se al x hxl hn hgr) (cwV 1 S.2.2.2.2 gX2_all_X2_step rfl rfl rfl (by decide +kernel) ⟨Nat.le_of_ble_eq_true rfl, Nat.le_of_ble_eq_true rfl⟩) rfl rfl rfl rfl (Nat.le_of_ble_eq_true rfl) ⟨Nat.le_of_ble_eq_true rfl, Nat.le_of_ble_eq_true rfl⟩ (fun _ q => q.elim) (fun _ h => mw_x h) (fun _ h => h) (fun _ _ _ h _ _ => h) dX2_all_17 ?_
        refine g_ior S (z := (iI ((x ||| (stS se al x n.toNat) : Nat) : Int))) dX2_all_20 (iI_or _ _) ?_
        refine g_istore_n S (lv' := [(2, .int (iI ((x ||| (stS se al x n.toNat) : Nat) : Int))), (0, .ref (am 0)), (1, .int (iI ((m : Nat) : Int)))]) dX2_all_21 rfl (Nat.le_of_ble_eq_true rfl) rfl ?_
        refine g_goto S (tgt := 2) dX2_all_22 (by decide) ?_
        refine g_lv [1, 2, 0] rfl ?_
        exact ihL2 (x ||| (stS se al x n.toNat)) (j + 1) (by rw [itS_s, ← hx]) (Nat.or_lt_two_pow hxl hsl) (pop_le _ _) (by have z := or_grow (w := 24) (fun q => c11 (by rw [show anN (stS se al x n.toNat) x = 0 from anN_0.mpr q]; rfl)) (lt24 hn (Nat.or_lt_two_pow hxl hsl)); omega) (by omega)
  refine g_iload_n S dX2_all_0 rfl 1 rfl ?_
  refine g_istore_n S (lv' := [(2, .int (iI ((m : Nat) : Int))), (0, .ref (am 0)), (1, .int (iI ((m : Nat) : Int)))]) dX2_all_1 rfl (Nat.le_of_ble_eq_true rfl) rfl ?_
  refine g_lv [1, 2, 0] rfl ?_
  exact L2 ((24 - (pop m 24 : Int)) + 1).toNat m 0 (rfl) (hm) (pop_le _ _) (Nat.zero_le _) (by omega)
set_option maxHeartbeats 4000000 in
set_option maxRecDepth 100000 in
theorem m_X2_far (l : Launch) (E : EN) {am : Int → Nat} (hj : INM am) (th pg n : Int) (on se : Int → Int) (al : Int → Nat) (h b : Int) (hh : 0 ≤ h ∧ h < n) (hb : 0 ≤ b ∧ b < n) (hn : 0 ≤ n ∧ n ≤ 24) (hgr : GR se al n) : Met l yX2_far wsX2_far ({ frames := 1, cells := 0, slots := 0, locals := 23 }) (CI E [.ref (am 0), .int (iI h), .int (iI b)] (MW E am th pg n on se al)) (QW (some (.int (iI (fsS se al n b.toNat 24 (2 ^ h.toNat) 0)))) (MW E am th pg n on se al) (fun _ => False)) 0 0 (fun _ => False) := by
  refine g_met (cc := cX2_far) (maxL := 6) (ret := (some .int)) (lv := [(0, .ref (am 0)), (1, .int (iI h)), (2, .int (iI b))]) (by decide) rfl (Nat.le_of_ble_eq_true rfl) rfl ?_
  intro xp xe xs xm xa xb xh xc S xK xr xlk xin
  have h1l : 2 ^ h.toNat < 2 ^ n.toNat := Nat.pow_lt_pow_right (by decide) (by omega)
  have L7 : ∀ (nf : Nat) (x : Nat) (t : Int), (x < 2 ^ n.toNat) → (pop x 24 ≤ 24) → (0 ≤ t ∧ t + 1 ≤ (pop x 24 : Int)) → (fsS se al n b.toNat (24 - t).toNat x t = fsS se al n b.toNat 24 (2 ^ h.toNat) 0) → (24 - (pop x 24 : Int) < (nf : Int)) → G xp l xe ({ frames := 1, cells := 0, slots := 0, locals := 23 }) xs xm xa xb xh xc 6 (fun _ => False) 0 0 (MQ xb (QW (some (.int (iI (fsS se al n b.toNat 24 (2 ^ h.toNat) 0)))) (MW E am th pg n on se al) (fun _ => False)) xa xs 0 0 (fun _ => False)) 7 [(0, .ref (am 0)), (1, .int (iI h)), (2, .int (iI b)), (3, .int (iI ((x : Nat) : Int))), (4, .int (iI t))] [] (MW E am th pg n on se al) := by
    intro nf
    induction nf with
    | zero =>
      intro x t hxl hpl9 ht hf hmf
      exfalso
      omega
    | succ nf ihL7 =>
      intro x t hxl hpl9 ht hf hmf
      have hsl := stS_lt hgr x n.toNat (by omega)
      have hpl := pop_le x 24
      have hx24 := lt24 hn hxl
      have hmr := mk_r hx24
      have hor := lt24 hn (Nat.or_lt_two_pow hxl hsl)
      have hmr2 := mk_r hor
      refine g_iload_n S dX2_far_7 rfl 3 rfl ?_
      refine g_iload_n S dX2_far_8 rfl 2 rfl ?_
      refine g_ishr S (z := (iI ((x : Nat) : Int) >>> (iI b &&& 31))) dX2_far_9 (rfl) ?_
      refine g_iconst S dX2_far_10 ?_
      refine g_iand S (z := (iI (pI (x.testBit b.toNat = true)))) dX2_far_11 (iI_bit hx24 (by omega)) ?_
      have z12 := pI_b (x.testBit b.toNat = true)
      refine g_if_ne S (tgt := 41) dX2_far_12 (by decide) (by omega) (fun c12 => ?_) (fun c12 => ?_)
      · skip
        refine g_iload S dX2_far_41 4 rfl ?_
        rw [show fsS se al n b.toNat 24 (2 ^ h.toNat) 0 = t from by rw [← hf]; exact fsS_y (by omega) (pI_ne0 c12)]
        exact g_iret S xr xlk dX2_far_43 (fun _ h => h)
      · skip
        refine g_iload_n S dX2_far_15 rfl 3 rfl ?_
        refine g_aload_n S dX2_far_16 rfl 0 rfl ?_
        refine g_iload_n S dX2_far_17 rfl 3 rfl ?_
        refine g_callV S xK (As := [.int (iI ((x : Nat) : Int))]) (st := [.int (iI ((x : Nat) : Int))]) (stk' := [.int (iI ((stS se al x n.toNat : Nat) : Int)), .int (iI ((x : Nat) : Int))]) (Wp' := MW E am th pg n on se al) (r := (RX2, TX2, 6)) (m_X2_step l E hj th pg n on se al x hxl hn hgr) (cwV 1 S.2.2.2.2 gX2_far_X2_step rfl rfl rfl (by decide +kernel) ⟨Nat.le_of_ble_eq_true rfl, Nat.le_of_ble_eq_true rfl⟩) rfl rfl rfl rfl (Nat.le_of_ble_eq_true rfl) ⟨Nat.le_of_ble_eq_true rfl, Nat.le_of_ble_eq_true rfl⟩ (fun _ q => q.elim) (fun _ h => mw_x h) (fun _ h => h) (fun _ _ _ h _ _ => h) dX2_far_18 ?_
        refine g_ior S (z := (iI ((x ||| (stS se al x n.toNat) : Nat) : Int))) dX2_far_21 (iI_or _ _) ?_
        refine g_istore S (lv' := [(5, .int (iI ((x ||| (stS se al x n.toNat) : Nat) : Int))), (0, .ref (am 0)), (1, .int (iI h)), (2, .int (iI b)), (3, .int (iI ((x : Nat) : Int))), (4, .int (iI t))]) dX2_far_22 (Nat.le_of_ble_eq_true rfl) rfl ?_
        refine g_iload S dX2_far_24 0 rfl ?_
        refine g_iload_n S dX2_far_26 rfl 4 rfl ?_
        refine g_icmp_ne S (tgt := 32) dX2_far_27 (by decide) (by omega) (fun c27 => ?_) (fun c27 => ?_)
        · skip
          have hgw := or_grow (w := 24) (m := x) (s := stS se al x n.toNat) (fun q => c27 (by rw [q])) hor
          have hpl2 := pop_le (x ||| stS se al x n.toNat) 24
          refine g_iload S dX2_far_32 0 rfl ?_
          refine g_istore_n S (lv' := [(3, .int (iI ((x ||| (stS se al x n.toNat) : Nat) : Int))), (5, .int (iI ((x ||| (stS se al x n.toNat) : Nat) : Int))), (0, .ref (am 0)), (1, .int (iI h)), (2, .int (iI b)), (4, .int (iI t))]) dX2_far_34 rfl (Nat.le_of_ble_eq_true rfl) rfl ?_
          refine g_iinc S (lv' := [(4, .int (iI (t + 1))), (3, .int (iI ((x ||| (stS se al x n.toNat) : Nat) : Int))), (5, .int (iI ((x ||| (stS se al x n.toNat) : Nat) : Int))), (0, .ref (am 0)), (1, .int (iI h)), (2, .int (iI b))]) dX2_far_35 5 rfl (Nat.le_of_ble_eq_true rfl) rfl ?_
          refine g_goto S (tgt := 7) dX2_far_38 (by decide) ?_
          refine g_lv [3, 4, 5, 1, 0] rfl ?_
          exact ihL7 (x ||| (stS se al x n.toNat)) (t + 1) (Nat.or_lt_two_pow hxl hsl) (pop_le _ _) (by omega) (by rw [← hf, fsS_n (z := 24 - t) (by omega) (pI_eq0 c12), show 24 - (t + 1) = 24 - t - 1 by omega]) (by omega)
        · skip
          refine g_iconst S dX2_far_30 ?_
          rw [show fsS se al n b.toNat 24 (2 ^ h.toNat) 0 = -1 from by rw [← hf]; exact fsS_fix (Int.ofNat.inj c27) (pI_eq0 c12) _ _]
          exact g_iret S xr xlk dX2_far_31 (fun _ h => h)
  refine g_iconst S dX2_far_0 ?_
  refine g_iload_n S dX2_far_1 rfl 1 rfl ?_
  refine g_ishl S (z := (iI ((2 ^ h.toNat : Nat) : Int))) dX2_far_2 (iI_shl1 (by omega)) ?_
  refine g_istore_n S (lv' := [(3, .int (iI ((2 ^ h.toNat : Nat) : Int))), (0, .ref (am 0)), (1, .int (iI h)), (2, .int (iI b))]) dX2_far_3 rfl (Nat.le_of_ble_eq_true rfl) rfl ?_
  refine g_iconst S dX2_far_4 ?_
  refine g_istore S (lv' := [(4, .int (iI 0)), (3, .int (iI ((2 ^ h.toNat : Nat) : Int))), (0, .ref (am 0)), (1, .int (iI h)), (2, .int (iI b))]) dX2_far_5 (Nat.le_of_ble_eq_true rfl) rfl ?_
  refine g_lv [2, 3, 4, 1, 0] rfl ?_
  exact L7 ((24 - (pop (2 ^ h.toNat) 24 : Int)) + 1).toNat (2 ^ h.toNat) 0 (h1l) (pop_le _ _) (by have z := or_grow (w := 24) (m := 0) (s := 2 ^ h.toNat) (by have z1 := Nat.two_pow_pos h.toNat; rw [Nat.zero_or]; omega) (by rw [Nat.zero_or]; exact lt24 hn h1l); rw [Nat.zero_or] at z; omega) (rfl) (by omega)
set_option maxHeartbeats 4000000 in
set_option maxRecDepth 100000 in
theorem m_X2_rings (l : Launch) (E : EN) {am : Int → Nat} (hj : INM am) (th pg n : Int) (on se : Int → Int) (al : Int → Nat) (h : Int) (hh : 0 ≤ h ∧ h < n) (hn : 0 ≤ n ∧ n ≤ 24) (hgr : GR se al n) : Met l yX2_rings wsX2_rings ({ frames := 2, cells := 0, slots := 0, locals := 45 }) (CI E [.ref (am 0), .int (iI h)] (MW E am th pg n on se al)) (QW (some (.int (iI (pI ((itS se al n 24 (stS se al (2 ^ h.toNat) n.toNat)).testBit h.toNat = true))))) (MW E am th pg n on se al) (fun _ => False)) 0 0 (fun _ => False) := by
  refine g_met (cc := cX2_rings) (maxL := 2) (ret := (some .boolean)) (lv := [(0, .ref (am 0)), (1, .int (iI h))]) (by decide) rfl (Nat.le_of_ble_eq_true rfl) rfl ?_
  intro xp xe xs xm xa xb xh xc S xK xr xlk xin
  have h1l : 2 ^ h.toNat < 2 ^ n.toNat := Nat.pow_lt_pow_right (by decide) (by omega)
  have hsl := stS_lt hgr (2 ^ h.toNat) n.toNat (by omega)
  have hil := lt24 hn (itS_lt hgr hn.1 24 _ hsl)
  refine g_aload_n S dX2_rings_0 rfl 0 rfl ?_
  refine g_aload_n S dX2_rings_1 rfl 0 rfl ?_
  refine g_iconst S dX2_rings_2 ?_
  refine g_iload_n S dX2_rings_3 rfl 1 rfl ?_
  refine g_ishl S (z := (iI ((2 ^ h.toNat : Nat) : Int))) dX2_rings_4 (iI_shl1 (by omega)) ?_
  refine g_callV S xK (As := [.int (iI ((2 ^ h.toNat : Nat) : Int))]) (st := [.ref (am 0)]) (stk' := [.int (iI ((stS se al (2 ^ h.toNat) n.toNat : Nat) : Int)), .ref (am 0)]) (Wp' := MW E am th pg n on se al) (r := (RX2, TX2, 6)) (m_X2_step l E hj th pg n on se al (2 ^ h.toNat) h1l hn hgr) (cwV 1 S.2.2.2.2 gX2_rings_X2_step rfl rfl rfl (by decide +kernel) ⟨Nat.le_of_ble_eq_true rfl, Nat.le_of_ble_eq_true rfl⟩) rfl rfl rfl rfl (Nat.le_of_ble_eq_true rfl) ⟨Nat.le_of_ble_eq_true rfl, Nat.le_of_ble_eq_true rfl⟩ (fun _ q => q.elim) (fun _ h => mw_x h) (fun _ h => h) (fun _ _ _ h _ _ => h) dX2_rings_5 ?_
  refine g_callV S xK (As := [.int (iI ((stS se al (2 ^ h.toNat) n.toNat : Nat) : Int))]) (st := []) (stk' := [.int (iI ((itS se al n 24 (stS se al (2 ^ h.toNat) n.toNat) : Nat) : Int))]) (Wp' := MW E am th pg n on se al) (r := (RX2, TX2, 6)) (m_X2_all l E hj th pg n on se al (stS se al (2 ^ h.toNat) n.toNat) hsl hn hgr) (cwV 1 S.2.2.2.2 gX2_rings_X2_all rfl rfl rfl (by decide +kernel) ⟨Nat.le_of_ble_eq_true rfl, Nat.le_of_ble_eq_true rfl⟩) rfl rfl rfl rfl (Nat.le_of_ble_eq_true rfl) ⟨Nat.le_of_ble_eq_true rfl, Nat.le_of_ble_eq_true rfl⟩ (fun _ q => q.elim) (fun _ h => mw_x h) (fun _ h => h) (fun _ _ _ h _ _ => h) dX2_rings_8 ?_
  refine g_iload_n S dX2_rings_11 rfl 1 rfl ?_
  refine g_ishr S (z := (iI ((itS se al n 24 (stS se al (2 ^ h.toNat) n.toNat) : Nat) : Int) >>> (iI h &&& 31))) dX2_rings_12 (rfl) ?_
  refine g_iconst S dX2_rings_13 ?_
  refine g_iand S (z := (iI (pI ((itS se al n 24 (stS se al (2 ^ h.toNat) n.toNat)).testBit h.toNat = true)))) dX2_rings_14 (iI_bit hil (by omega)) ?_
  refine g_iconst S dX2_rings_15 ?_
  have z16 := pI_b ((itS se al n 24 (stS se al (2 ^ h.toNat) n.toNat)).testBit h.toNat = true)
  refine g_icmp_ne S (tgt := 23) dX2_rings_16 (by decide) (by omega) (fun c16 => ?_) (fun c16 => ?_)
  · skip
    refine g_iconst S dX2_rings_23 ?_
    rw [pI_f (pI_ne1 c16)]
    exact g_zret S xr xlk (Or.inl rfl) dX2_rings_24 (fun _ h => h)
  · skip
    refine g_iconst S dX2_rings_19 ?_
    refine g_goto S (tgt := 24) dX2_rings_20 (by decide) ?_
    rw [c16]
    exact g_zret S xr xlk (Or.inr rfl) dX2_rings_24 (fun _ h => h)
set_option maxHeartbeats 4000000 in
set_option maxRecDepth 100000 in
theorem m_X2_alone (l : Launch) (E : EN) {am : Int → Nat} (hj : INM am) (th pg n : Int) (on se : Int → Int) (al : Int → Nat) (hn : 0 ≤ n ∧ n ≤ 24) (hgr : GR se al n) : Met l yX2_alone wsX2_alone ({ frames := 1, cells := 0, slots := 0, locals := 23 }) (CI E [.ref (am 0)] (MW E am th pg n on se al)) (QW (some (.int (iI (n - ((pop (rS se al n n.toNat) 24 : Nat) : Int))))) (MW E am th pg n on se al) (fun _ => False)) 0 0 (fun _ => False) := by
  refine g_met (cc := cX2_alone) (maxL := 3) (ret := (some .int)) (lv := [(0, .ref (am 0))]) (by decide) rfl (Nat.le_of_ble_eq_true rfl) rfl ?_
  intro xp xe xs xm xa xb xh xc S xK xr xlk xin
  have kf27 := S.2.2.2.2 (.fieldLink RX2 27 "BookIndexModel" "headings" "I") (by decide +kernel)
  have hin2 : ∀ w ∈ wsX20, w ∈ wsX2_alone := by decide +kernel
  have L4 : ∀ (nf : Nat) (o : Int) (r : Nat), (0 ≤ o ∧ o ≤ n) → (r = rS se al n o.toNat) → (n - o < (nf : Int)) → G xp l xe ({ frames := 1, cells := 0, slots := 0, locals := 23 }) xs xm xa xb xh xc 3 (fun _ => False) 0 0 (MQ xb (QW (some (.int (iI (n - ((pop (rS se al n n.toNat) 24 : Nat) : Int))))) (MW E am th pg n on se al) (fun _ => False)) xa xs 0 0 (fun _ => False)) 4 [(0, .ref (am 0)), (1, .int (iI ((r : Nat) : Int))), (2, .int (iI o))] [] (MW E am th pg n on se al) := by
    intro nf
    induction nf with
    | zero =>
      intro o r ho hr hmf
      exfalso
      omega
    | succ nf ihL4 =>
      intro o r ho hr hmf
      have hr2 : 0 ≤ o → o < n → 2 ^ o.toNat < 2 ^ n.toNat := fun _ _ => Nat.pow_lt_pow_right (by decide) (by omega)
      refine g_iload_n S dX2_alone_4 rfl 2 rfl ?_
      refine g_aload_n S dX2_alone_5 rfl 0 rfl ?_
      refine g_get S xK (ref := "BookIndexModel") hin2 2 (by decide) (show vwCl[2]? = some (RX2, TX2, 6) from rfl) kf27 (fun _ h9 => h9) (fun _ h => mw_x h) rfl dX2_alone_6 ?_
      refine g_icmp_ge S (tgt := 28) dX2_alone_9 (by decide) (by omega) (fun c9 => ?_) (fun c9 => ?_)
      · skip
        refine g_aload_n S dX2_alone_28 rfl 0 rfl ?_
        refine g_get S xK (ref := "BookIndexModel") hin2 2 (by decide) (show vwCl[2]? = some (RX2, TX2, 6) from rfl) kf27 (fun _ h9 => h9) (fun _ h => mw_x h) rfl dX2_alone_29 ?_
        refine g_iload_n S dX2_alone_32 rfl 1 rfl ?_
        refine g_callS S xK (As := [.int (iI ((r : Nat) : Int))]) (st := [.int (iI n)]) (stk' := [.int (iI ((pop r 24 : Nat) : Int)), .int (iI n)]) (Wp' := MW E am th pg n on se al) (m_J6_bitCount_0f7a4 l E (MW E am th pg n on se al) r (by rw [hr]; exact lt24 hn (rS_lt hgr hn.1 _))) (va_cwS 1 S.2.2.2.2 gX2_alone_J6_bitCount_0f7a4 rfl rfl rfl (by decide +kernel) ⟨Nat.le_of_ble_eq_true rfl, Nat.le_of_ble_eq_true rfl⟩) rfl rfl rfl (Nat.le_of_ble_eq_true rfl) ⟨Nat.le_of_ble_eq_true rfl, Nat.le_of_ble_eq_true rfl⟩ (fun _ q => q.elim) (fun _ h => h) (fun _ _ _ h _ _ => h) dX2_alone_33 ?_
        refine g_isub S dX2_alone_36 ?_
        rw [show rS se al n n.toNat = r from by rw [hr, show n.toNat = o.toNat by omega]]
        exact g_iret S xr xlk dX2_alone_37 (fun _ h => h)
      · skip
        refine g_iload_n S dX2_alone_12 rfl 1 rfl ?_
        refine g_aload_n S dX2_alone_13 rfl 0 rfl ?_
        refine g_iconst S dX2_alone_14 ?_
        refine g_iload_n S dX2_alone_15 rfl 2 rfl ?_
        refine g_ishl S (z := (iI ((2 ^ o.toNat : Nat) : Int))) dX2_alone_16 (iI_shl1 (by omega)) ?_
        refine g_callV S xK (As := [.int (iI ((2 ^ o.toNat : Nat) : Int))]) (st := [.int (iI ((r : Nat) : Int))]) (stk' := [.int (iI ((stS se al (2 ^ o.toNat) n.toNat : Nat) : Int)), .int (iI ((r : Nat) : Int))]) (Wp' := MW E am th pg n on se al) (r := (RX2, TX2, 6)) (m_X2_step l E hj th pg n on se al (2 ^ o.toNat) (hr2 (by omega) (by omega)) hn hgr) (cwV 1 S.2.2.2.2 gX2_alone_X2_step rfl rfl rfl (by decide +kernel) ⟨Nat.le_of_ble_eq_true rfl, Nat.le_of_ble_eq_true rfl⟩) rfl rfl rfl rfl (Nat.le_of_ble_eq_true rfl) ⟨Nat.le_of_ble_eq_true rfl, Nat.le_of_ble_eq_true rfl⟩ (fun _ q => q.elim) (fun _ h => mw_x h) (fun _ h => h) (fun _ _ _ h _ _ => h) dX2_alone_17 ?_
        refine g_ior S (z := (iI ((r ||| (stS se al (2 ^ o.toNat) n.toNat) : Nat) : Int))) dX2_alone_20 (iI_or _ _) ?_
        refine g_istore_n S (lv' := [(1, .int (iI ((r ||| (stS se al (2 ^ o.toNat) n.toNat) : Nat) : Int))), (0, .ref (am 0)), (2, .int (iI o))]) dX2_alone_21 rfl (Nat.le_of_ble_eq_true rfl) rfl ?_
        refine g_iinc S (lv' := [(2, .int (iI (o + 1))), (1, .int (iI ((r ||| (stS se al (2 ^ o.toNat) n.toNat) : Nat) : Int))), (0, .ref (am 0))]) dX2_alone_22 2 rfl (Nat.le_of_ble_eq_true rfl) rfl ?_
        refine g_goto S (tgt := 4) dX2_alone_25 (by decide) ?_
        refine g_lv [2, 1, 0] rfl ?_
        exact ihL4 (o + 1) (r ||| (stS se al (2 ^ o.toNat) n.toNat)) (by omega) (by rw [rS_s _ _ _ ho.1, ← hr]) (by omega)
  refine g_iconst S dX2_alone_0 ?_
  refine g_istore_n S (lv' := [(1, .int (iI 0)), (0, .ref (am 0))]) dX2_alone_1 rfl (Nat.le_of_ble_eq_true rfl) rfl ?_
  refine g_iconst S dX2_alone_2 ?_
  refine g_istore_n S (lv' := [(2, .int (iI 0)), (1, .int (iI 0)), (0, .ref (am 0))]) dX2_alone_3 rfl (Nat.le_of_ble_eq_true rfl) rfl ?_
  refine g_lv [2, 1, 0] rfl ?_
  exact L4 ((n - 0) + 1).toNat 0 0 (by omega) (rfl) (by omega)
