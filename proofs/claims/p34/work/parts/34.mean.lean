/-! THE MEAN, as one number: a quotient of two counts is no NaN -/
theorem dd_bits {r : UInt64} (h : FP.Core.dIsNaN r = false) : vf_n64 r := by
  have w : ¬ 9218868437227405312 < r.toNat % 2 ^ 63 := fun z => by
    rw [(FP.Core.isNaN_bits r).mpr z] at h
    cases h
  show r &&& 0x7fffffffffffffff ≤ 0x7ff0000000000000
  rw [UInt64.le_iff_toNat_le, UInt64.toNat_and]
  have e : (0x7fffffffffffffff : UInt64).toNat = 2 ^ 63 - 1 := rfl
  have e2 : (0x7ff0000000000000 : UInt64).toNat = 9218868437227405312 := rfl
  rw [e, e2, Nat.and_two_pow_sub_one_eq_mod]
  omega
theorem dd_nn {a b : Int32} (hb : ¬ b = 0) : FP.Core.dIsNaN (FP.Core.ddiv (FP.Core.i2d a) (FP.Core.i2d b)) = false := by
  have hz : ¬ FP.Core.DZero (FP.Core.i2d b) := fun z => FP.Core.i2d_ne_zero hb ((FP.Core.zero_bits2 _).mp z)
  have hf := FP.Core.i2d_fin a
  have ha : FP.Core.dIsNaN (FP.Core.i2d a) = false := by
    rw [FP.Core.notNaN_iff]
    obtain ⟨s, c, q, h⟩ := hf
    rw [h]
    exact fun z => by cases z
  exact FP.Core.ddiv_out ha (FP.Core.i2d_fin b) hz
theorem dd_num {a b : Int32} (hb : ¬ b = 0) : vf_n64 (FP.ddiv (FP.i2d a) (FP.i2d b)) := dd_bits (dd_nn hb)
theorem dd_cmp {a b : Int32} (hb : ¬ b = 0) : FP.dcmp (FP.ddiv (FP.i2d a) (FP.i2d b)) (FP.ddiv (FP.i2d a) (FP.i2d b)) = some .eq := FP.Core.dcmp_self ((FP.Core.notNaN_iff _).mp (dd_nn hb))
theorem dd_cmp0 : FP.dcmp 0 0 = some .eq := by decide +kernel
noncomputable def MEANV (sp : Int → SpT) (n : Int) : UInt64 := if CNTP sp n = 0 then 0 else FP.ddiv (FP.i2d (iI (SUMP sp n))) (FP.i2d (iI (CNTP sp n)))
theorem mean_cmp {sp : Int → SpT} {n : Int} (hn : 0 ≤ n ∧ n ≤ 24) : FP.dcmp (MEANV sp n) (MEANV sp n) = some .eq := by
  unfold MEANV
  by_cases c : CNTP sp n = 0
  · rw [if_pos c]; exact dd_cmp0
  · rw [if_neg c]
    have w : 0 ≤ CNTP sp n ∧ CNTP sp n ≤ n := smI_01 (f := fun i => pI (0 < PGS (sp i))) hn.1 (fun _ _ _ => pI_b _)
    exact dd_cmp (by rw [← iI_0]; exact fun z => c ((iI_eq (by omega)).mp z))
section GDX
variable {p : Program} {l : Launch} {e : Env} {R : Room} {s : State} {m : MethodId} {args : Array Value} {below : List Frame} {meth : Method} {c : Code} {nL : Nat} {A : Nat → Prop} {cells slots : Nat} {Q : State → Prop}
variable {cc : ByteArray} {Ts : List Cond} {own : String} {pc : Nat} {lv lv' : List (Nat × Value)} {st : List Value} {Wp Wp' : Heap → Prop} {E : EN}
theorem g_ddivX {x y : UInt64} (S : CallFix p m c cc nL s args Ts own) (hne : vf_n64 (FP.ddiv x y)) (hd : decode cc pc = .ok (.ddiv, 1)) (kk : G p l e R s m args below meth c nL A cells slots Q (pc + 1) lv (.double (FP.ddiv x y) :: st) Wp) : G p l e R s m args below meth c nL A cells slots Q pc lv (.double y :: .double x :: st) Wp :=
  fun H locs ls hl h hS => lv_ddiv S.1 S.2.1 hd hne (kk H locs ls hl h hS)
theorem g_dretX {x : UInt64} (S : CallFix p m c cc nL s args Ts own) (hr : meth.sig.returnType = some .double) (hlocks : meth.locks = false) (hd : decode cc pc = .ok (.dreturn, 1)) (hW : ∀ H, Wp H → Wp' H) : G p l e R s m args below meth c nL A cells slots (MQ below (QW (some (.double x)) Wp' A) args s cells slots A) pc lv [.double x] Wp :=
  fun H locs ls hl h hS => W.dret S.1 S.2.1 hr (fun t ht _ => ⟨rfl, ht ▸ hW H h, hS.F ht⟩) hS.2.2 hd hlocks
/-- two doubles that are the same, and no NaN -/
theorem g_dcmpE {x y : UInt64} (S : CallFix p m c cc nL s args Ts own) (h : x = y) (hc : FP.dcmp y y = some .eq) (hd : decode cc pc = .ok (.dcmp .l, 1)) (kk : G p l e R s m args below meth c nL A cells slots Q (pc + 1) lv (.int (iI 0) :: st) Wp) : G p l e R s m args below meth c nL A cells slots Q pc lv (.double y :: .double x :: st) Wp := by
  subst h
  intro H locs ls hl hw hS
  refine lv_dcmp S.1 S.2.1 hd ?_
  rw [hc]
  exact kk H locs ls hl hw hS
end GDX
set_option maxHeartbeats 4000000 in
set_option maxRecDepth 100000 in
theorem m_X1_meanX (l : Launch) (E : EN) {ad : Int → Nat} (hj : INJ ad) (sp : Int → SpT) (se : Int → Int) (al : Int → Nat) (ta : Int → Int) (n pg : Int) (hn : 0 ≤ n ∧ n ≤ 24) (hpg : 1 ≤ pg ∧ pg ≤ 300) (hsp : SPV sp n pg) : Met l yX1_meanPages wsX1_meanPages ({ frames := 2, cells := 0, slots := 0, locals := 43 }) (CI E [.ref (ad 0)] (CW E ad sp se al ta n pg)) (QW (some (.double (MEANV sp n))) (CW E ad sp se al ta n pg) (fun _ => False)) 0 0 (fun _ => False) := by
  refine g_met (cc := cX1_meanPages) (maxL := 5) (ret := (some .double)) (lv := [(0, .ref (ad 0))]) (by decide) rfl (Nat.le_of_ble_eq_true rfl) rfl ?_
  intro xp xe xs xm xa xb xh xc S xK xr xlk xin
  have kf36 := S.2.2.2.2 (.fieldLink RX1 36 "BookIndex" "headingCount" "I") (by decide +kernel)
  have hin1 : ∀ w ∈ wsX10, w ∈ wsX1_meanPages := by decide +kernel
  have L6 : ∀ (nf : Nat) (o : Int) (t : Int) (w : Int), (0 ≤ o ∧ o ≤ n) → (t = smI (fun i => PGS (sp i)) o.toNat) → (w = smI (fun i => pI (0 < PGS (sp i))) o.toNat) → (n - o < (nf : Int)) → G xp l xe ({ frames := 2, cells := 0, slots := 0, locals := 43 }) xs xm xa xb xh xc 5 (fun _ => False) 0 0 (MQ xb (QW (some (.double (MEANV sp n))) (CW E ad sp se al ta n pg) (fun _ => False)) xa xs 0 0 (fun _ => False)) 6 [(0, .ref (ad 0)), (1, .int (iI t)), (2, .int (iI w)), (3, .int (iI o))] [] (CW E ad sp se al ta n pg) := by
    intro nf
    induction nf with
    | zero =>
      intro o t w ho ht hw hmf
      exfalso
      omega
    | succ nf ihL6 =>
      intro o t w ho ht hw hmf
      have bw := smI_01 (f := fun i => pI (0 < PGS (sp i))) ho.1 (fun _ _ _ => pI_b _)
      rw [← hw] at bw
      refine g_iload_n S dX1_meanPages_6 rfl 3 rfl ?_
      refine g_aload_n S dX1_meanPages_7 rfl 0 rfl ?_
      refine g_get S xK (ref := "BookIndex") hin1 7 (by decide) (show vwCl[1]? = some (RX1, TX1, 9) from rfl) kf36 (fun _ h9 => h9) (fun _ h => cw_x h) rfl dX1_meanPages_8 ?_
      refine g_icmp_ge S (tgt := 43) dX1_meanPages_11 (by decide) (by omega) (fun c11 => ?_) (fun c11 => ?_)
      · skip
        refine g_iload_n S dX1_meanPages_43 rfl 2 rfl ?_
        refine g_if_ne S (tgt := 51) dX1_meanPages_44 (by decide) (by omega) (fun c44 => ?_) (fun c44 => ?_)
        · skip
          refine g_iload_n S dX1_meanPages_51 rfl 1 rfl ?_
          refine g_i2d S dX1_meanPages_52 ?_
          refine g_iload_n S dX1_meanPages_53 rfl 2 rfl ?_
          refine g_i2d S dX1_meanPages_54 ?_
          have e1 : SUMP sp n = t := (by rw [ht, show o = n by omega])
          have e2 : CNTP sp n = w := (by rw [hw, show o = n by omega])
          refine g_ddivX S (dd_num (by rw [← iI_0]; exact fun z => c44 ((iI_eq (by omega)).mp z))) dX1_meanPages_55 ?_
          rw [show MEANV sp n = FP.ddiv (FP.i2d (iI t)) (FP.i2d (iI w)) from by unfold MEANV; rw [e1, e2, if_neg c44]]
          exact g_dretX S xr xlk dX1_meanPages_56 (fun _ h => h)
        · skip
          refine g_dconst0 S dX1_meanPages_47 ?_
          refine g_goto S (tgt := 56) dX1_meanPages_48 (by decide) ?_
          have e2 : CNTP sp n = w := (by rw [hw, show o = n by omega])
          rw [show MEANV sp n = 0 from by unfold MEANV; rw [e2, if_pos c44]]
          exact g_dretX S xr xlk dX1_meanPages_56 (fun _ h => h)
      · skip
        refine g_aload_n S dX1_meanPages_14 rfl 0 rfl ?_
        refine g_iload_n S dX1_meanPages_15 rfl 3 rfl ?_
        refine g_callV S xK (As := [.int (iI o)]) (st := []) (stk' := [.ref (ad (5 + 3 * o))]) (Wp' := CW E ad sp se al ta n pg) (r := (RX1, TX1, 9)) (m_X1_spansAt l E hj sp se al ta n pg o (by omega) hn) (cwV 1 S.2.2.2.2 gX1_meanPages_X1_spansAt rfl rfl rfl (by decide +kernel) ⟨Nat.le_of_ble_eq_true rfl, Nat.le_of_ble_eq_true rfl⟩) rfl rfl rfl rfl (Nat.le_of_ble_eq_true rfl) ⟨Nat.le_of_ble_eq_true rfl, Nat.le_of_ble_eq_true rfl⟩ (fun _ q => q.elim) (fun _ h => cw_x h) (fun _ h => h) (fun _ _ _ h _ _ => h) dX1_meanPages_16 ?_
        refine g_callV S xK (As := []) (st := []) (stk' := [.int (iI (smI (fun k => (sp o).2.2 k - (sp o).2.1 k + 1) ((sp o).1).toNat))]) (Wp' := CW E ad sp se al ta n pg) (r := (RX0, TX0, 3)) (m_X0_pages l E hj sp se al ta n pg o (by omega) (sp o) (rfl) (vl_wb (by omega) (hsp o (by omega) (by omega)).1)) (cwV 0 S.2.2.2.2 gX1_meanPages_X0_pages rfl rfl rfl (by decide +kernel) ⟨Nat.le_of_ble_eq_true rfl, Nat.le_of_ble_eq_true rfl⟩) rfl rfl rfl rfl (Nat.le_of_ble_eq_true rfl) ⟨Nat.le_of_ble_eq_true rfl, Nat.le_of_ble_eq_true rfl⟩ (fun _ q => q.elim) (fun _ h => cw_o (i := o) h (by omega) (rfl)) (fun _ h => h) (fun _ _ _ h _ _ => h) dX1_meanPages_19 ?_
        rw [show smI (fun k => (sp o).2.2 k - (sp o).2.1 k + 1) ((sp o).1).toNat = PGS (sp o) from rfl]
        refine g_istore S (lv' := [(4, .int (iI (PGS (sp o)))), (0, .ref (ad 0)), (1, .int (iI t)), (2, .int (iI w)), (3, .int (iI o))]) dX1_meanPages_22 (Nat.le_of_ble_eq_true rfl) rfl ?_
        refine g_iload S dX1_meanPages_24 0 rfl ?_
        have b26 := pgs_b (hsp o (by omega) (by omega)).1 (pg := pg) (by omega)
        refine g_if_le S (tgt := 37) dX1_meanPages_26 (by decide) (by omega) (fun c26 => ?_) (fun c26 => ?_)
        · skip
          refine g_iinc S (lv' := [(3, .int (iI (o + 1))), (4, .int (iI (PGS (sp o)))), (0, .ref (ad 0)), (1, .int (iI t)), (2, .int (iI w))]) dX1_meanPages_37 4 rfl (Nat.le_of_ble_eq_true rfl) rfl ?_
          refine g_goto S (tgt := 6) dX1_meanPages_40 (by decide) ?_
          refine g_lv [2, 3, 4, 0] rfl ?_
          exact ihL6 (o + 1) t w (by omega) (by rw [smI_s _ ho.1, ← ht]; omega) (by rw [smI_s _ ho.1, ← hw, pI_f (by omega)]; omega) (by omega)
        · skip
          refine g_iload_n S dX1_meanPages_29 rfl 2 rfl ?_
          refine g_iload S dX1_meanPages_30 0 rfl ?_
          refine g_iadd S dX1_meanPages_32 ?_
          refine g_istore_n S (lv' := [(1, .int (iI (t + PGS (sp o)))), (4, .int (iI (PGS (sp o)))), (0, .ref (ad 0)), (2, .int (iI w)), (3, .int (iI o))]) dX1_meanPages_33 rfl (Nat.le_of_ble_eq_true rfl) rfl ?_
          refine g_iinc S (lv' := [(2, .int (iI (w + 1))), (1, .int (iI (t + PGS (sp o)))), (4, .int (iI (PGS (sp o)))), (0, .ref (ad 0)), (3, .int (iI o))]) dX1_meanPages_34 3 rfl (Nat.le_of_ble_eq_true rfl) rfl ?_
          refine g_iinc S (lv' := [(3, .int (iI (o + 1))), (2, .int (iI (w + 1))), (1, .int (iI (t + PGS (sp o)))), (4, .int (iI (PGS (sp o)))), (0, .ref (ad 0))]) dX1_meanPages_37 4 rfl (Nat.le_of_ble_eq_true rfl) rfl ?_
          refine g_goto S (tgt := 6) dX1_meanPages_40 (by decide) ?_
          refine g_lv [4, 2, 1, 0] rfl ?_
          exact ihL6 (o + 1) (t + PGS (sp o)) (w + 1) (by omega) (by rw [smI_s _ ho.1, ← ht]) (by rw [smI_s _ ho.1, ← hw, pI_t (by omega)]) (by omega)
  refine g_iconst S dX1_meanPages_0 ?_
  refine g_istore_n S (lv' := [(1, .int (iI 0)), (0, .ref (ad 0))]) dX1_meanPages_1 rfl (Nat.le_of_ble_eq_true rfl) rfl ?_
  refine g_iconst S dX1_meanPages_2 ?_
  refine g_istore_n S (lv' := [(2, .int (iI 0)), (1, .int (iI 0)), (0, .ref (ad 0))]) dX1_meanPages_3 rfl (Nat.le_of_ble_eq_true rfl) rfl ?_
  refine g_iconst S dX1_meanPages_4 ?_
  refine g_istore_n S (lv' := [(3, .int (iI 0)), (2, .int (iI 0)), (1, .int (iI 0)), (0, .ref (ad 0))]) dX1_meanPages_5 rfl (Nat.le_of_ble_eq_true rfl) rfl ?_
  refine g_lv [3, 2, 1, 0] rfl ?_
  exact L6 ((n - 0) + 1).toNat 0 0 0 (by omega) (rfl) (rfl) (by omega)
theorem q_meanPages (l : Launch) (E : EN) {ad : Int → Nat} (hj : INJ ad) {sp : Int → SpT} {se : Int → Int} {al : Int → Nat} {n pg : Int} (J : JV sp se al n pg) : Met l yX1_meanPages wsX1_meanPages ({ frames := 2, cells := 0, slots := 0, locals := 43 }) (CI E [.ref (ad 0)] (CA E ad sp se al n pg)) (QW (some (.double (MEANV sp n))) (CA E ad sp se al n pg) (AX ad)) 0 0 (AX ad) := by
  refine met_exi (P := fun x : (Int → SpT) × (Int → Int) => SE x.1 sp 24) (W := fun x => CW E ad x.1 se al x.2 n pg) (fun x hx => ?_)
  have J1 := J.toSE hx
  have hxn : SE x.1 sp n := hx.mono J.hn.2
  exact met_up (m_X1_meanX l E hj x.1 se al x.2 n pg J1.hn J1.hpg J1.hsp) (by rw [show MEANV x.1 n = MEANV sp n from by unfold MEANV; rw [hxn.sump, hxn.cntp]]) (fun _ h => CA.of h hx) (fun _ q => q.elim)
