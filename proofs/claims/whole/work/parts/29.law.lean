/-! CALLS THAT ARE COMPARED DIRECTLY; the mean -/
section GLD
variable {p : Program} {l : Launch} {e : Env} {R : Room} {s : State} {m : MethodId} {args : Array Value} {below : List Frame} {meth : Method} {c : Code} {nL : Nat} {A : Nat → Prop} {cells slots : Nat} {Q : State → Prop}
variable {cc : ByteArray} {Ts : List Cond} {own : String} {pc : Nat} {lv lv' : List (Nat × Value)} {st : List Value} {Wp Wp' : Heap → Prop} {E : EN}
theorem g_icmpSame (S : CallFix p m c cc nL s args Ts own) {x : Int32} {off : Int} {tgt : Nat} (hd : decode cc pc = .ok (.if_icmp .eq off, 3)) (ht : (pc : Int) + off = (tgt : Int)) (kk : G p l e R s m args below meth c nL A cells slots Q tgt lv st Wp) : G p l e R s m args below meth c nL A cells slots Q pc lv (.int x :: .int x :: st) Wp :=
  fun H locs ls hl h hS => lv_icmp_eq S.1 S.2.1 hd ht (fun _ => kk H locs ls hl h hS) (fun z => absurd rfl z)
theorem g_dstore (S : CallFix p m c cc nL s args Ts own) {i : Nat} {x : UInt64} (hd : decode cc pc = .ok (.dstore i, 2)) (hn : i + 1 < nL) (hl' : (i, Value.double x) :: lv.filter (fun q => !(q.1 == i) && (!(q.1 == i + 1) && !(q.1 + 1 == i && q.2.category == 2))) = lv') (kk : G p l e R s m args below meth c nL A cells slots Q (pc + 2) lv' st Wp) : G p l e R s m args below meth c nL A cells slots Q pc lv (.double x :: st) Wp :=
  fun H locs ls hl hw hS => lv_dstore S.1 S.2.1 hd hl hn hl' (fun ls' h' => kk H locs ls' h' hw hS)
theorem g_dload (S : CallFix p m c cc nL s args Ts own) {i : Nat} {x : UInt64} (hd : decode cc pc = .ok (.dload i, 2)) (j : Nat) (h : lv[j]? = some (i, .double x)) (kk : G p l e R s m args below meth c nL A cells slots Q (pc + 2) lv (.double x :: st) Wp) : G p l e R s m args below meth c nL A cells slots Q pc lv st Wp :=
  fun H locs ls hl hw hS => lv_dload S.1 S.2.1 hd (lv_at hl j h) (kk H locs ls hl hw hS)
theorem g_dcmp (S : CallFix p m c cc nL s args Ts own) {x y : UInt64} {o : CmpOp} {v : Int32} (hd : decode cc pc = .ok (.dcmp o, 1)) (hv : Op.cmpValue (FP.dcmp x y) o = v) (kk : G p l e R s m args below meth c nL A cells slots Q (pc + 1) lv (.int v :: st) Wp) : G p l e R s m args below meth c nL A cells slots Q pc lv (.double y :: .double x :: st) Wp := by
  subst hv
  exact fun H locs ls hl h hS => lv_dcmp S.1 S.2.1 hd (kk H locs ls hl h hS)
theorem g_ifeqR (S : CallFix p m c cc nL s args Ts own) {x : Int32} {off : Int} {tgt : Nat} (hd : decode cc pc = .ok (.ifCond .eq off, 3)) (ht : (pc : Int) + off = (tgt : Int)) (kt : x = 0 → G p l e R s m args below meth c nL A cells slots Q tgt lv st Wp) (kf : ¬ x = 0 → G p l e R s m args below meth c nL A cells slots Q (pc + 3) lv st Wp) : G p l e R s m args below meth c nL A cells slots Q pc lv (.int x :: st) Wp :=
  fun H locs ls hl h hS => lv_if_eq S.1 S.2.1 hd ht (fun z => kt z H locs ls hl h hS) (fun z => kf z H locs ls hl h hS)
theorem g_ifneR (S : CallFix p m c cc nL s args Ts own) {x : Int32} {off : Int} {tgt : Nat} (hd : decode cc pc = .ok (.ifCond .ne off, 3)) (ht : (pc : Int) + off = (tgt : Int)) (hx : ¬ x = 0) (kt : G p l e R s m args below meth c nL A cells slots Q tgt lv st Wp) : G p l e R s m args below meth c nL A cells slots Q pc lv (.int x :: st) Wp :=
  fun H locs ls hl h hS => lv_if_ne S.1 S.2.1 hd ht (fun _ => kt H locs ls hl h hS) (fun z => by first | exact absurd z hx | exact absurd z (fun w => w hx))
variable {y : MethodName} {bytes : ByteArray} {maxL n index mc ms : Nat} {ret : Option FieldType} {ws : List Cond} {rm : Room} {As stk : List Value} {b ci : Nat} {fs : List Value} {r : vw_C} {W1 W2 : Heap → Prop} {A1 : Nat → Prop} {V : UInt64 → Prop} {d0 : Drawn}
theorem g_callVD (S : CallFix p m c cc nL (s.setDrawn d0) args Ts own) (hd0 : s.drawn.sameBut d0 lw_cs) (hK : KC E (s.setDrawn d0)) (hM : MetD lw_cs l y ws rm (CI E (.ref b :: As) W1) (QD V W2 A1) mc ms A1) (cw : CallW R (s.setDrawn d0) args own r.1 index y bytes maxL ret ws rm mc ms n) (hc : vwCl[ci]? = some r) (hst : stk = As.reverse ++ .ref b :: st) (hn : As.length = n) (hrm : (st.map fun v => v.category).sum ≤ 8) (hcs : cells + mc ≤ R.cells ∧ slots + ms ≤ R.slots) (hA : ∀ q, A1 q → A q) (hb : ∀ H, Wp H → va_at E.1 vwCl (b, .inr (ci, fs)) H) (hW : ∀ H, Wp H → W1 H) (hW2 : ∀ H H', Wp H → W2 H' → H.size ≤ H'.size → (∀ q : Nat, q < H.size → ¬ A1 q → H'[q]? = H[q]?) → Wp' H') (hd : decode cc pc = .ok (.invokevirtual index, 3))
    (kk : ∀ (d1 : Drawn) (v : UInt64), s.drawn.sameBut d1 lw_cs → V v → G p l e R (s.setDrawn d1) m args below meth c nL A (cells + mc) (slots + ms) Q (pc + 3) lv (.double v :: st) Wp') : G p l e R (s.setDrawn d0) m args below meth c nL A cells slots Q pc lv stk Wp := by
  intro H locs ls hl h hS
  refine va_calldD (st0 := stk) (rest := st) hd0 (va_runV_D (As := As) (rest := st) S hM cw ⟨CI_blind, va_recv hK (va1 (hb H h)) (q0 := 0) hc rfl, fun U hU hWm => ⟨rfl, va_K.moved hWm.alike hK, by rw [hU]; exact hW H h⟩⟩ rfl hn hl.1 hst (lv_room hrm) hd hcs) hS (fun q _ hq => hA q hq) (fun q hq => hA q hq) (fun v u t H1 locs1 ht hvm hV hB hz1 hk1 hS1 d1 hd1 => ?_)
  exact kk d1 v hd1 hV H1 locs1 ls hl (hW2 H H1 h (ht ▸ hB) hz1 hk1) hS1
end GLD
theorem nan_dec {x : UInt64} (h : isNaN64 x = true) : FP.Core.decode FP.Core.b64 x.toNat = .nan := by
  have h1 := isNaN64_iff.mp h
  rw [show (0x7fffffffffffffff : Nat) = 2 ^ 63 - 1 by decide, Nat.and_two_pow_sub_one_eq_mod] at h1
  have h2 : FP.Core.fieldE FP.Core.b64 x.toNat = FP.Core.b64.exps - 1 := (show x.toNat / 2 ^ 52 % 2 ^ 11 = 2 ^ 11 - 1 by omega)
  have h3 : ¬ FP.Core.fieldT FP.Core.b64 x.toNat = 0 := (show ¬ x.toNat % 2 ^ 52 = 0 by omega)
  unfold FP.Core.decode
  rw [if_pos h2, if_neg h3]
theorem nan_cmp {x : UInt64} (y : UInt64) (h : isNaN64 x = true) : Op.cmpValue (FP.dcmp x y) .l = -1 := by
  show Op.cmpValue (FP.Core.order (FP.Core.decode FP.Core.b64 x.toNat) (FP.Core.decode FP.Core.b64 y.toNat)) .l = -1
  rw [nan_dec h]
  rfl
theorem mv_two {a b : Int} {x y : UInt64} (h1 : MV a b x) (h2 : MV a b y) : x = y ∨ (isNaN64 x = true ∧ isNaN64 y = true) := by
  unfold MV at h1 h2
  by_cases c : b = 0
  · rw [if_pos c] at h1 h2
    exact Or.inl (h1.trans h2.symm)
  · rw [if_neg c] at h1 h2
    unfold alike64 at h1 h2
    simp only [Bool.or_eq_true, Bool.and_eq_true, decide_eq_true_eq] at h1 h2
    rcases h1 with h1 | h1 <;> rcases h2 with h2 | h2
    · exact Or.inl (h1.trans h2.symm)
    · rw [← h1] at h2; exact Or.inr ⟨h2.2, h2.1⟩
    · rw [← h2] at h1; exact Or.inr ⟨h1.1, h1.2⟩
    · exact Or.inr ⟨h1.1, h2.1⟩
/-- the next turn of the law's loop, whatever the call has made of the worlds -/
def lqK (p : Program) (l : Launch) (e : Env) (s : State) (m : MethodId) (b : Nat) (below : List Frame) (meth : Method) (c : Code) (Q : State → Prop) (E : EN) (ad am : Int → Nat) (ao : Nat) (iz : Int) (cells slots : Nat) : Prop :=
  ∀ (d1 : Drawn) (fo : Int → Int64) (sp : Int → SpT) (se : Int → Int) (al : Int → Nat) (ta : Int → Int) (n pg th : Int) (on : Int → Int), s.drawn.sameBut d1 lw_cs → INV sp se al n pg on → lqG p l e s m b below meth c d1 (cells + 30) (slots + 300) Q 1767 (lvL iz b ao am ad) [] (lqB E ad am ao fo sp se al ta n pg th on)
section SGD
variable {p : Program} {l : Launch} {e : Env} {s : State} {m : MethodId} {below : List Frame} {meth : Method} {c : Code} {d0 : Drawn} {cells slots : Nat} {Q : State → Prop} {E : EN} {ad am : Int → Nat} {ao b L : Nat} {xs : Nat → Int32}
variable {fo : Int → Int64} {sp : Int → SpT} {se : Int → Int} {al : Int → Nat} {ta : Int → Int} {n pg th : Int} {on : Int → Int} {iz w : Int} {P i1 i2 : Nat}
variable {y1 y2 : MethodName} {bytes1 bytes2 : ByteArray} {maxL1 maxL2 mc ms : Nat} {ret1 ret2 : Option FieldType} {ws1 ws2 : List Cond} {rm1 rm2 : Room} {Wc2 : Heap → Prop} {A1 : Nat → Prop}
set_option maxHeartbeats 4000000 in
set_option maxRecDepth 100000 in
theorem sgD (C : lqC p l s m c E ad am ao b L xs) (hd0 : s.drawn.sameBut d0 lw_cs) (I : INV sp se al n pg on) {o : Int} (D : lqDI cL_law P i1 i2 o)
    (hM1 : Met l y1 ws1 rm1 (CI E [.ref (ad 0)] (CW E ad sp se al ta n pg)) (QW (some (.int (iI w))) Wc2 A1) 0 0 A1)
    (cw1 : CallW room_1 (s.setDrawn d0) #[.ref b] RL RX1 i1 y1 bytes1 maxL1 ret1 ws1 rm1 0 0 0)
    (hM2 : Met l y2 ws2 rm2 (CI E [.ref (am 0)] (MW E am th pg n on se al)) (QW (some (.int (iI w))) (MW E am 0 pg n on se al) (AM am)) 0 0 (AM am))
    (cw2 : CallW room_1 (s.setDrawn d0) #[.ref b] RL RX2 i2 y2 bytes2 maxL2 ret2 ws2 rm2 0 0 0)
    (hA1 : ∀ q, A1 q → AX ad q) (hc2 : ∀ H, Wc2 H → ∃ tb, CW E ad sp se al tb n pg H) (hcs : cells + 30 ≤ 601024 ∧ slots + 300 ≤ 7293034)
    (K : lqK p l e s m b below meth c Q E ad am ao iz cells slots) : lqG p l e s m b below meth c d0 cells slots Q P (lvL iz b ao am ad) [] (lqB E ad am ao fo sp se al ta n pg th on) := by
  obtain ⟨CS, hK, hX, hN, hlt, ⟨hj, hjm, hd⟩, ⟨hao, ham⟩, hXs, hbl, hL⟩ := C
  have S := CS d0
  have hK : KC E (s.setDrawn d0) := hK
  refine g_aload_n S D.1 rfl 3 rfl ?_
  refine g_callV S hK (As := []) (st := []) (stk' := [.int (iI w)]) (Wp' := fun H => ∃ tb, lqB E ad am ao fo sp se al tb n pg th on H) (r := (RX1, TX1, 9)) hM1 cw1 rfl rfl rfl rfl (Nat.le_of_ble_eq_true rfl) ⟨show cells + 0 ≤ 601024 by omega, show slots + 0 ≤ 7293034 by omega⟩ (fun q hq => hao q (Or.inl (hA1 q hq))) (fun _ h => cw_x h.1.2.1) (fun _ h => h.1.2.1) (fun _ _ h h2 _ hq => by obtain ⟨tb, h3⟩ := hc2 _ h2; exact ⟨tb, lo_call (Wd := CW E ad sp se al tb n pg) hA1 h.1 h3 hq, mw_keptO hd h.2 (fun q q1 q2 => hq q q1 (fun z => q2 (Or.inl (hA1 q z))))⟩) D.2.1 ?_
  refine g_exU (fun tb => ?_)
  refine g_aload_n S D.2.2.1 rfl 2 rfl ?_
  refine g_callV S hK (As := []) (st := [.int (iI w)]) (stk' := [.int (iI w), .int (iI w)]) (Wp' := lqB E ad am ao fo sp se al tb n pg 0 on) (r := (RX2, TX2, 6)) hM2 cw2 rfl rfl rfl rfl (Nat.le_of_ble_eq_true rfl) ⟨show cells + 0 + 0 ≤ 601024 by omega, show slots + 0 + 0 ≤ 7293034 by omega⟩ ham (fun _ h => mw_x h.2) (fun _ h => h.2) (fun _ _ h h2 _ hq => ⟨lo_keptM hd h.1 hq, h2⟩) D.2.2.2.1 ?_
  refine g_icmpSame S (tgt := 1767) D.2.2.2.2.1 D.2.2.2.2.2 ?_
  exact g_wid (k := cells + 30) (n := slots + 300) (by omega) (by omega) (K d0 _ _ _ _ _ _ _ _ _ hd0 I)
set_option maxHeartbeats 4000000 in
set_option maxRecDepth 100000 in
theorem ca_30 (C : lqC p l s m c E ad am ao b L xs) (hd0 : s.drawn.sameBut d0 lw_cs) (I : INV sp se al n pg on) (hcs : cells + 30 ≤ 601024 ∧ slots + 300 ≤ 7293034)
    (K : lqK p l e s m b below meth c Q E ad am ao iz cells slots) : lqG p l e s m b below meth c d0 cells slots Q 1753 (lvL iz b ao am ad) [] (lqB E ad am ao fo sp se al ta n pg th on) := by
  obtain ⟨CS, hK, hX, hN, hlt, ⟨hj, hjm, hd⟩, ⟨hao, ham⟩, hXs, hbl, hL⟩ := C
  have S := CS d0
  have hK : KC E (s.setDrawn d0) := hK
  refine g_aload_n S dL_law_1753 rfl 3 rfl ?_
  refine g_callV S hK (As := []) (st := []) (stk' := [.long (dgA sp se al n (dgL 2113 (TLS sp se al n pg)) n.toNat)]) (Wp' := fun H => ∃ tb, lqB E ad am ao fo sp se al tb n pg th on H) (r := (RX1, TX1, 9)) (m_X1_digest l E hj sp se al ta n pg I.hn I.hpg I.hsp I.hgr) (cwV 0 S.2.2.2.2 gL_law_X1_digest rfl rfl rfl (by decide +kernel) ⟨Nat.le_of_ble_eq_true rfl, Nat.le_of_ble_eq_true rfl⟩) rfl rfl rfl rfl (Nat.le_of_ble_eq_true rfl) ⟨show cells + 0 ≤ 601024 by omega, show slots + 0 ≤ 7293034 by omega⟩ (fun q hq => hao q (Or.inl hq)) (fun _ h => cw_x h.1.2.1) (fun _ h => h.1.2.1) (fun _ _ h h2 _ hq => by obtain ⟨tb, h3⟩ := h2; exact ⟨tb, lo_call (Wd := CW E ad sp se al tb n pg) (fun _ z => z) h.1 h3 hq, mw_keptO hd h.2 (fun q q1 q2 => hq q q1 (fun z => q2 (Or.inl z)))⟩) dL_law_1754 ?_
  refine g_exU (fun tb => ?_)
  refine g_aload_n S dL_law_1757 rfl 2 rfl ?_
  refine g_callV S hK (As := []) (st := [.long (dgA sp se al n (dgL 2113 (TLS sp se al n pg)) n.toNat)]) (stk' := [.long (dgA sp se al n (dgL 2113 (TLS sp se al n pg)) n.toNat), .long (dgA sp se al n (dgL 2113 (TLS sp se al n pg)) n.toNat)]) (Wp' := lqB E ad am ao fo sp se al tb n pg 0 on) (r := (RX2, TX2, 6)) (m_X2_digest l E hjm th pg n on se al sp I.hn I.hpg I.hrl I.hsp I.hon I.hgr) (cwV 0 S.2.2.2.2 gL_law_X2_digest rfl rfl rfl (by decide +kernel) ⟨Nat.le_of_ble_eq_true rfl, Nat.le_of_ble_eq_true rfl⟩) rfl rfl rfl rfl (Nat.le_of_ble_eq_true rfl) ⟨show cells + 0 + 25 ≤ 601024 by omega, show slots + 0 + 198 ≤ 7293034 by omega⟩ ham (fun _ h => mw_x h.2) (fun _ h => h.2) (fun _ _ h h2 _ hq => ⟨lo_keptM hd h.1 hq, h2⟩) dL_law_1758 ?_
  refine g_lcmpEq S (tgt := 1767) dL_law_1761 dL_law_1762 (by decide) ?_
  exact g_wid (k := cells + 30) (n := slots + 300) (by omega) (by omega) (K d0 _ _ _ _ _ _ _ _ _ hd0 I)
set_option maxHeartbeats 4000000 in
set_option maxRecDepth 100000 in
theorem ca_29 (C : lqC p l s m c E ad am ao b L xs) (hd0 : s.drawn.sameBut d0 lw_cs) (I : INV sp se al n pg on) (hcs : cells + 30 ≤ 601024 ∧ slots + 300 ≤ 7293034)
    (K : lqK p l e s m b below meth c Q E ad am ao iz cells slots) : lqG p l e s m b below meth c d0 cells slots Q 1712 (lvL iz b ao am ad) [] (lqB E ad am ao fo sp se al ta n pg th on) := by
  obtain ⟨CS, hK, hX, hN, hlt, ⟨hj, hjm, hd⟩, ⟨hao, ham⟩, hXs, hbl, hL⟩ := C
  have S := CS d0
  have hK1 : KC E (s.setDrawn d0) := hK
  refine g_aload_n S dL_law_1712 rfl 3 rfl ?_
  refine g_callVD S hd0 hK1 (As := []) (st := []) (Wp' := lqB E ad am ao fo sp se al ta n pg th on) (r := (RX1, TX1, 9)) (m_X1_meanPages l E hj sp se al ta n pg I.hn I.hpg I.hsp) (cwV 0 S.2.2.2.2 gL_law_X1_meanPages rfl rfl rfl (by decide +kernel) ⟨Nat.le_of_ble_eq_true rfl, Nat.le_of_ble_eq_true rfl⟩) rfl rfl rfl (Nat.le_of_ble_eq_true rfl) ⟨show cells + 0 ≤ 601024 by omega, show slots + 0 ≤ 7293034 by omega⟩ (fun q hq => hq.elim) (fun _ h => cw_x h.1.2.1) (fun _ h => h.1.2.1) (fun _ _ h h2 _ hq => ⟨lo_call (fun _ z => z.elim) h.1 h2 hq, mw_keptO hd h.2 (fun q q1 _ => hq q q1 (fun z => z))⟩) dL_law_1713 (fun d1 v1 hd1 hv1 => ?_)
  have S := CS d1
  have hK2 : KC E (s.setDrawn d1) := hK
  refine g_dstore S (lv' := (5, .double v1) :: lvL iz b ao am ad) dL_law_1716 (Nat.le_of_ble_eq_true rfl) rfl ?_
  refine g_aload_n S dL_law_1718 rfl 3 rfl ?_
  refine g_callVD S hd1 hK2 (As := []) (st := []) (Wp' := lqB E ad am ao fo sp se al ta n pg 0 on) (r := (RX2, TX2, 6)) (m_X2_meanPages l E hjm th pg n on se al sp I.hn I.hpg I.hrl I.hsp I.hon) (cwV 0 S.2.2.2.2 gL_law_X2_meanPages rfl rfl rfl (by decide +kernel) ⟨Nat.le_of_ble_eq_true rfl, Nat.le_of_ble_eq_true rfl⟩) rfl rfl rfl (Nat.le_of_ble_eq_true rfl) ⟨show cells + 0 + 0 ≤ 601024 by omega, show slots + 0 + 0 ≤ 7293034 by omega⟩ ham (fun _ h => mw_x h.2) (fun _ h => h.2) (fun _ _ h h2 _ hq => ⟨lo_keptM hd h.1 hq, h2⟩) dL_law_1719 (fun d2 v2 hd2 hv2 => ?_)
  have S := CS d2
  refine g_dstore S (lv' := (7, .double v2) :: (5, .double v1) :: lvL iz b ao am ad) dL_law_1722 (Nat.le_of_ble_eq_true rfl) rfl ?_
  have kend : lqG p l e s m b below meth c d2 (cells + 0 + 0) (slots + 0 + 0) Q 1750 ((7, .double v2) :: (5, .double v1) :: lvL iz b ao am ad) [] (lqB E ad am ao fo sp se al ta n pg 0 on) := by
    refine g_goto S (tgt := 1767) dL_law_1750 (by decide) ?_
    exact g_lv [2, 3, 4, 5, 6] rfl (g_wid (k := cells + 30) (n := slots + 300) (by omega) (by omega) (K d2 _ _ _ _ _ _ _ _ _ hd2 I))
  have kgo : ∀ v : Int32, Op.cmpValue (FP.dcmp v1 v2) .l = v → Op.cmpValue (FP.dcmp v1 v1) .l = v → Op.cmpValue (FP.dcmp v2 v2) .l = v → lqG p l e s m b below meth c d2 (cells + 0 + 0) (slots + 0 + 0) Q 1724 ((7, .double v2) :: (5, .double v1) :: lvL iz b ao am ad) [] (lqB E ad am ao fo sp se al ta n pg 0 on) := by
    intro v e1 e2 e3
    refine g_dload S dL_law_1724 1 rfl ?_
    refine g_dload S dL_law_1726 0 rfl ?_
    refine g_dcmp S dL_law_1728 e1 ?_
    refine g_ifeqR S (tgt := 1750) dL_law_1729 (by decide) (fun _ => kend) (fun hv => ?_)
    refine g_dload S dL_law_1732 1 rfl ?_
    refine g_dload S dL_law_1734 1 rfl ?_
    refine g_dcmp S dL_law_1736 e2 ?_
    refine g_ifeqR S (tgt := 1748) dL_law_1737 (by decide) (fun z => absurd z hv) (fun _ => ?_)
    refine g_dload S dL_law_1740 0 rfl ?_
    refine g_dload S dL_law_1742 0 rfl ?_
    refine g_dcmp S dL_law_1744 e3 ?_
    exact g_ifneR S (tgt := 1750) dL_law_1745 (by decide) hv kend
  rcases mv_two hv1 hv2 with q | ⟨q1, q2⟩
  · subst q
    exact kgo _ rfl rfl rfl
  · exact kgo (-1) (nan_cmp v2 q1) (nan_cmp v1 q1) (nan_cmp v2 q2)
end SGD
