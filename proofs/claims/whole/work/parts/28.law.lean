/-! THE LAW'S OWN ROWS -/
/-- what depends on the index's cells alone -/
def lqP (ad : Int → Nat) (Wc : Heap → Prop) : Prop := ∀ H H' : Heap, Wc H → (∀ k : Int, 0 ≤ k ∧ k < 86 → ad k < H.size → H'[ad k]? = H[ad k]?) → Wc H'
theorem kpt_cw {E : EN} {ad : Int → Nat} {sp : Int → SpT} {se : Int → Int} {al : Int → Nat} {ta : Int → Int} {n pg : Int} : lqP ad (CW E ad sp se al ta n pg) :=
  fun _ _ h hq => cw_kept h (fun k hk => hq k hk (cw_lt h hk))
/-- the index's cells, the model's and the answer's are apart -/
def lqJ (ad am : Int → Nat) (ao : Nat) : Prop := (∀ k j : Int, 0 ≤ k → k < 86 → 0 ≤ j → j < 4 → ad k ≠ am j) ∧ ∀ j : Int, 0 ≤ j → j < 4 → am j ≠ ao
theorem dj_m {ad am : Int → Nat} {ao : Nat} (h : lqJ ad am ao) {j : Int} (hj : 0 ≤ j ∧ j < 4) : ¬ AO ad ao (am j) := by
  rintro (⟨k, k0, k1, k2⟩ | z)
  · exact h.1 k j k0 k1 hj.1 hj.2 k2.symm
  · exact h.2 j hj.1 hj.2 z
theorem dj_d {ad am : Int → Nat} {ao : Nat} (h : lqJ ad am ao) {k : Int} (hk : 0 ≤ k ∧ k < 86) : ¬ AM am (ad k) := by
  rintro ⟨j, j0, j1, j2⟩
  exact h.1 k j hk.1 hk.2 j0 j1 j2
theorem dj_o {ad am : Int → Nat} {ao : Nat} (h : lqJ ad am ao) : ¬ AM am ao := by
  rintro ⟨j, j0, j1, j2⟩
  exact h.2 j j0 j1 j2.symm
theorem mw_keptO {E : EN} {ad am : Int → Nat} {ao : Nat} {th pg n : Int} {on se : Int → Int} {al : Int → Nat} {H H' : Heap} (hd : lqJ ad am ao) (h : MW E am th pg n on se al H) (hq : ∀ q : Nat, q < H.size → ¬ AO ad ao q → H'[q]? = H[q]?) : MW E am th pg n on se al H' :=
  mw_kept h (fun k hk => hq (am k) (mw_lt h hk) (dj_m hd hk))
theorem lo_keptM {E : EN} {ad am : Int → Nat} {ao : Nat} {fo : Int → Int64} {sp : Int → SpT} {se : Int → Int} {al : Int → Nat} {ta : Int → Int} {n pg : Int} {H H' : Heap} (hd : lqJ ad am ao) (h : LO E ad ao fo (CW E ad sp se al ta n pg) H) (hq : ∀ q : Nat, q < H.size → ¬ AM am q → H'[q]? = H[q]?) : LO E ad ao fo (CW E ad sp se al ta n pg) H' :=
  ⟨h.1, cw_kept h.2.1 (fun k hk => hq (ad k) (cw_lt h.2.1 hk) (dj_d hd hk)), h.2.2.kept (hq ao h.2.2.lt (dj_o hd))⟩
section GLW
variable {p : Program} {l : Launch} {e : Env} {R : Room} {s : State} {m : MethodId} {args : Array Value} {below : List Frame} {meth : Method} {c : Code} {nL : Nat} {A : Nat → Prop} {cells slots : Nat} {Q : State → Prop}
variable {cc : ByteArray} {Ts : List Cond} {own : String} {pc : Nat} {lv lv' : List (Nat × Value)} {st : List Value} {Wp Wp' : Heap → Prop} {E : EN}
theorem g_scr (S : CallFix p m c cc nL s args Ts own) {b L : Nat} {xs : Nat → Int32} (hX : va_X b L xs s s.heap) (hbl : b < s.heap.size) (hbA : ¬ A b) {i k : Int} {j0 j4 : Nat} (D : lqSC cc pc k) (h0 : lv[j0]? = some (0, .ref b)) (h4 : lv[j4]? = some (4, .int (iI i))) (hk : 0 ≤ i + k ∧ i + k < L) (hL : L ≤ 2048)
    (kk : G p l e R s m args below meth c nL A cells slots Q (pc + 6) lv (.int (iI (xs (i + k).toNat).toInt) :: st) Wp) : G p l e R s m args below meth c nL A cells slots Q pc lv st Wp := by
  refine g_aload_n S D.1 rfl j0 h0 ?_
  refine g_iload S D.2.1 j4 h4 ?_
  refine g_iconst S D.2.2.1 ?_
  refine g_iadd S D.2.2.2.1 ?_
  intro H locs ls hl h hS
  refine va_sld S.1 S.2.1 hX hbl hbA hS (iI_in hk (by omega)) D.2.2.2.2 ?_
  have z := kk H locs ls hl h hS
  rw [iI_of] at z
  rw [iI_cl (by omega) (by omega)]
  exact z
variable {y : MethodName} {bytes : ByteArray} {maxL n index mc ms bs : Nat} {ret : Option FieldType} {hh : List (Nat × Nat × Nat × Nat)} {ws : List Cond} {rm : Room} {As stk stk' : List Value} {ov : Option Value} {W1 W2 : Heap → Prop} {A1 : Nat → Prop}
theorem g_callSL (S : CallFix p m c cc nL s args Ts own) (hK : KC E s) (hX : TX bs s) (hN : NX s) (hAb : ∀ q, A q → bs ≤ q) (hM : Met l y ws rm (CL E bs As W1) (QW ov W2 A1) mc ms A1) (cw : vx_CSW R s args own index y bytes maxL ret hh ws rm mc ms n) (hst : stk = As.reverse ++ st) (hst2 : ov.toList ++ st = stk') (hn : As.length = n) (hrm : (st.map fun v => v.category).sum ≤ 8) (hcs : cells + mc ≤ R.cells ∧ slots + ms ≤ R.slots) (hA : ∀ q, A1 q → A q) (hW : ∀ H, Wp H → W1 H) (hW2 : ∀ H H', Wp H → W2 H' → H.size ≤ H'.size → (∀ q : Nat, q < H.size → ¬ A1 q → H'[q]? = H[q]?) → Wp' H') (hd : decode cc pc = .ok (.invokestatic index, 3)) (kk : G p l e R s m args below meth c nL A (cells + mc) (slots + ms) Q (pc + 3) lv stk' Wp') : G p l e R s m args below meth c nL A cells slots Q pc lv stk Wp := by
  intro H locs ls hl h hS T hT X
  obtain ⟨v, st₀, t, T', L, h0, X', hL, e1, e2, ⟨hv, hw2, hF⟩, stp⟩ := vx_runSW (H := H) (g := F0 m pc ls stk) (rest := st) S hM cw ⟨CL_blind, fun U hU hWm => ⟨rfl, va_K.moved hWm.alike hK, by rw [hU]; exact hW H h, TX_go hX hAb hS hU hWm, NX.moved hWm.alike hN⟩⟩ rfl hn hl.1 hst (lv_room hrm) hd hcs T hT X
  cases hv
  obtain ⟨k1, k2, k3⟩ := vx_keep h0 e1 hS (fun q _ hq => hA q hq) hA hL hF
  obtain ⟨t2, a1, b1⟩ := kk T'.heap (locs ++ L) ls hl (hW2 H T'.heap h (e1 ▸ hw2) k1 k2) k3 T' rfl X'
  refine ⟨t2, stp t2 ?_, b1⟩
  rw [← hst2] at a1
  exact a1
theorem g_lcmpEq (S : CallFix p m c cc nL s args Ts own) {x : Int64} {off : Int} {tgt : Nat} (hd : decode cc pc = .ok (.lcmp, 1)) (hd2 : decode cc (pc + 1) = .ok (.ifCond .eq off, 3)) (ht : ((pc + 1 : Nat) : Int) + off = (tgt : Int)) (kk : G p l e R s m args below meth c nL A cells slots Q tgt lv st Wp) : G p l e R s m args below meth c nL A cells slots Q pc lv (.long x :: .long x :: st) Wp := by
  intro H locs ls hl h hS
  refine W.lcmp S.1 S.2.1 hd ?_
  have e : lg_cmp x x = 0 := by simp [lg_cmp]
  rw [e]
  exact lv_if_eq S.1 S.2.1 hd2 ht (fun _ => kk H locs ls hl h hS) (fun z => absurd rfl z)
end GLW
/-- what stays over the whole law -/
def lqC (p : Program) (l : Launch) (s : State) (m : MethodId) (c : Code) (E : EN) (ad am : Int → Nat) (ao b L : Nat) (xs : Nat → Int32) : Prop :=
  (∀ d : Drawn, CallFix p m c cL_law 9 (s.setDrawn d) #[.ref b] wsL_law RL) ∧ KC E s ∧ TX s.heap.size s ∧ NX s ∧ l.stackTraces = false ∧ (INJ ad ∧ INM am ∧ lqJ ad am ao) ∧ ((∀ q, AO ad ao q → s.heap.size ≤ q) ∧ ∀ q, AM am q → s.heap.size ≤ q) ∧ va_X b L xs s s.heap ∧ b < s.heap.size ∧ L ≤ 2048
abbrev lvL (i : Int) (b ao : Nat) (am ad : Int → Nat) : List (Nat × Value) := [(4, .int (iI i)), (3, .ref ao), (2, .ref (am 0)), (1, .ref (ad 0)), (0, .ref b)]
abbrev lqG (p : Program) (l : Launch) (e : Env) (s : State) (m : MethodId) (b : Nat) (below : List Frame) (meth : Method) (c : Code) (d0 : Drawn) (cells slots : Nat) (Q : State → Prop) (pc : Nat) (lv : List (Nat × Value)) (st : List Value) (Wp : Heap → Prop) : Prop :=
  G p l e room_1 (s.setDrawn d0) m #[.ref b] below meth c 9 (fun q => s.heap.size ≤ q) cells slots Q pc lv st Wp
/-- both worlds, side by side -/
abbrev lqB (E : EN) (ad am : Int → Nat) (ao : Nat) (fo : Int → Int64) (sp : Int → SpT) (se : Int → Int) (al : Int → Nat) (ta : Int → Int) (n pg th : Int) (on : Int → Int) : Heap → Prop := fun H => LO E ad ao fo (CW E ad sp se al ta n pg) H ∧ MW E am th pg n on se al H
abbrev lqBx (E : EN) (ad am : Int → Nat) (ao : Nat) (fo : Int → Int64) (sp : Int → SpT) (se : Int → Int) (al : Int → Nat) (ta : Int → Int) (n pg : Int) (Wm : Heap → Prop) : Heap → Prop := fun H => LO E ad ao fo (CW E ad sp se al ta n pg) H ∧ Wm H
section SGS
variable {p : Program} {l : Launch} {e : Env} {s : State} {m : MethodId} {below : List Frame} {meth : Method} {c : Code} {d0 : Drawn} {cells slots : Nat} {Q : State → Prop} {E : EN} {ad am : Int → Nat} {ao b L : Nat} {xs : Nat → Int32}
variable {fo fo' : Int → Int64} {sp : Int → SpT} {se se' : Int → Int} {al al' : Int → Nat} {ta : Int → Int} {n pg n' pg' th t : Int} {on : Int → Int} {i k w : Int} {P i1 i2 : Nat}
variable {y1 y2 : MethodName} {bytes1 bytes2 : ByteArray} {maxL1 maxL2 mc ms : Nat} {ret1 ret2 : Option FieldType} {hh : List (Nat × Nat × Nat × Nat)} {ws1 ws2 : List Cond} {rm1 rm2 : Room} {Wc2 Wm2 : Heap → Prop} {RR : (Int → SpT) → Prop} {PM : (Int → Int) → Prop}
set_option maxHeartbeats 4000000 in
set_option maxRecDepth 100000 in
theorem sg0 (C : lqC p l s m c E ad am ao b L xs) (D : lqHD0 cL_law P i1 i2)
    (hM1 : Met l y1 ws1 rm1 (CL E s.heap.size [.ref (ad 0), .ref ao] (LO E ad ao fo (CW E ad sp se al ta n pg))) (QW (some (.int (iI k))) (LO E ad ao fo' Wc2) (AO ad ao)) mc ms (AO ad ao))
    (cw1 : vx_CSW room_1 (s.setDrawn d0) #[.ref b] RL i1 y1 bytes1 maxL1 ret1 hh ws1 rm1 mc ms 2)
    (hM2 : Met l y2 ws2 rm2 (CI E [.ref (am 0)] (MW E am th pg n on se al)) (QW (some (.int (iI w))) Wm2 (AM am)) 0 0 (AM am))
    (cw2 : CallW room_1 (s.setDrawn d0) #[.ref b] RL RX2 i2 y2 bytes2 maxL2 ret2 ws2 rm2 0 0 0)
    (hcs : cells + mc ≤ room_1.cells ∧ slots + ms ≤ room_1.slots)
    (hc2 : ∀ H, Wc2 H → ∃ x : (Int → SpT) × (Int → Int), RR x.1 ∧ CW E ad x.1 se' al' x.2 n' pg' H) (hm2 : ∀ H, Wm2 H → ∃ oo, PM oo ∧ MW E am t pg' n' oo se' al' H)
    (kk : ∀ (hs : Int → SpT) (tb oo : Int → Int), RR hs → PM oo → lqG p l e s m b below meth c d0 (cells + mc) (slots + ms) Q (P + 11) ((5, .int (iI k)) :: lvL i b ao am ad) [.int (iI w)] (lqB E ad am ao fo' hs se' al' tb n' pg' t oo)) :
    lqG p l e s m b below meth c d0 cells slots Q P (lvL i b ao am ad) [] (lqB E ad am ao fo sp se al ta n pg th on) := by
  obtain ⟨CS, hK, hX, hN, hlt, ⟨hj, hjm, hd⟩, ⟨hao, ham⟩, hXs, hbl, hL⟩ := C
  have S := CS d0
  have hX : TX s.heap.size (s.setDrawn d0) := TX_go (A := fun _ => False) (locs := []) (U := s.setDrawn d0) hX (fun _ q => q.elim) va_S.rf rfl (State.WarmedH.refl s)
  have hN : NX (s.setDrawn d0) := hN
  have hK : KC E (s.setDrawn d0) := hK
  have hXs : va_X b L xs (s.setDrawn d0) (s.setDrawn d0).heap := hXs
  have hbA : ¬ (fun q => s.heap.size ≤ q) b := Nat.not_le.mpr hbl
  refine g_aload_n S D.1 rfl 3 rfl ?_
  refine g_aload_n S D.2.1 rfl 1 rfl ?_
  refine g_callSL S hK hX hN (fun _ q => q) hM1 cw1 (st := []) (stk' := [.int (iI k)]) (Wp' := fun H => LO E ad ao fo' Wc2 H ∧ MW E am th pg n on se al H) rfl rfl rfl (Nat.le_of_ble_eq_true rfl) hcs hao (fun _ h => h.1) (fun _ _ h h2 _ hq => ⟨h2, mw_keptO hd h.2 hq⟩) D.2.2.1 ?_
  refine g_w (Wp' := fun H => ∃ x : (Int → SpT) × (Int → Int), RR x.1 ∧ lqBx E ad am ao fo' x.1 se' al' x.2 n' pg' (MW E am th pg n on se al) H) (fun H h => by obtain ⟨x, x1, x2⟩ := hc2 H h.1.2.1; exact ⟨x, x1, ⟨h.1.1, x2, h.1.2.2⟩, h.2⟩) ?_
  refine g_exP (fun x hx => ?_)
  refine g_istore S (lv' := (5, .int (iI k)) :: lvL i b ao am ad) D.2.2.2.1 (Nat.le_of_ble_eq_true rfl) rfl ?_
  refine g_aload_n S D.2.2.2.2.1 rfl 3 rfl ?_
  refine g_callV S hK (As := []) (st := []) (stk' := [.int (iI w)]) (Wp' := fun H => ∃ oo, PM oo ∧ lqB E ad am ao fo' x.1 se' al' x.2 n' pg' t oo H) (r := (RX2, TX2, 6)) hM2 cw2 rfl rfl rfl rfl (Nat.le_of_ble_eq_true rfl) hcs ham (fun _ h => mw_x h.2) (fun _ h => h.2) (fun _ _ h h2 _ hq => by obtain ⟨oo, o1, o2⟩ := hm2 _ h2; exact ⟨oo, o1, lo_keptM hd h.1 hq, o2⟩) D.2.2.2.2.2 ?_
  refine g_exP (fun oo ho => ?_)
  exact kk x.1 x.2 oo hx ho
set_option maxHeartbeats 4000000 in
set_option maxRecDepth 100000 in
theorem sg1 (C : lqC p l s m c E ad am ao b L xs) (hi : 0 ≤ i ∧ i + 3 < L) (D : lqHD1 cL_law P i1 i2)
    (hM1 : Met l y1 ws1 rm1 (CL E s.heap.size [.ref (ad 0), .int (iI (xs (i + 1).toNat).toInt), .ref ao] (LO E ad ao fo (CW E ad sp se al ta n pg))) (QW (some (.int (iI k))) (LO E ad ao fo' Wc2) (AO ad ao)) mc ms (AO ad ao))
    (cw1 : vx_CSW room_1 (s.setDrawn d0) #[.ref b] RL i1 y1 bytes1 maxL1 ret1 hh ws1 rm1 mc ms 3)
    (hM2 : Met l y2 ws2 rm2 (CI E [.ref (am 0), .int (iI (xs (i + 1).toNat).toInt)] (MW E am th pg n on se al)) (QW (some (.int (iI w))) Wm2 (AM am)) 0 0 (AM am))
    (cw2 : CallW room_1 (s.setDrawn d0) #[.ref b] RL RX2 i2 y2 bytes2 maxL2 ret2 ws2 rm2 0 0 1)
    (hcs : cells + mc ≤ room_1.cells ∧ slots + ms ≤ room_1.slots)
    (hc2 : ∀ H, Wc2 H → ∃ x : (Int → SpT) × (Int → Int), RR x.1 ∧ CW E ad x.1 se' al' x.2 n' pg' H) (hm2 : ∀ H, Wm2 H → ∃ oo, PM oo ∧ MW E am t pg' n' oo se' al' H)
    (kk : ∀ (hs : Int → SpT) (tb oo : Int → Int), RR hs → PM oo → lqG p l e s m b below meth c d0 (cells + mc) (slots + ms) Q (P + 23) ((5, .int (iI k)) :: lvL i b ao am ad) [.int (iI w)] (lqB E ad am ao fo' hs se' al' tb n' pg' t oo)) :
    lqG p l e s m b below meth c d0 cells slots Q P (lvL i b ao am ad) [] (lqB E ad am ao fo sp se al ta n pg th on) := by
  obtain ⟨CS, hK, hX, hN, hlt, ⟨hj, hjm, hd⟩, ⟨hao, ham⟩, hXs, hbl, hL⟩ := C
  have S := CS d0
  have hX : TX s.heap.size (s.setDrawn d0) := TX_go (A := fun _ => False) (locs := []) (U := s.setDrawn d0) hX (fun _ q => q.elim) va_S.rf rfl (State.WarmedH.refl s)
  have hN : NX (s.setDrawn d0) := hN
  have hK : KC E (s.setDrawn d0) := hK
  have hXs : va_X b L xs (s.setDrawn d0) (s.setDrawn d0).heap := hXs
  have hbA : ¬ (fun q => s.heap.size ≤ q) b := Nat.not_le.mpr hbl
  refine g_aload_n S D.1 rfl 3 rfl ?_
  refine g_scr S hXs hbl hbA (i := i) (k := 1) (j0 := 4) (j4 := 0) D.2.1 rfl rfl (by omega) hL ?_
  refine g_aload_n S D.2.2.1 rfl 1 rfl ?_
  refine g_callSL S hK hX hN (fun _ q => q) hM1 cw1 (st := []) (stk' := [.int (iI k)]) (Wp' := fun H => LO E ad ao fo' Wc2 H ∧ MW E am th pg n on se al H) rfl rfl rfl (Nat.le_of_ble_eq_true rfl) hcs hao (fun _ h => h.1) (fun _ _ h h2 _ hq => ⟨h2, mw_keptO hd h.2 hq⟩) D.2.2.2.1 ?_
  refine g_w (Wp' := fun H => ∃ x : (Int → SpT) × (Int → Int), RR x.1 ∧ lqBx E ad am ao fo' x.1 se' al' x.2 n' pg' (MW E am th pg n on se al) H) (fun H h => by obtain ⟨x, x1, x2⟩ := hc2 H h.1.2.1; exact ⟨x, x1, ⟨h.1.1, x2, h.1.2.2⟩, h.2⟩) ?_
  refine g_exP (fun x hx => ?_)
  refine g_istore S (lv' := (5, .int (iI k)) :: lvL i b ao am ad) D.2.2.2.2.1 (Nat.le_of_ble_eq_true rfl) rfl ?_
  refine g_aload_n S D.2.2.2.2.2.1 rfl 3 rfl ?_
  refine g_scr S hXs hbl hbA (i := i) (k := 1) (j0 := 5) (j4 := 1) D.2.2.2.2.2.2.1 rfl rfl (by omega) hL ?_
  refine g_callV S hK (As := [.int (iI (xs (i + 1).toNat).toInt)]) (st := []) (stk' := [.int (iI w)]) (Wp' := fun H => ∃ oo, PM oo ∧ lqB E ad am ao fo' x.1 se' al' x.2 n' pg' t oo H) (r := (RX2, TX2, 6)) hM2 cw2 rfl rfl rfl rfl (Nat.le_of_ble_eq_true rfl) hcs ham (fun _ h => mw_x h.2) (fun _ h => h.2) (fun _ _ h h2 _ hq => by obtain ⟨oo, o1, o2⟩ := hm2 _ h2; exact ⟨oo, o1, lo_keptM hd h.1 hq, o2⟩) D.2.2.2.2.2.2.2 ?_
  refine g_exP (fun oo ho => ?_)
  exact kk x.1 x.2 oo hx ho
set_option maxHeartbeats 4000000 in
set_option maxRecDepth 100000 in
theorem sg2 (C : lqC p l s m c E ad am ao b L xs) (hi : 0 ≤ i ∧ i + 3 < L) (D : lqHD2 cL_law P i1 i2)
    (hM1 : Met l y1 ws1 rm1 (CL E s.heap.size [.ref (ad 0), .int (iI (xs (i + 1).toNat).toInt), .int (iI (xs (i + 2).toNat).toInt), .ref ao] (LO E ad ao fo (CW E ad sp se al ta n pg))) (QW (some (.int (iI k))) (LO E ad ao fo' Wc2) (AO ad ao)) mc ms (AO ad ao))
    (cw1 : vx_CSW room_1 (s.setDrawn d0) #[.ref b] RL i1 y1 bytes1 maxL1 ret1 hh ws1 rm1 mc ms 4)
    (hM2 : Met l y2 ws2 rm2 (CI E [.ref (am 0), .int (iI (xs (i + 1).toNat).toInt), .int (iI (xs (i + 2).toNat).toInt)] (MW E am th pg n on se al)) (QW (some (.int (iI w))) Wm2 (AM am)) 0 0 (AM am))
    (cw2 : CallW room_1 (s.setDrawn d0) #[.ref b] RL RX2 i2 y2 bytes2 maxL2 ret2 ws2 rm2 0 0 2)
    (hcs : cells + mc ≤ room_1.cells ∧ slots + ms ≤ room_1.slots)
    (hc2 : ∀ H, Wc2 H → ∃ x : (Int → SpT) × (Int → Int), RR x.1 ∧ CW E ad x.1 se' al' x.2 n' pg' H) (hm2 : ∀ H, Wm2 H → ∃ oo, PM oo ∧ MW E am t pg' n' oo se' al' H)
    (kk : ∀ (hs : Int → SpT) (tb oo : Int → Int), RR hs → PM oo → lqG p l e s m b below meth c d0 (cells + mc) (slots + ms) Q (P + 35) ((5, .int (iI k)) :: lvL i b ao am ad) [.int (iI w)] (lqB E ad am ao fo' hs se' al' tb n' pg' t oo)) :
    lqG p l e s m b below meth c d0 cells slots Q P (lvL i b ao am ad) [] (lqB E ad am ao fo sp se al ta n pg th on) := by
  obtain ⟨CS, hK, hX, hN, hlt, ⟨hj, hjm, hd⟩, ⟨hao, ham⟩, hXs, hbl, hL⟩ := C
  have S := CS d0
  have hX : TX s.heap.size (s.setDrawn d0) := TX_go (A := fun _ => False) (locs := []) (U := s.setDrawn d0) hX (fun _ q => q.elim) va_S.rf rfl (State.WarmedH.refl s)
  have hN : NX (s.setDrawn d0) := hN
  have hK : KC E (s.setDrawn d0) := hK
  have hXs : va_X b L xs (s.setDrawn d0) (s.setDrawn d0).heap := hXs
  have hbA : ¬ (fun q => s.heap.size ≤ q) b := Nat.not_le.mpr hbl
  refine g_aload_n S D.1 rfl 3 rfl ?_
  refine g_scr S hXs hbl hbA (i := i) (k := 1) (j0 := 4) (j4 := 0) D.2.1 rfl rfl (by omega) hL ?_
  refine g_scr S hXs hbl hbA (i := i) (k := 2) (j0 := 4) (j4 := 0) D.2.2.1 rfl rfl (by omega) hL ?_
  refine g_aload_n S D.2.2.2.1 rfl 1 rfl ?_
  refine g_callSL S hK hX hN (fun _ q => q) hM1 cw1 (st := []) (stk' := [.int (iI k)]) (Wp' := fun H => LO E ad ao fo' Wc2 H ∧ MW E am th pg n on se al H) rfl rfl rfl (Nat.le_of_ble_eq_true rfl) hcs hao (fun _ h => h.1) (fun _ _ h h2 _ hq => ⟨h2, mw_keptO hd h.2 hq⟩) D.2.2.2.2.1 ?_
  refine g_w (Wp' := fun H => ∃ x : (Int → SpT) × (Int → Int), RR x.1 ∧ lqBx E ad am ao fo' x.1 se' al' x.2 n' pg' (MW E am th pg n on se al) H) (fun H h => by obtain ⟨x, x1, x2⟩ := hc2 H h.1.2.1; exact ⟨x, x1, ⟨h.1.1, x2, h.1.2.2⟩, h.2⟩) ?_
  refine g_exP (fun x hx => ?_)
  refine g_istore S (lv' := (5, .int (iI k)) :: lvL i b ao am ad) D.2.2.2.2.2.1 (Nat.le_of_ble_eq_true rfl) rfl ?_
  refine g_aload_n S D.2.2.2.2.2.2.1 rfl 3 rfl ?_
  refine g_scr S hXs hbl hbA (i := i) (k := 1) (j0 := 5) (j4 := 1) D.2.2.2.2.2.2.2.1 rfl rfl (by omega) hL ?_
  refine g_scr S hXs hbl hbA (i := i) (k := 2) (j0 := 5) (j4 := 1) D.2.2.2.2.2.2.2.2.1 rfl rfl (by omega) hL ?_
  refine g_callV S hK (As := [.int (iI (xs (i + 1).toNat).toInt), .int (iI (xs (i + 2).toNat).toInt)]) (st := []) (stk' := [.int (iI w)]) (Wp' := fun H => ∃ oo, PM oo ∧ lqB E ad am ao fo' x.1 se' al' x.2 n' pg' t oo H) (r := (RX2, TX2, 6)) hM2 cw2 rfl rfl rfl rfl (Nat.le_of_ble_eq_true rfl) hcs ham (fun _ h => mw_x h.2) (fun _ h => h.2) (fun _ _ h h2 _ hq => by obtain ⟨oo, o1, o2⟩ := hm2 _ h2; exact ⟨oo, o1, lo_keptM hd h.1 hq, o2⟩) D.2.2.2.2.2.2.2.2.2 ?_
  refine g_exP (fun oo ho => ?_)
  exact kk x.1 x.2 oo hx ho
set_option maxHeartbeats 4000000 in
set_option maxRecDepth 100000 in
theorem sg3 (C : lqC p l s m c E ad am ao b L xs) (hi : 0 ≤ i ∧ i + 3 < L) (D : lqHD3 cL_law P i1 i2)
    (hM1 : Met l y1 ws1 rm1 (CL E s.heap.size [.ref (ad 0), .int (iI (xs (i + 1).toNat).toInt), .int (iI (xs (i + 2).toNat).toInt), .int (iI (xs (i + 3).toNat).toInt), .ref ao] (LO E ad ao fo (CW E ad sp se al ta n pg))) (QW (some (.int (iI k))) (LO E ad ao fo' Wc2) (AO ad ao)) mc ms (AO ad ao))
    (cw1 : vx_CSW room_1 (s.setDrawn d0) #[.ref b] RL i1 y1 bytes1 maxL1 ret1 hh ws1 rm1 mc ms 5)
    (hM2 : Met l y2 ws2 rm2 (CI E [.ref (am 0), .int (iI (xs (i + 1).toNat).toInt), .int (iI (xs (i + 2).toNat).toInt), .int (iI (xs (i + 3).toNat).toInt)] (MW E am th pg n on se al)) (QW (some (.int (iI w))) Wm2 (AM am)) 0 0 (AM am))
    (cw2 : CallW room_1 (s.setDrawn d0) #[.ref b] RL RX2 i2 y2 bytes2 maxL2 ret2 ws2 rm2 0 0 3)
    (hcs : cells + mc ≤ room_1.cells ∧ slots + ms ≤ room_1.slots)
    (hc2 : ∀ H, Wc2 H → ∃ x : (Int → SpT) × (Int → Int), RR x.1 ∧ CW E ad x.1 se' al' x.2 n' pg' H) (hm2 : ∀ H, Wm2 H → ∃ oo, PM oo ∧ MW E am t pg' n' oo se' al' H)
    (kk : ∀ (hs : Int → SpT) (tb oo : Int → Int), RR hs → PM oo → lqG p l e s m b below meth c d0 (cells + mc) (slots + ms) Q (P + 47) ((5, .int (iI k)) :: lvL i b ao am ad) [.int (iI w)] (lqB E ad am ao fo' hs se' al' tb n' pg' t oo)) :
    lqG p l e s m b below meth c d0 cells slots Q P (lvL i b ao am ad) [] (lqB E ad am ao fo sp se al ta n pg th on) := by
  obtain ⟨CS, hK, hX, hN, hlt, ⟨hj, hjm, hd⟩, ⟨hao, ham⟩, hXs, hbl, hL⟩ := C
  have S := CS d0
  have hX : TX s.heap.size (s.setDrawn d0) := TX_go (A := fun _ => False) (locs := []) (U := s.setDrawn d0) hX (fun _ q => q.elim) va_S.rf rfl (State.WarmedH.refl s)
  have hN : NX (s.setDrawn d0) := hN
  have hK : KC E (s.setDrawn d0) := hK
  have hXs : va_X b L xs (s.setDrawn d0) (s.setDrawn d0).heap := hXs
  have hbA : ¬ (fun q => s.heap.size ≤ q) b := Nat.not_le.mpr hbl
  refine g_aload_n S D.1 rfl 3 rfl ?_
  refine g_scr S hXs hbl hbA (i := i) (k := 1) (j0 := 4) (j4 := 0) D.2.1 rfl rfl (by omega) hL ?_
  refine g_scr S hXs hbl hbA (i := i) (k := 2) (j0 := 4) (j4 := 0) D.2.2.1 rfl rfl (by omega) hL ?_
  refine g_scr S hXs hbl hbA (i := i) (k := 3) (j0 := 4) (j4 := 0) D.2.2.2.1 rfl rfl (by omega) hL ?_
  refine g_aload_n S D.2.2.2.2.1 rfl 1 rfl ?_
  refine g_callSL S hK hX hN (fun _ q => q) hM1 cw1 (st := []) (stk' := [.int (iI k)]) (Wp' := fun H => LO E ad ao fo' Wc2 H ∧ MW E am th pg n on se al H) rfl rfl rfl (Nat.le_of_ble_eq_true rfl) hcs hao (fun _ h => h.1) (fun _ _ h h2 _ hq => ⟨h2, mw_keptO hd h.2 hq⟩) D.2.2.2.2.2.1 ?_
  refine g_w (Wp' := fun H => ∃ x : (Int → SpT) × (Int → Int), RR x.1 ∧ lqBx E ad am ao fo' x.1 se' al' x.2 n' pg' (MW E am th pg n on se al) H) (fun H h => by obtain ⟨x, x1, x2⟩ := hc2 H h.1.2.1; exact ⟨x, x1, ⟨h.1.1, x2, h.1.2.2⟩, h.2⟩) ?_
  refine g_exP (fun x hx => ?_)
  refine g_istore S (lv' := (5, .int (iI k)) :: lvL i b ao am ad) D.2.2.2.2.2.2.1 (Nat.le_of_ble_eq_true rfl) rfl ?_
  refine g_aload_n S D.2.2.2.2.2.2.2.1 rfl 3 rfl ?_
  refine g_scr S hXs hbl hbA (i := i) (k := 1) (j0 := 5) (j4 := 1) D.2.2.2.2.2.2.2.2.1 rfl rfl (by omega) hL ?_
  refine g_scr S hXs hbl hbA (i := i) (k := 2) (j0 := 5) (j4 := 1) D.2.2.2.2.2.2.2.2.2.1 rfl rfl (by omega) hL ?_
  refine g_scr S hXs hbl hbA (i := i) (k := 3) (j0 := 5) (j4 := 1) D.2.2.2.2.2.2.2.2.2.2.1 rfl rfl (by omega) hL ?_
  refine g_callV S hK (As := [.int (iI (xs (i + 1).toNat).toInt), .int (iI (xs (i + 2).toNat).toInt), .int (iI (xs (i + 3).toNat).toInt)]) (st := []) (stk' := [.int (iI w)]) (Wp' := fun H => ∃ oo, PM oo ∧ lqB E ad am ao fo' x.1 se' al' x.2 n' pg' t oo H) (r := (RX2, TX2, 6)) hM2 cw2 rfl rfl rfl rfl (Nat.le_of_ble_eq_true rfl) hcs ham (fun _ h => mw_x h.2) (fun _ h => h.2) (fun _ _ h h2 _ hq => by obtain ⟨oo, o1, o2⟩ := hm2 _ h2; exact ⟨oo, o1, lo_keptM hd h.1 hq, o2⟩) D.2.2.2.2.2.2.2.2.2.2.2 ?_
  refine g_exP (fun oo ho => ?_)
  exact kk x.1 x.2 oo hx ho
/-- the tail behind a call that was refused alike -/
theorem tlE (C : lqC p l s m c E ad am ao b L xs) {Z : Nat} {q o : Int} (D : lqTE cL_law P Z q o) (hcs : cells ≤ room_1.cells ∧ slots ≤ room_1.slots) (hk : 1 ≤ k ∧ k ≤ 3) (K : lqG p l e s m b below meth c d0 cells slots Q 1767 (lvL i b ao am ad) [] (lqB E ad am ao fo sp se al ta n pg k on)) :
    lqG p l e s m b below meth c d0 cells slots Q P ((5, .int (iI k)) :: lvL i b ao am ad) [.int (iI w)] (lqB E ad am ao fo sp se al ta n pg k on) := by
  obtain ⟨CS, hK, hX, hN, hlt, ⟨hj, hjm, hd⟩, ⟨hao, ham⟩, hXs, hbl, hL⟩ := C
  have S := CS d0
  have hK : KC E (s.setDrawn d0) := hK
  refine g_istore S (lv' := (6, .int (iI w)) :: (5, .int (iI k)) :: lvL i b ao am ad) D.1 (Nat.le_of_ble_eq_true rfl) rfl ?_
  refine g_aload_n S D.2.1 rfl 4 rfl ?_
  refine g_callV S hK (As := []) (st := []) (stk' := [.int (iI k)]) (Wp' := lqB E ad am ao fo sp se al ta n pg k on) (r := (RX2, TX2, 6)) (m_X2_thrown l E hjm k pg n on se al) (cwV 0 S.2.2.2.2 gL_law_X2_thrown rfl rfl rfl (by decide +kernel) ⟨Nat.le_of_ble_eq_true rfl, Nat.le_of_ble_eq_true rfl⟩) rfl rfl rfl rfl (Nat.le_of_ble_eq_true rfl) ⟨hcs.1, hcs.2⟩ (fun _ q => q.elim) (fun _ h => mw_x h.2) (fun _ h => h.2) (fun _ _ h _ _ hq => ⟨lo_keptM hd h.1 (fun q q1 _ => hq q q1 (fun z => z)), mw_kept h.2 (fun k9 h9 => hq _ (mw_lt h.2 h9) (fun z => z))⟩) D.2.2.1 ?_
  refine g_iload S D.2.2.2.1 1 rfl ?_
  refine g_icmp_eq S (tgt := P + 13) D.2.2.2.2.1 (by omega) (by omega) (fun _ => ?_) (fun z => absurd rfl z)
  refine g_iload S D.2.2.2.2.2.1 1 rfl ?_
  refine g_if_ne S (tgt := Z) D.2.2.2.2.2.2.1 D.2.2.2.2.2.2.2.1 (by omega) (fun _ => ?_) (fun z => by omega)
  refine g_goto S (tgt := 1767) D.2.2.2.2.2.2.2.2.1 D.2.2.2.2.2.2.2.2.2 ?_
  exact g_lv [2, 3, 4, 5, 6] rfl K
/-- the tail behind a call that was answered alike: an int -/
theorem tlI (C : lqC p l s m c E ad am ao b L xs) {Z : Nat} {o : Int} (D : lqTE cL_law P Z 15 o) (F : lqTI cL_law P) (hcs : cells ≤ room_1.cells ∧ slots ≤ room_1.slots) (hf : fo 0 = (iI w).toInt64) (K : lqG p l e s m b below meth c d0 cells slots Q 1767 (lvL i b ao am ad) [] (lqB E ad am ao fo sp se al ta n pg 0 on)) :
    lqG p l e s m b below meth c d0 cells slots Q P ((5, .int (iI 0)) :: lvL i b ao am ad) [.int (iI w)] (lqB E ad am ao fo sp se al ta n pg 0 on) := by
  obtain ⟨CS, hK, hX, hN, hlt, ⟨hj, hjm, hd⟩, ⟨hao, ham⟩, hXs, hbl, hL⟩ := C
  have S := CS d0
  have hK : KC E (s.setDrawn d0) := hK
  refine g_istore S (lv' := (6, .int (iI w)) :: (5, .int (iI 0)) :: lvL i b ao am ad) D.1 (Nat.le_of_ble_eq_true rfl) rfl ?_
  refine g_aload_n S D.2.1 rfl 4 rfl ?_
  refine g_callV S hK (As := []) (st := []) (stk' := [.int (iI 0)]) (Wp' := lqB E ad am ao fo sp se al ta n pg 0 on) (r := (RX2, TX2, 6)) (m_X2_thrown l E hjm 0 pg n on se al) (cwV 0 S.2.2.2.2 gL_law_X2_thrown rfl rfl rfl (by decide +kernel) ⟨Nat.le_of_ble_eq_true rfl, Nat.le_of_ble_eq_true rfl⟩) rfl rfl rfl rfl (Nat.le_of_ble_eq_true rfl) ⟨hcs.1, hcs.2⟩ (fun _ q => q.elim) (fun _ h => mw_x h.2) (fun _ h => h.2) (fun _ _ h _ _ hq => ⟨lo_keptM hd h.1 (fun q q1 _ => hq q q1 (fun z => z)), mw_kept h.2 (fun k9 h9 => hq _ (mw_lt h.2 h9) (fun z => z))⟩) D.2.2.1 ?_
  refine g_iload S D.2.2.2.1 1 rfl ?_
  refine g_icmp_eq S (tgt := P + 13) D.2.2.2.2.1 (by omega) (by decide) (fun _ => ?_) (fun z => absurd rfl z)
  refine g_iload S D.2.2.2.2.2.1 1 rfl ?_
  refine g_if_ne S (tgt := Z) D.2.2.2.2.2.2.1 D.2.2.2.2.2.2.2.1 (by decide) (fun z => absurd rfl z) (fun _ => ?_)
  refine g_aload_n S F.1 rfl 3 rfl ?_
  refine g_iconst S F.2.1 ?_
  refine g_lald S hK (n := 1) (fun _ h => h.1.2.2) (by decide) (by decide) F.2.2.1 ?_
  rw [hf]
  refine g_iload S F.2.2.2.1 0 rfl ?_
  refine g_i2l S F.2.2.2.2.1 ?_
  refine g_lcmpEq S (tgt := Z) F.2.2.2.2.2.1 F.2.2.2.2.2.2 (by have z := D.2.2.2.2.2.2.2.1; omega) ?_
  refine g_goto S (tgt := 1767) D.2.2.2.2.2.2.2.2.1 D.2.2.2.2.2.2.2.2.2 ?_
  exact g_lv [2, 3, 4, 5, 6] rfl K
/-- the tail behind a call that was answered alike: a boolean -/
theorem tlB (C : lqC p l s m c E ad am ao b L xs) {Z : Nat} {o : Int} (D : lqTE cL_law P Z 22 o) (F : lqTB cL_law P) (hcs : cells ≤ room_1.cells ∧ slots ≤ room_1.slots) (hw : w = 0 ∨ w = 1) (hf : fo 0 = (iI w).toInt64) (K : lqG p l e s m b below meth c d0 cells slots Q 1767 (lvL i b ao am ad) [] (lqB E ad am ao fo sp se al ta n pg 0 on)) :
    lqG p l e s m b below meth c d0 cells slots Q P ((5, .int (iI 0)) :: lvL i b ao am ad) [.int (iI w)] (lqB E ad am ao fo sp se al ta n pg 0 on) := by
  obtain ⟨CS, hK, hX, hN, hlt, ⟨hj, hjm, hd⟩, ⟨hao, ham⟩, hXs, hbl, hL⟩ := C
  have S := CS d0
  have hK : KC E (s.setDrawn d0) := hK
  refine g_istore S (lv' := (6, .int (iI w)) :: (5, .int (iI 0)) :: lvL i b ao am ad) D.1 (Nat.le_of_ble_eq_true rfl) rfl ?_
  refine g_aload_n S D.2.1 rfl 4 rfl ?_
  refine g_callV S hK (As := []) (st := []) (stk' := [.int (iI 0)]) (Wp' := lqB E ad am ao fo sp se al ta n pg 0 on) (r := (RX2, TX2, 6)) (m_X2_thrown l E hjm 0 pg n on se al) (cwV 0 S.2.2.2.2 gL_law_X2_thrown rfl rfl rfl (by decide +kernel) ⟨Nat.le_of_ble_eq_true rfl, Nat.le_of_ble_eq_true rfl⟩) rfl rfl rfl rfl (Nat.le_of_ble_eq_true rfl) ⟨hcs.1, hcs.2⟩ (fun _ q => q.elim) (fun _ h => mw_x h.2) (fun _ h => h.2) (fun _ _ h _ _ hq => ⟨lo_keptM hd h.1 (fun q q1 _ => hq q q1 (fun z => z)), mw_kept h.2 (fun k9 h9 => hq _ (mw_lt h.2 h9) (fun z => z))⟩) D.2.2.1 ?_
  refine g_iload S D.2.2.2.1 1 rfl ?_
  refine g_icmp_eq S (tgt := P + 13) D.2.2.2.2.1 (by omega) (by decide) (fun _ => ?_) (fun z => absurd rfl z)
  refine g_iload S D.2.2.2.2.2.1 1 rfl ?_
  refine g_if_ne S (tgt := Z) D.2.2.2.2.2.2.1 D.2.2.2.2.2.2.2.1 (by decide) (fun z => absurd rfl z) (fun _ => ?_)
  refine g_aload_n S F.1 rfl 3 rfl ?_
  refine g_iconst S F.2.1 ?_
  refine g_lald S hK (n := 1) (fun _ h => h.1.2.2) (by decide) (by decide) F.2.2.1 ?_
  rw [hf]
  refine g_iload S F.2.2.2.1 0 rfl ?_
  rcases hw with w0 | w1
  · subst w0
    refine g_if_eq S (tgt := P + 30) F.2.2.2.2.1 (by omega) (by decide) (fun _ => ?_) (fun z => absurd rfl z)
    refine g_lconst S (v := (iI 0).toInt64) F.2.2.2.2.2.2.2.1 (by decide) ?_
    refine g_lcmpEq S (tgt := Z) F.2.2.2.2.2.2.2.2.1 F.2.2.2.2.2.2.2.2.2 (by have z := D.2.2.2.2.2.2.2.1; omega) ?_
    refine g_goto S (tgt := 1767) D.2.2.2.2.2.2.2.2.1 D.2.2.2.2.2.2.2.2.2 ?_
    exact g_lv [2, 3, 4, 5, 6] rfl K
  · subst w1
    refine g_if_eq S (tgt := P + 30) F.2.2.2.2.1 (by omega) (by decide) (fun z => absurd z (by decide)) (fun _ => ?_)
    refine g_lconst S (v := (iI 1).toInt64) F.2.2.2.2.2.1 (by decide) ?_
    refine g_goto S (tgt := P + 31) F.2.2.2.2.2.2.1 (by omega) ?_
    refine g_lcmpEq S (tgt := Z) F.2.2.2.2.2.2.2.2.1 F.2.2.2.2.2.2.2.2.2 (by have z := D.2.2.2.2.2.2.2.1; omega) ?_
    refine g_goto S (tgt := 1767) D.2.2.2.2.2.2.2.2.1 D.2.2.2.2.2.2.2.2.2 ?_
    exact g_lv [2, 3, 4, 5, 6] rfl K
end SGS
