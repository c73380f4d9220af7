/-! THE CLAIM OUT OF ONE WALK OF THE LAW'S BODY. Your part is whole_start (and what it stands on); all else here is the same for every law, but numbers. -/
def R_law : String := "BookIndexLaw"
def lw_P (b : Addr) (xs : List Int32) (args : Array Value) (s : State) : Prop := args = #[.ref b] ∧ s.IntsAt b xs ∧ xs.length ≤ 2048 ∧ (Jvm.Cond.and given_1 narrow_1).before args s = true
/-- what a walk over the start with the record d0 says of its end, said of the start itself -/
theorem lw_closed {s t : State} {o : Outcome} {d0 : Drawn} {L : List Loc} {k n : Nat} (hd0 : s.drawn.sameBut d0 lw_cs) (hv : ∃ v, o = .returned v) (hW : (s.setDrawn d0).WarmedH t.vm) (hs : (s.setDrawn d0).sameButNew ({ t with vm := s.vm } : State) L k n) : State.butDraws s t lw_cs (fun t1 => Framed s o t1 L k n) := by
  have h2 : t.drawn = d0 := congrArg State.drawn hs.1
  refine ⟨⟨hv, hW, State.sameButNew.setDrawn hs s.drawn⟩, ?_, by decide⟩
  rw [h2]
  exact hd0
def lw_Q (_ : Array Value) (s : State) (o : Outcome) (t : State) : Prop := o = .returned (some (.int 1)) ∧ State.butDraws s t lw_cs (fun t1 => Framed s o t1 [] 601024 7293034)
def lw_Z (below : List Frame) (a : Array Value) (s : State) : State → Prop := fun t => ∃ o, t.status = .running ∧ Ended t below o ∧ lw_Q a s o t
/-- the law's own end, with 1 on the stack, nothing written that was there before, its room as the claim has it; d0: the record of draws at this point (at the entry s.drawn: begin with 'refine W.base ?_' and 'have hd0 := Drawn.sameBut.refl s.drawn lw_cs') -/
theorem lw_ret {p : Program} {l : Launch} {e : Env} {s : State} {m : MethodId} {below : List Frame} {meth : Method} {c : Code} {b : Nat} {d0 : Drawn} (hd0 : s.drawn.sameBut d0 lw_cs) (hx : p.tables.exec = Jvm.exec) (hb : c.code = code) (hr : meth.sig.returnType = ret) (hlocks : meth.locks = false) {pc : Nat} {H : Heap} {ls : Array Slot} (hdg : decode code pc = .ok (.ireturn, 1)) : W p l e room_1 (s.setDrawn d0) m #[Value.ref b] below meth c H [] 601024 7293034 (lw_Z below #[Value.ref b] s) (F0 m pc ls [.int 1]) := by
  intro T hT X
  obtain ⟨fs, hret, hrun, hended, hW, hframe⟩ := X.leave (v := some (.int 1)) (hlocks := hlocks) (fun h => by rw [hr] at h; cases h)
  have hmeth' : T.vm.method? m = some meth := X.method'
  refine ⟨T.setFrames fs, ?_, .returned (some (.int 1)), hrun, hended, rfl, lw_closed hd0 ⟨_, rfl⟩ hW hframe⟩
  jvm_step X.here [X.here.top, hx, hb, hdg, hmeth', hr, ret, narrow_b1]
  (try refine ⟨rfl, ?_⟩); (try refine ⟨rfl, ?_⟩)
  first | (intro acts; rw [hret _ acts rfl rfl rfl]) | rw [hret _ _ rfl rfl rfl]
  exact Steps.refl _
/-- what holds at the law's entry: the machine, the code, the tables' words (any of lw_tbl by 'hts w (by decide +kernel)'), the script of L ints xs at the cell b, what the Statement gives of the start (any of its parts by flat_of_before) -/
def lw_At (p : Program) (s : State) (m : MethodId) (meth : Method) (c : Code) (b L : Nat) (xs : Nat → Int32) : Prop :=
  p.tables.exec = Jvm.exec ∧ c.code = code ∧ meth.sig.returnType = ret ∧ c.maxLocals = 9 ∧ s.vm.findClass R_law = some m.cls ∧ (∀ w ∈ lw_tbl, w.before #[Value.ref b] s = true) ∧ va_X b L xs s s.heap ∧ b < s.heap.size ∧ meth.locks = false ∧ (Jvm.Cond.and given_1 narrow_1).before #[Value.ref b] s = true
/-! THE LAW'S START: what the tables give -/
theorem lw_env {s : State} {args : Array Value} (hts : ∀ w ∈ lw_tbl, w.before args s = true) : ∃ E : EN, KC E s := by
  obtain ⟨c0, i0, k0⟩ := u_known (C := RX0) (T := TX0) (N := 3) (n := 3) hts inX0 (hts (.instantiable RX0 3) (by decide +kernel))
  obtain ⟨c1, i1, k1⟩ := u_known (C := RX1) (T := TX1) (N := 9) (n := 9) hts inX1 (hts (.instantiable RX1 9) (by decide +kernel))
  obtain ⟨c2, i2, k2⟩ := u_known (C := RX2) (T := TX2) (N := 6) (n := 6) hts inX2 (hts (.instantiable RX2 6) (by decide +kernel))
  obtain ⟨a0, ka0, b0, f1, f2, f3⟩ := Cond.arrayClass_spec (hts (.arrayClass .int) (by decide +kernel))
  obtain ⟨a2, ka2, b2, g1, g2, g3⟩ := Cond.arrayClass_spec (hts (.arrayClass .boolean) (by decide +kernel))
  obtain ⟨a3, ka3, b3, h1, h2, h3⟩ := Cond.arrayClass_spec (hts (.arrayClass .long) (by decide +kernel))
  obtain ⟨b1, a1, ka1, e1, e2, e3, e4, e5⟩ := Cond.arrayOver_spec (hts (.arrayOver (.object RX0)) (by decide +kernel))
  refine ⟨((fun k => if k = 0 then c0 else if k = 1 then c1 else c2, fun k => if k = 0 then i0 else if k = 1 then i1 else i2), fun k => if k = 0 then a0 else if k = 1 then a1 else if k = 2 then a2 else a3), ?_, ?_⟩
  · intro k q hq
    match k, hq with
    | 0, hq => cases hq; exact k0
    | 1, hq => cases hq; exact k1
    | 2, hq => cases hq; exact k2
    | k + 3, hq => simp [vwCl] at hq
  · intro k q hq
    match k, hq with
    | 0, hq => cases hq; exact ⟨fun n z => ⟨fun k h => (by cases h), ka0, f2, b0, f3⟩, f1⟩
    | 1, hq => cases hq; exact ⟨fun n z => ⟨fun k h => (by cases h), ka1, e3, b1, e4⟩, ka1, b1, e3, e4, e1, e5⟩
    | 2, hq => cases hq; exact ⟨fun n z => ⟨fun k h => (by cases h), ka2, g2, b2, g3⟩, g1⟩
    | 3, hq => cases hq; exact ⟨fun n z => ⟨fun k h => (by cases h), ka3, h2, b3, h3⟩, h1⟩
    | k + 4, hq => simp [tyL] at hq
theorem lw_tx {s : State} {args : Array Value} (hts : ∀ w ∈ lw_tbl, w.before args s = true) (hf : ∀ w ∈ flatC (Jvm.Cond.and given_1 narrow_1), w.before args s = true) : TX s.heap.size s := by
  have hA : ∀ a : Nat, a < s.heap.size → ¬ (fun q : Nat => s.heap.size ≤ q) a := fun a ha z => Nat.not_le.mpr ha z
  have m1 : ∀ q ∈ strL, Cond.stringRef RX1 q.1 q.2 ∈ lw_tbl := by decide +kernel
  have m2 : ∀ q ∈ strL, Cond.exactly (.string RX1 q.1) "java/lang/String" ∈ flatC (Jvm.Cond.and given_1 narrow_1) := by decide +kernel
  have m3 : ∀ X ∈ xL, Cond.castable X X ∈ lw_tbl := by decide +kernel
  have m4 : ∀ Y ∈ yL, Cond.declares (Bundle.initS Y) ∈ lw_tbl := by decide +kernel
  refine ⟨vx_Zqof (hts (.laysStatic Bundle.tN "UNASSIGNED_STACK" Bundle.steD) (by decide +kernel)) (hts (.initialized Bundle.tN) (by decide +kernel)) (hf (.isRef (.static Bundle.tN "UNASSIGNED_STACK" Bundle.steD)) (by decide +kernel)) hA, vx_Zqof (hts (.laysStatic Bundle.tN "SUPPRESSED_SENTINEL" Bundle.listD) (by decide +kernel)) (hts (.initialized Bundle.tN) (by decide +kernel)) (hf (.isRef (.static Bundle.tN "SUPPRESSED_SENTINEL" Bundle.listD)) (by decide +kernel)) hA, fun q hq => ?_, fun X hX => va_Nw.of rfl (hts _ (m3 X hX)), fun Y hY => va_Nw.of rfl (hts _ (m4 Y hY))⟩
  obtain ⟨a, -, -, -, h, -⟩ := Cond.exactly_spec (hf _ (m2 q hq))
  exact ⟨a, vk_R.of (hts _ (m1 q hq)) h⟩
theorem lw_nx {s : State} {args : Array Value} (hf : ∀ w ∈ flatC (Jvm.Cond.and given_1 narrow_1), w.before args s = true) : NX s :=
  ⟨va_Nc.of (hf (.not (.castable "java/lang/IllegalArgumentException" "java/lang/IndexOutOfBoundsException")) (by decide +kernel)), va_Nc.of (hf (.not (.castable "java/lang/IllegalStateException" "java/lang/IndexOutOfBoundsException")) (by decide +kernel)), va_Nc.of (hf (.not (.castable "java/lang/IllegalStateException" "java/lang/IllegalArgumentException")) (by decide +kernel))⟩
theorem and_31 (x : Int32) : ∃ k : Nat, k ≤ 31 ∧ (x &&& iI 31).toInt = (k : Int) := by
  refine ⟨(x.toBitVec &&& 31#32).toNat, ?_, ?_⟩
  · rw [BitVec.toNat_and]; exact Nat.and_le_right
  · show (x.toBitVec &&& 31#32).toInt = _
    exact BitVec.toInt_eq_toNat_of_msb (by rw [BitVec.msb_and, show (31#32).msb = false by decide, Bool.and_false])
section GLX
variable {p : Program} {l : Launch} {e : Env} {R : Room} {s : State} {m : MethodId} {args : Array Value} {below : List Frame} {meth : Method} {c : Code} {nL : Nat} {A : Nat → Prop} {cells slots : Nat} {Q : State → Prop}
variable {cc : ByteArray} {Ts : List Cond} {own : String} {pc : Nat} {lv lv' : List (Nat × Value)} {st : List Value} {Wp Wp' : Heap → Prop} {E : EN}
theorem g_tsw (S : CallFix p m c cc nL s args Ts own) {x : Int32} {k : Nat} {dflt off : Int} {offs : Array Int} {len tgt : Nat} (hd : decode cc pc = .ok (.tableswitch dflt 0 30 offs, len)) (hx : x.toInt = (k : Int)) (hk : k ≤ 30) (ho : offs[k]? = some off) (ht : (pc : Int) + off = (tgt : Int)) (kk : G p l e R s m args below meth c nL A cells slots Q tgt lv st Wp) : G p l e R s m args below meth c nL A cells slots Q pc lv (.int x :: st) Wp :=
  fun H locs ls hl h hS => lv_tableIn S.1 S.2.1 hd (by omega) (by omega) (by rw [hx, show ((k : Int) - 0).toNat = k by omega]; exact ho) ht (kk H locs ls hl h hS)
theorem g_tswO (S : CallFix p m c cc nL s args Ts own) {x : Int32} {dflt : Int} {offs : Array Int} {len tgt : Nat} (hd : decode cc pc = .ok (.tableswitch dflt 0 30 offs, len)) (hx : 30 < x.toInt) (ht : (pc : Int) + dflt = (tgt : Int)) (kk : G p l e R s m args below meth c nL A cells slots Q tgt lv st Wp) : G p l e R s m args below meth c nL A cells slots Q pc lv (.int x :: st) Wp :=
  fun H locs ls hl h hS => lv_tableOut S.1 S.2.1 hd (Or.inr hx) ht (kk H locs ls hl h hS)
theorem g_newLK (S : CallFix p m c cc nL s args Ts own) (hK : KC E s) {n a : Nat} (harr : (Cond.arrayClass .long).before args s = true) (hn : n ≤ 1000) (hcs : cells + 1 ≤ R.cells ∧ slots + n ≤ R.slots) (hsz : ∀ H, Wp H → H.size = a)
    (hW : ∀ (H H' : Heap), Wp H → va_at E.1 vwCl (a, aL (E.2 3) n (fun _ => 0)) H' → H'.size = a + 1 → (∀ q : Nat, q < a → H'[q]? = H[q]?) → Wp' H') (hd : decode cc pc = .ok (.newarray .long, 2))
    (kk : G p l e R s m args below meth c nL A (cells + 1) (slots + n) Q (pc + 2) lv (.ref a :: st) Wp') : G p l e R s m args below meth c nL A cells slots Q pc lv (.int (iI n) :: st) Wp := by
  intro H locs ls hl h hS
  have hz := hsz H h
  refine va_newaK (atype := .long) (N := n) S.1 S.2.1 harr rfl hd rfl ?_ ?_ ?_ hcs.1 hcs.2 hz fun H1 cA e1 z1 o1 hAr hNm => ?_
  · rw [← iI_0, iI_lt (by omega)]; omega
  · rw [iI_cl (by omega) (by omega)]; omega
  · show n * 8 ≤ 536870912; omega
  · have hE : s.vm.findClass ("[" ++ (FieldType.long).toString) = some (E.2 3) := (hK.2 3 _ rfl).2
    have ec : cA = E.2 3 := Option.some.inj (hNm.symm.trans hE)
    subst ec
    have h0 := hS.1
    refine kk H1 locs ls hl (hW H H1 h ?_ z1 o1) ⟨by omega, fun q q1 q2 => (o1 q (by omega)).trans (hS.2.1 q q1 q2), hS.2.2⟩
    show H1[a]? = some (vp_cell _ _)
    rw [e1]
    exact congrArg some rfl
theorem g_slen (S : CallFix p m c cc nL s args Ts own) {b L : Nat} {xs : Nat → Int32} (hX : va_X b L xs s s.heap) (hbl : b < s.heap.size) (hbA : ¬ A b) (hd : decode cc pc = .ok (.arraylength, 1)) (kk : G p l e R s m args below meth c nL A cells slots Q (pc + 1) lv (.int (iI (L : Int)) :: st) Wp) : G p l e R s m args below meth c nL A cells slots Q pc lv (.ref b :: st) Wp := by
  intro H locs ls hl h hS
  refine va_slen S.1 S.2.1 hX hbl hbA hS hd ?_
  have z := kk H locs ls hl h hS
  rw [iI_nat] at z
  exact z
theorem g_sld (S : CallFix p m c cc nL s args Ts own) {b L : Nat} {xs : Nat → Int32} {i : Int} (hX : va_X b L xs s s.heap) (hbl : b < s.heap.size) (hbA : ¬ A b) (hi : 0 ≤ i ∧ i < L) (hL : L ≤ 2048) (hd : decode cc pc = .ok (.iaload, 1)) (kk : G p l e R s m args below meth c nL A cells slots Q (pc + 1) lv (.int (xs i.toNat) :: st) Wp) : G p l e R s m args below meth c nL A cells slots Q pc lv (.int (iI i) :: .ref b :: st) Wp := by
  intro H locs ls hl h hS
  refine va_sld S.1 S.2.1 hX hbl hbA hS (iI_in hi (by omega)) hd ?_
  rw [iI_cl (by omega) (by omega)]
  exact kk H locs ls hl h hS
end GLX
theorem aBk_b (a : Nat) {k : Int} (hk : 0 ≤ k ∧ k < 86) : a ≤ aBk a k ∧ aBk a k < a + 86 := by
  unfold aBk
  split
  · omega
  · split
    · omega
    · split <;> omega
theorem bk_born : ∀ j, j < 9 → defaultValue (tyX1 j) = vp_V [.null, .null, .null, .null, .null, .null, .null, .int (iI 0), .int (iI 0)] j := by
  intro j hj
  match j, hj with
  | 0, _ => rfl
  | 1, _ => rfl
  | 2, _ => rfl
  | 3, _ => rfl
  | 4, _ => rfl
  | 5, _ => rfl
  | 6, _ => rfl
  | 7, _ => rfl
  | 8, _ => rfl
theorem mo_born : ∀ j, j < 6 → defaultValue (tyX2 j) = vp_V [.int (iI 0), .int (iI 0), .int (iI 0), .null, .null, .null] j := by
  intro j hj
  match j, hj with
  | 0, _ => rfl
  | 1, _ => rfl
  | 2, _ => rfl
  | 3, _ => rfl
  | 4, _ => rfl
  | 5, _ => rfl
section LOOP
variable {p : Program} {l : Launch} {e : Env} {s : State} {m : MethodId} {below : List Frame} {meth : Method} {c : Code} {E : EN} {ad am : Int → Nat} {ao b L : Nat} {xs : Nat → Int32}
set_option maxHeartbeats 4000000 in
set_option maxRecDepth 100000 in
/-- THE LAW'S LOOP, at its head, j calls done -/
theorem lw_loop (C : lqC p l s m c E ad am ao b L xs) (hr : meth.sig.returnType = ret) (hlocks : meth.locks = false) : ∀ (nf j : Nat), 4 * j ≤ L → L < 4 * j + 4 + 4 * nf → ∀ (d0 : Drawn) (fo : Int → Int64) (sp : Int → SpT) (se : Int → Int) (al : Int → Nat) (ta : Int → Int) (n pg th : Int) (on : Int → Int), s.drawn.sameBut d0 lw_cs → INV sp se al n pg on → lqG p l e s m b below meth c d0 (91 + 30 * j) (8631 + 300 * j) (lw_Z below #[Value.ref b] s) 23 (lvL (4 * (j : Int)) b ao am ad) [] (lqB E ad am ao fo sp se al ta n pg th on) := by
  obtain ⟨CS, hK, hX, hN, hlt, ⟨hj, hjm, hd⟩, ⟨hao, ham⟩, hXs, hbl, hL⟩ := id C
  have hbA : ¬ (fun q => s.heap.size ≤ q) b := Nat.not_le.mpr hbl
  have hend : ∀ (j : Nat), 4 * j ≤ L → ∀ (d0 : Drawn) (W9 : Heap → Prop), s.drawn.sameBut d0 lw_cs → lqG p l e s m b below meth c d0 (91 + 30 * j) (8631 + 300 * j) (lw_Z below #[Value.ref b] s) 1773 (lvL (4 * (j : Int)) b ao am ad) [] W9 := by
    intro j hj9 d0 W9 hd0 H locs ls hl h hS
    have S := CS d0
    refine lv_iconst (v := 1) S.1 S.2.1 dL_law_1773 (by decide) ?_
    refine va_forget (fun q hq => hS.2.2 q hq) ?_
    refine W.widen (k := 601024) (n := 7293034) (by omega) (by omega) ?_
    exact lw_ret hd0 S.1 S.2.1 hr hlocks dL_law_1774
  intro nf
  induction nf with
  | zero =>
    intro j h1 h2 d0 fo sp se al ta n pg th on hd0 I
    have S := CS d0
    refine g_iload S dL_law_23 0 rfl ?_
    refine g_aload_n S dL_law_25 rfl 4 rfl ?_
    refine g_slen S hXs hbl hbA dL_law_26 ?_
    refine g_iconst S dL_law_27 ?_
    refine g_isub S dL_law_28 ?_
    refine g_icmp_gt S (tgt := 1773) dL_law_29 (by decide) (by omega) (fun _ => hend j h1 d0 _ hd0) (fun z => by omega)
  | succ nf ih =>
    intro j h1 h2 d0 fo sp se al ta n pg th on hd0 I
    have S := CS d0
    refine g_iload S dL_law_23 0 rfl ?_
    refine g_aload_n S dL_law_25 rfl 4 rfl ?_
    refine g_slen S hXs hbl hbA dL_law_26 ?_
    refine g_iconst S dL_law_27 ?_
    refine g_isub S dL_law_28 ?_
    refine g_icmp_gt S (tgt := 1773) dL_law_29 (by decide) (by omega) (fun _ => hend j h1 d0 _ hd0) (fun hi => ?_)
    have K : lqK p l e s m b below meth c (lw_Z below #[Value.ref b] s) E ad am ao (4 * (j : Int)) (91 + 30 * j) (8631 + 300 * j) := by
      intro d1 fo1 sp1 se1 al1 ta1 n1 pg1 th1 on1 hd1 I1
      have S1 := CS d1
      refine g_iinc S1 (lv' := lvL (4 * (j : Int) + 4) b ao am ad) dL_law_1767 0 rfl (Nat.le_of_ble_eq_true rfl) rfl ?_
      refine g_goto S1 (tgt := 23) dL_law_1770 (by decide) ?_
      rw [show (4 * (j : Int) + 4) = 4 * ((j + 1 : Nat) : Int) by omega]
      exact g_wid (k := 91 + 30 * (j + 1)) (n := 8631 + 300 * (j + 1)) (by omega) (by omega) (ih (j + 1) (by omega) (by omega) d1 fo1 sp1 se1 al1 ta1 n1 pg1 th1 on1 hd1 I1)
    have hcs : (91 + 30 * j) + 30 ≤ 601024 ∧ (8631 + 300 * j) + 300 ≤ 7293034 := by omega
    have hi3 : 0 ≤ 4 * (j : Int) ∧ 4 * (j : Int) + 3 < L := by omega
    refine g_aload_n S dL_law_32 rfl 4 rfl ?_
    refine g_iload S dL_law_33 0 rfl ?_
    refine g_sld S hXs hbl hbA (by omega) hL dL_law_35 ?_
    refine g_bipush S dL_law_36 (by decide) ?_
    refine g_iand S dL_law_38 rfl ?_
    obtain ⟨k, hk, hv⟩ := and_31 (xs (4 * (j : Int)).toNat)
    by_cases c31 : k = 31
    · refine g_tswO S (tgt := 1767) dL_law_39 (by omega) (by decide) ?_
      exact g_wid (k := (91 + 30 * j) + 30) (n := (8631 + 300 * j) + 300) (by omega) (by omega) (K d0 _ _ _ _ _ _ _ _ _ hd0 I)
    by_cases c0 : k = 0
    · subst c0
      exact g_tsw S (tgt := 176) (off := 137) dL_law_39 hv (by decide) rfl (by decide) (ca_0 C hd0 hi3 I hcs K)
    by_cases c1 : k = 1
    · subst c1
      exact g_tsw S (tgt := 220) (off := 181) dL_law_39 hv (by decide) rfl (by decide) (ca_1 C hd0 hi3 I hcs K)
    by_cases c2 : k = 2
    · subst c2
      exact g_tsw S (tgt := 300) (off := 261) dL_law_39 hv (by decide) rfl (by decide) (ca_2 C hd0 hi3 I hcs K)
    by_cases c3 : k = 3
    · subst c3
      exact g_tsw S (tgt := 380) (off := 341) dL_law_39 hv (by decide) rfl (by decide) (ca_3 C hd0 hi3 I hcs K)
    by_cases c4 : k = 4
    · subst c4
      exact g_tsw S (tgt := 448) (off := 409) dL_law_39 hv (by decide) rfl (by decide) (ca_4 C hd0 hi3 I hcs K)
    by_cases c5 : k = 5
    · subst c5
      exact g_tsw S (tgt := 516) (off := 477) dL_law_39 hv (by decide) rfl (by decide) (ca_5 C hd0 hi3 I hcs K)
    by_cases c6 : k = 6
    · subst c6
      exact g_tsw S (tgt := 584) (off := 545) dL_law_39 hv (by decide) rfl (by decide) (ca_6 C hd0 hi3 I hcs K)
    by_cases c7 : k = 7
    · subst c7
      exact g_tsw S (tgt := 640) (off := 601) dL_law_39 hv (by decide) rfl (by decide) (ca_7 C hd0 hi3 I hcs K)
    by_cases c8 : k = 8
    · subst c8
      exact g_tsw S (tgt := 653) (off := 614) dL_law_39 hv (by decide) rfl (by decide) (ca_8 C hd0 hi3 I hcs K)
    by_cases c9 : k = 9
    · subst c9
      exact g_tsw S (tgt := 666) (off := 627) dL_law_39 hv (by decide) rfl (by decide) (ca_9 C hd0 hi3 I hcs K)
    by_cases c10 : k = 10
    · subst c10
      exact g_tsw S (tgt := 722) (off := 683) dL_law_39 hv (by decide) rfl (by decide) (ca_10 C hd0 hi3 I hcs K)
    by_cases c11 : k = 11
    · subst c11
      exact g_tsw S (tgt := 790) (off := 751) dL_law_39 hv (by decide) rfl (by decide) (ca_11 C hd0 hi3 I hcs K)
    by_cases c12 : k = 12
    · subst c12
      exact g_tsw S (tgt := 858) (off := 819) dL_law_39 hv (by decide) rfl (by decide) (ca_12 C hd0 hi3 I hcs K)
    by_cases c13 : k = 13
    · subst c13
      exact g_tsw S (tgt := 914) (off := 875) dL_law_39 hv (by decide) rfl (by decide) (ca_13 C hd0 hi3 I hcs K)
    by_cases c14 : k = 14
    · subst c14
      exact g_tsw S (tgt := 970) (off := 931) dL_law_39 hv (by decide) rfl (by decide) (ca_14 C hd0 hi3 I hcs K)
    by_cases c15 : k = 15
    · subst c15
      exact g_tsw S (tgt := 1026) (off := 987) dL_law_39 hv (by decide) rfl (by decide) (ca_15 C hd0 hi3 I hcs K)
    by_cases c16 : k = 16
    · subst c16
      exact g_tsw S (tgt := 1101) (off := 1062) dL_law_39 hv (by decide) rfl (by decide) (ca_16 C hd0 hi3 I hcs K)
    by_cases c17 : k = 17
    · subst c17
      exact g_tsw S (tgt := 1157) (off := 1118) dL_law_39 hv (by decide) rfl (by decide) (ca_17 C hd0 hi3 I hcs K)
    by_cases c18 : k = 18
    · subst c18
      exact g_tsw S (tgt := 1170) (off := 1131) dL_law_39 hv (by decide) rfl (by decide) (ca_18 C hd0 hi3 I hcs K)
    by_cases c19 : k = 19
    · subst c19
      exact g_tsw S (tgt := 1183) (off := 1144) dL_law_39 hv (by decide) rfl (by decide) (ca_19 C hd0 hi3 I hcs K)
    by_cases c20 : k = 20
    · subst c20
      exact g_tsw S (tgt := 1239) (off := 1200) dL_law_39 hv (by decide) rfl (by decide) (ca_20 C hd0 hi3 I hcs K)
    by_cases c21 : k = 21
    · subst c21
      exact g_tsw S (tgt := 1252) (off := 1213) dL_law_39 hv (by decide) rfl (by decide) (ca_21 C hd0 hi3 I hcs K)
    by_cases c22 : k = 22
    · subst c22
      exact g_tsw S (tgt := 1320) (off := 1281) dL_law_39 hv (by decide) rfl (by decide) (ca_22 C hd0 hi3 I hcs K)
    by_cases c23 : k = 23
    · subst c23
      exact g_tsw S (tgt := 1376) (off := 1337) dL_law_39 hv (by decide) rfl (by decide) (ca_23 C hd0 hi3 I hcs K)
    by_cases c24 : k = 24
    · subst c24
      exact g_tsw S (tgt := 1439) (off := 1400) dL_law_39 hv (by decide) rfl (by decide) (ca_24 C hd0 hi3 I hcs K)
    by_cases c25 : k = 25
    · subst c25
      exact g_tsw S (tgt := 1452) (off := 1413) dL_law_39 hv (by decide) rfl (by decide) (ca_25 C hd0 hi3 I hcs K)
    by_cases c26 : k = 26
    · subst c26
      exact g_tsw S (tgt := 1520) (off := 1481) dL_law_39 hv (by decide) rfl (by decide) (ca_26 C hd0 hi3 I hcs K)
    by_cases c27 : k = 27
    · subst c27
      exact g_tsw S (tgt := 1588) (off := 1549) dL_law_39 hv (by decide) rfl (by decide) (ca_27 C hd0 hi3 I hcs K)
    by_cases c28 : k = 28
    · subst c28
      exact g_tsw S (tgt := 1644) (off := 1605) dL_law_39 hv (by decide) rfl (by decide) (ca_28 C hd0 hi3 I hcs K)
    by_cases c29 : k = 29
    · subst c29
      exact g_tsw S (tgt := 1712) (off := 1673) dL_law_39 hv (by decide) rfl (by decide) (ca_29 C hd0 I hcs K)
    have c30 : k = 30 := by omega
    subst c30
    exact g_tsw S (tgt := 1753) (off := 1714) dL_law_39 hv (by decide) rfl (by decide) (ca_30 C hd0 I hcs K)
end LOOP
