/-! THE CLAIM OUT OF ONE WALK OF THE LAW'S BODY. Your part is whole_start (and what it stands on); all else here is the same for every law, but numbers. -/
def R_law : String := "BookIndexLaw"
def lw_P (b : Addr) (xs : List Int32) (args : Array Value) (s : State) : Prop := args = #[.ref b] ∧ s.IntsAt b xs ∧ xs.length ≤ 260 ∧ (Jvm.Cond.and given_1 narrow_1).before args s = true
/-- what a walk over the start with the record d0 says of its end, said of the start itself -/
theorem lw_closed {s t : State} {o : Outcome} {d0 : Drawn} {L : List Loc} {k n : Nat} (hd0 : s.drawn.sameBut d0 lw_cs) (hv : ∃ v, o = .returned v) (hW : (s.setDrawn d0).WarmedH t.vm) (hs : (s.setDrawn d0).sameButNew ({ t with vm := s.vm } : State) L k n) : State.butDraws s t lw_cs (fun t1 => Framed s o t1 L k n) := by
  have h2 : t.drawn = d0 := congrArg State.drawn hs.1
  refine ⟨⟨hv, hW, State.sameButNew.setDrawn hs s.drawn⟩, ?_, by decide⟩
  rw [h2]
  exact hd0
def lw_Q (_ : Array Value) (s : State) (o : Outcome) (t : State) : Prop := o = .returned (some (.int 1)) ∧ State.butDraws s t lw_cs (fun t1 => Framed s o t1 [] 1032851 6002914)
def lw_Z (below : List Frame) (a : Array Value) (s : State) : State → Prop := fun t => ∃ o, t.status = .running ∧ Ended t below o ∧ lw_Q a s o t
/-- the law's own end, with 1 on the stack, nothing written that was there before, its room as the claim has it; d0: the record of draws at this point (at the entry s.drawn: begin with 'refine W.base ?_' and 'have hd0 := Drawn.sameBut.refl s.drawn lw_cs') -/
theorem lw_ret {p : Program} {l : Launch} {e : Env} {s : State} {m : MethodId} {below : List Frame} {meth : Method} {c : Code} {b : Nat} {d0 : Drawn} (hd0 : s.drawn.sameBut d0 lw_cs) (hx : p.tables.exec = Jvm.exec) (hb : c.code = code) (hr : meth.sig.returnType = ret) (hlocks : meth.locks = false) {pc : Nat} {H : Heap} {ls : Array Slot} (hdg : decode code pc = .ok (.ireturn, 1)) : W p l e room_1 (s.setDrawn d0) m #[Value.ref b] below meth c H [] 1032851 6002914 (lw_Z below #[Value.ref b] s) (F0 m pc ls [.int 1]) := by
  intro T hT X
  obtain ⟨fs, hret, hrun, hended, hW, hframe⟩ := X.leave (v := some (.int 1)) (hlocks := hlocks) (fun h => by rw [hr] at h; cases h)
  have hmeth' : T.vm.method? m = some meth := X.method'
  refine ⟨T.setFrames fs, ?_, .returned (some (.int 1)), hrun, hended, rfl, lw_closed hd0 ⟨_, rfl⟩ hW hframe⟩
  jvm_step X.here [X.here.top, hx, hb, hdg, hmeth', hr, ret, narrow_b1]
  (try refine ⟨rfl, ?_⟩); (try refine ⟨rfl, ?_⟩)
  first | (intro acts; rw [hret _ acts rfl rfl rfl]) | rw [hret _ _ rfl rfl rfl]
  exact Steps.refl _
/-- what holds at the law's entry: the machine, the code, the tables' words (any of lw_tbl by 'hts w (by decide +kernel)'), the script of L ints xs at the cell b, what the Statement gives of the start (any of its parts by flat_of_before) -/
def lw_At (p : Program) (s : State) (m : MethodId) (meth : Method) (c : Code) (b L : Nat) (xs : Nat → Int32) : Prop :=
  p.tables.exec = Jvm.exec ∧ c.code = code ∧ meth.sig.returnType = ret ∧ c.maxLocals = 25 ∧ s.vm.findClass R_law = some m.cls ∧ (∀ w ∈ lw_tbl, w.before #[Value.ref b] s = true) ∧ va_X b L xs s s.heap ∧ b < s.heap.size ∧ meth.locks = false ∧ (Jvm.Cond.and given_1 narrow_1).before #[Value.ref b] s = true
/-! THE LAW'S START: what the tables give -/
theorem lw_env {s : State} {args : Array Value} (hts : ∀ w ∈ lw_tbl, w.before args s = true) : ∃ E : EN, KC E s := by
  obtain ⟨c0, i0, k0⟩ := u_known (C := RX0) (T := TX0) (N := 3) (n := 3) hts inX0 (hts (.instantiable RX0 3) (by decide +kernel))
  obtain ⟨c1, i1, k1⟩ := u_known (C := RX1) (T := TX1) (N := 9) (n := 9) hts inX1 (hts (.instantiable RX1 9) (by decide +kernel))
  obtain ⟨c2, i2, k2⟩ := u_known (C := RX2) (T := TX2) (N := 4) (n := 4) hts inX2 (hts (.instantiable RX2 4) (by decide +kernel))
  obtain ⟨a0, ka0, b0, f1, f2, f3⟩ := Cond.arrayClass_spec (hts (.arrayClass .int) (by decide +kernel))
  obtain ⟨a2, ka2, b2, g1, g2, g3⟩ := Cond.arrayClass_spec (hts (.arrayClass .boolean) (by decide +kernel))
  obtain ⟨b1, a1, ka1, e1, e2, e3, e4, e5⟩ := Cond.arrayOver_spec (hts (.arrayOver (.object RX0)) (by decide +kernel))
  obtain ⟨b3, a3, ka3, p1, p2, p3, p4, p5⟩ := arrayOverA_spec (hts (.arrayOver (.array .int)) (by decide +kernel))
  obtain ⟨b4, a4, ka4, q1, q2, q3, q4, q5⟩ := arrayOverA_spec (hts (.arrayOver (.array (.array .int))) (by decide +kernel))
  refine ⟨((fun k => if k = 0 then c0 else if k = 1 then c1 else c2, fun k => if k = 0 then i0 else if k = 1 then i1 else i2), fun k => if k = 0 then a0 else if k = 1 then a1 else if k = 2 then a2 else if k = 3 then a3 else a4), ?_, ?_⟩
  · intro k q hq
    match k, hq with
    | 0, hq => cases hq; exact k0
    | 1, hq => cases hq; exact k1
    | 2, hq => cases hq; exact k2
    | k + 3, hq => simp [vwCl] at hq
  · intro k q hq
    match k, hq with
    | 0, hq => cases hq; exact ⟨fun n z => ⟨fun k h => (by cases h), ka0, f2, b0, f3⟩, f1⟩
    | 1, hq => cases hq; exact ⟨fun n z => ⟨fun k h => (by cases h), ka1, e3, b1, e4⟩, ka1, b1, e3, e4, e1, e5⟩
    | 2, hq => cases hq; exact ⟨fun n z => ⟨fun k h => (by cases h), ka2, g2, b2, g3⟩, g1⟩
    | 3, hq => cases hq; exact ⟨fun n z => ⟨fun k h => (by cases h), ka3, p3, b3, p4⟩, p5⟩
    | 4, hq => cases hq; exact ⟨fun n z => ⟨fun k h => (by cases h), ka4, q3, b4, q4⟩, q5⟩
    | k + 5, hq => simp [tyL] at hq
theorem lw_tx {s : State} {args : Array Value} (hts : ∀ w ∈ lw_tbl, w.before args s = true) (hf : ∀ w ∈ flatC (Jvm.Cond.and given_1 narrow_1), w.before args s = true) : TX s.heap.size s := by
  have hA : ∀ a : Nat, a < s.heap.size → ¬ (fun q : Nat => s.heap.size ≤ q) a := fun a ha z => Nat.not_le.mpr ha z
  have m1 : ∀ q ∈ strL, Cond.stringRef RX1 q.1 q.2 ∈ lw_tbl := by decide +kernel
  have m2 : ∀ q ∈ strL, Cond.exactly (.string RX1 q.1) "java/lang/String" ∈ flatC (Jvm.Cond.and given_1 narrow_1) := by decide +kernel
  have m3 : ∀ X ∈ xL, Cond.castable X X ∈ lw_tbl := by decide +kernel
  have m4 : ∀ Y ∈ yL, Cond.declares (Bundle.initS Y) ∈ lw_tbl := by decide +kernel
  refine ⟨vx_Zqof (hts (.laysStatic Bundle.tN "UNASSIGNED_STACK" Bundle.steD) (by decide +kernel)) (hts (.initialized Bundle.tN) (by decide +kernel)) (hf (.isRef (.static Bundle.tN "UNASSIGNED_STACK" Bundle.steD)) (by decide +kernel)) hA, vx_Zqof (hts (.laysStatic Bundle.tN "SUPPRESSED_SENTINEL" Bundle.listD) (by decide +kernel)) (hts (.initialized Bundle.tN) (by decide +kernel)) (hf (.isRef (.static Bundle.tN "SUPPRESSED_SENTINEL" Bundle.listD)) (by decide +kernel)) hA, fun q hq => ?_, fun X hX => va_Nw.of rfl (hts _ (m3 X hX)), fun Y hY => va_Nw.of rfl (hts _ (m4 Y hY))⟩
  obtain ⟨a, -, -, -, h, -⟩ := Cond.exactly_spec (hf _ (m2 q hq))
  exact ⟨a, vk_R.of (hts _ (m1 q hq)) h⟩
theorem aBk_b (a : Nat) {k : Int} (hk : 0 ≤ k ∧ k < 86) : a ≤ aBk a k ∧ aBk a k < a + 86 := by
  unfold aBk
  split
  · omega
  · split
    · omega
    · split <;> omega
theorem bk_born : ∀ j, j < 9 → defaultValue (tyX1 j) = vp_V [.null, .null, .null, .null, .null, .null, .null, .int (iI 0), .int (iI 0)] j := by
  intro j hj
  match j, hj with
  | 0, _ => rfl
  | 1, _ => rfl
  | 2, _ => rfl
  | 3, _ => rfl
  | 4, _ => rfl
  | 5, _ => rfl
  | 6, _ => rfl
  | 7, _ => rfl
  | 8, _ => rfl
set_option maxHeartbeats 4000000 in
set_option maxRecDepth 100000 in
/-- YOUR PART: from the entry, for every script of at most 260 ints, the law comes to its end with true ('hflags': the launch's flags, for a law that throws: no stack traces) -/
theorem whole_start {p : Program} {e : Env} {s : State} {m : MethodId} {below : List Frame} {meth : Method} {c : Code} (l : Launch) (hflags : l.flags = flags0) {b L : Nat} {xs : Nat → Int32} (hL : L ≤ 260) (C0 : lw_At p s m meth c b L xs) : W p l e room_1 s m #[Value.ref b] below meth c s.heap [] 0 0 (lw_Z below #[Value.ref b] s) (entryFrame m ([Value.ref b] : List Value).toArray 25) := by
  obtain ⟨hx, hb, hr, hml, hown, hts0, hX, hbl, hlocks, hgv⟩ := C0
  have hf := flat_of_before _ hgv
  have hts : ∀ w ∈ wsL_law, w.before #[Value.ref b] s = true := fun w hw => hts0 w (wsL_law_in w hw)
  obtain ⟨E, hK⟩ := lw_env hts0
  have hTX := lw_tx hts0 hf
  have hAO : va_AO RX0 s := va_AO.of (hts0 (.arrayOver (.object RX0)) (by decide +kernel))
  have hO : OA s := ⟨aoA.of (hts0 (.arrayOver (.array .int)) (by decide +kernel)), aoA.of (hts0 (.arrayOver (.array (.array .int))) (by decide +kernel))⟩
  have hlt : l.stackTraces = false := by unfold Launch.stackTraces; rw [hflags]; decide
  obtain ⟨scr, h1, h2, h3, h4, h5⟩ := hX
  have hP : SCRP scr (L : Int) (fun i => (xs i.toNat).toInt) := ⟨h3, by rw [h4]; omega, fun j hj => by
    rw [h5 j (by omega)]
    show _ = some (Value.int (iI (xs ((j : Int)).toNat).toInt))
    rw [iI_of, show ((j : Int)).toNat = j by omega]⟩
  have hN : NN scr s := ⟨va_Nw.of rfl (hts0 (.methodLinkNest RL 96 yX2_init RL) (by decide +kernel)), h2⟩
  have hd0 := Drawn.sameBut.refl s.drawn lw_cs
  refine W.base ?_
  have hl := lv_entry ([.ref b]) (n := 25) (Nat.le_of_ble_eq_true rfl)
  rw [lg_entry_eq]
  generalize (lg_sl ([.ref b]) ++ List.replicate (25 - (lg_sl ([.ref b])).length) Slot.unset).toArray = ls at hl ⊢
  have hl : lv_has ls 25 [(0, .ref b)] := hl
  have S : CallFix p m c cL_law 25 (s.setDrawn s.drawn) #[.ref b] wsL_law RL := ⟨hx, hb, hml, hown, dr_words hts s.drawn⟩
  have hK0 : KC E (s.setDrawn s.drawn) := hK
  have hAO0 : va_AO RX0 (s.setDrawn s.drawn) := hAO
  have hO0 : OA (s.setDrawn s.drawn) := hO
  have hX0 : TX s.heap.size (s.setDrawn s.drawn) := hTX
  have hN0 : NN scr (s.setDrawn s.drawn) := hN
  obtain ⟨a, ha⟩ : ∃ a, a = s.heap.size := ⟨_, rfl⟩
  rw [← ha] at hX0
  have hend : ∀ (lv : List (Nat × Value)) (W9 : Heap → Prop), G p l e room_1 (s.setDrawn s.drawn) m #[Value.ref b] below meth c 25 (fun q0 => a ≤ q0) 1032851 6002914 (lw_Z below #[Value.ref b] s) 1346 lv [.int (iI 1)] W9 := by
    intro lv W9 H locs ls hl h hS
    refine va_forget (fun q hq => by have w9 : a ≤ q.base := hS.2.2 q hq; show s.heap.size ≤ q.base; omega) ?_
    rw [show iI 1 = (1 : Int32) from rfl]
    exact lw_ret hd0 S.1 S.2.1 hr hlocks dL_law_1346
  have hax : HZ (aBk a) a (a + 86) := by
    rintro q ⟨k, k0, k1, k2⟩
    have z := aBk_b a (k := k) ⟨k0, k1⟩
    omega
  have pr : G p l e room_1 (s.setDrawn s.drawn) m #[Value.ref b] below meth c 25 (fun q0 => a ≤ q0) 0 0 (lw_Z below #[Value.ref b] s) 0 [(0, .ref b)] [] (fun H => H.size = a ∧ vS scr b H) := by
    refine g_newO S hK0 (a := a) (fs := [.null, .null, .null, .null, .null, .null, .null, .int (iI 0), .int (iI 0)]) (Wp' := fun H => H.size = a + 1 ∧ va_at E.1 vwCl (a, .inr (1, [.null, .null, .null, .null, .null, .null, .null, .int (iI 0), .int (iI 0)])) H ∧ vS scr b H) inlX1 tyX1 tyX1_ok (show vwCl[1]? = some (RX1, TX1, 9) from rfl) (S.2.2.2.2 (.classLink RL 25 RX1) (by decide +kernel)) (S.2.2.2.2 (.instantiable RX1 9) (by decide +kernel)) (S.2.2.2.2 (.initialized RX1) (by decide +kernel)) bk_born ⟨Nat.le_of_ble_eq_true rfl, Nat.le_of_ble_eq_true rfl⟩ (fun _ h => h.1) (fun _ _ h hv hz hq => ⟨hz, hv, h.2.kept (hq _ (by omega))⟩) dL_law_0 ?_
    refine g_dup S dL_law_3 rfl ?_
    refine g_callIK S hK0 hAO0 (As := []) (Wp' := fun H => H.size = a + 86 ∧ CA E (aBk a) (fun _ => (0, (fun _ => 0), (fun _ => 0))) (fun _ => 0) (fun _ => 0) 0 100 H ∧ vS scr b H) (m_X1_init l E a) (cwI 0 S.2.2.2.2 gL_law_X1_init rfl rfl rfl (S.2.2.2.2 (.initialized RX1) (by decide +kernel)) (S.2.2.2.2 (.methodLink RL 105 yX1_init) (by decide +kernel)) (S.2.2.2.2 (.instanceMethod yX1_init) (by decide +kernel)) rfl (by decide +kernel) ⟨Nat.le_of_ble_eq_true rfl, Nat.le_of_ble_eq_true rfl⟩) rfl rfl (Nat.le_of_ble_eq_true rfl) ⟨Nat.le_of_ble_eq_true rfl, Nat.le_of_ble_eq_true rfl⟩ (fun q hq => hq) (fun _ h => ⟨h.1, h.2.1⟩) (fun _ _ h h2 _ hq => ⟨h2.1, CA.of h2.2 (SE.rf _ _), h.2.2.kept (hq _ h.2.2.lt (fun w9 => by have w8 : a ≤ b := w9; omega))⟩) dL_law_4 ?_
    refine g_astore_n S (lv' := [(1, .ref a), (0, .ref b)]) dL_law_7 rfl (Nat.le_of_ble_eq_true rfl) rfl ?_
    refine g_wid (k := 86) (n := 1328) (Nat.le_of_ble_eq_true rfl) (Nat.le_of_ble_eq_true rfl) ?_
    exact m_L_law l E hlt a (a + 86) (a + 86) (aBk_inj a) hax b (L : Int) (fun i => (xs i.toNat).toInt) scr hP (jv_0 (fun _ _ _ => rfl) (fun _ => rfl)) (by omega) (by omega) (by omega) S hK0 hX0 hO0 hN0 hend
  exact pr s.heap [] ls hl ⟨ha.symm, h1⟩ va_S.rf
