set_option maxHeartbeats 4000000 in
set_option maxRecDepth 100000 in
/-- YOUR PART: from the entry, for every script of at most 2048 ints, the law comes to its end with true ('hflags': the launch's flags, for a law that throws: no stack traces) -/
theorem whole_start {p : Program} {e : Env} {s : State} {m : MethodId} {below : List Frame} {meth : Method} {c : Code} (l : Launch) (hflags : l.flags = flags0) {b L : Nat} {xs : Nat → Int32} (hL : L ≤ 2048) (C0 : lw_At p s m meth c b L xs) : W p l e room_1 s m #[Value.ref b] below meth c s.heap [] 0 0 (lw_Z below #[Value.ref b] s) (entryFrame m ([Value.ref b] : List Value).toArray 9) := by
  obtain ⟨hx, hb, hr, hml, hown, hts0, hX, hbl, hlocks, hgv⟩ := C0
  have hf := flat_of_before _ hgv
  have hts : ∀ w ∈ wsL_law, w.before #[Value.ref b] s = true := fun w hw => hts0 w (wsL_law_in w hw)
  obtain ⟨E, hK⟩ := lw_env hts0
  have hTX := lw_tx hts0 hf
  have hNX := lw_nx hf
  have hO : va_AO RX0 s := va_AO.of (hts0 (.arrayOver (.object RX0)) (by decide +kernel))
  have hlt : l.stackTraces = false := by unfold Launch.stackTraces; rw [hflags]; decide
  have CS : ∀ d : Drawn, CallFix p m c cL_law 9 (s.setDrawn d) #[.ref b] wsL_law RL := fun d => ⟨hx, hb, hml, hown, dr_words hts d⟩
  have hd0 := Drawn.sameBut.refl s.drawn lw_cs
  obtain ⟨a, ha⟩ : ∃ a, a = s.heap.size := ⟨_, rfl⟩
  have hDJ : lqJ (aBk a) (aMo (a + 86)) (a + 90) := ⟨fun k j k0 k1 j0 j1 z => by
    have q := aBk_b a (k := k) ⟨k0, k1⟩
    have z : aBk a k = a + 86 + j.toNat := z
    omega, fun j j0 j1 z => by
    have z : a + 86 + j.toNat = a + 90 := z
    omega⟩
  have C : lqC p l s m c E (aBk a) (aMo (a + 86)) (a + 90) b L xs := by
    refine ⟨CS, hK, hTX, hNX, hlt, ⟨aBk_inj a, aMo_inj (a + 86), hDJ⟩, ⟨?_, ?_⟩, hX, hbl, hL⟩
    · rintro q (⟨k, k0, k1, k2⟩ | z)
      · have z := aBk_b a (k := k) ⟨k0, k1⟩
        omega
      · omega
    · rintro q ⟨k, k0, k1, k2⟩
      have k2 : q = a + 86 + k.toNat := k2
      omega
  refine W.base ?_
  have hl := lv_entry ([.ref b]) (n := 9) (Nat.le_of_ble_eq_true rfl)
  rw [lg_entry_eq]
  generalize (lg_sl ([.ref b]) ++ List.replicate (9 - (lg_sl ([.ref b])).length) Slot.unset).toArray = ls at hl ⊢
  have hl : lv_has ls 9 [(0, .ref b)] := hl
  have S := CS s.drawn
  have hK0 : KC E (s.setDrawn s.drawn) := hK
  have hO0 : va_AO RX0 (s.setDrawn s.drawn) := hO
  have pr : lqG p l e s m b below meth c s.drawn 0 0 (lw_Z below #[Value.ref b] s) 0 [(0, .ref b)] [] (fun H => H.size = a) := by
    refine g_newO S hK0 (a := a) (fs := [.null, .null, .null, .null, .null, .null, .null, .int (iI 0), .int (iI 0)]) (Wp' := fun H => H.size = a + 1 ∧ va_at E.1 vwCl (a, .inr (1, [.null, .null, .null, .null, .null, .null, .null, .int (iI 0), .int (iI 0)])) H) inlX1 tyX1 tyX1_ok (show vwCl[1]? = some (RX1, TX1, 9) from rfl) (S.2.2.2.2 (.classLink RL 8 RX1) (by decide +kernel)) (S.2.2.2.2 (.instantiable RX1 9) (by decide +kernel)) (S.2.2.2.2 (.initialized RX1) (by decide +kernel)) bk_born ⟨Nat.le_of_ble_eq_true rfl, Nat.le_of_ble_eq_true rfl⟩ (fun _ h => h) (fun _ _ _ hv hz _ => ⟨hz, hv⟩) dL_law_0 ?_
    refine g_dup S dL_law_3 rfl ?_
    refine g_callIK S hK0 hO0 (As := []) (Wp' := fun H => H.size = a + 86 ∧ CW E (aBk a) (fun _ => (0, (fun _ => 0), (fun _ => 0))) (fun _ => 0) (fun _ => 0) (fun _ => 0) 0 100 H) (m_X1_init l E a) (cwI 0 S.2.2.2.2 gL_law_X1_init rfl rfl rfl (S.2.2.2.2 (.initialized RX1) (by decide +kernel)) (S.2.2.2.2 (.methodLink RL 90 yX1_init) (by decide +kernel)) (S.2.2.2.2 (.instanceMethod yX1_init) (by decide +kernel)) rfl (by decide +kernel) ⟨Nat.le_of_ble_eq_true rfl, Nat.le_of_ble_eq_true rfl⟩) rfl rfl (Nat.le_of_ble_eq_true rfl) ⟨Nat.le_of_ble_eq_true rfl, Nat.le_of_ble_eq_true rfl⟩ (fun q hq => ha ▸ hq) (fun _ h => h) (fun _ _ _ h2 _ _ => h2) dL_law_4 ?_
    refine g_astore_n S (lv' := [(1, .ref a), (0, .ref b)]) dL_law_7 rfl (Nat.le_of_ble_eq_true rfl) rfl ?_
    refine g_newO S hK0 (a := a + 86) (fs := [.int (iI 0), .int (iI 0), .int (iI 0), .null, .null, .null]) (Wp' := fun H => H.size = a + 87 ∧ CW E (aBk a) (fun _ => (0, (fun _ => 0), (fun _ => 0))) (fun _ => 0) (fun _ => 0) (fun _ => 0) 0 100 H ∧ va_at E.1 vwCl (a + 86, .inr (2, [.int (iI 0), .int (iI 0), .int (iI 0), .null, .null, .null])) H) inlX2 tyX2 tyX2_ok (show vwCl[2]? = some (RX2, TX2, 6) from rfl) (S.2.2.2.2 (.classLink RL 91 RX2) (by decide +kernel)) (S.2.2.2.2 (.instantiable RX2 6) (by decide +kernel)) (S.2.2.2.2 (.initialized RX2) (by decide +kernel)) mo_born ⟨Nat.le_of_ble_eq_true rfl, Nat.le_of_ble_eq_true rfl⟩ (fun _ h => h.1) (fun _ _ h hv hz hq => ⟨hz, cw_kept h.2 (fun k hk => hq _ (aBk_b a hk).2), hv⟩) dL_law_8 ?_
    refine g_dup S dL_law_11 rfl ?_
    refine g_callI S hK0 (As := []) (Wp' := fun H => H.size = a + 90 ∧ CW E (aBk a) (fun _ => (0, (fun _ => 0), (fun _ => 0))) (fun _ => 0) (fun _ => 0) (fun _ => 0) 0 100 H ∧ MW E (aMo (a + 86)) 0 100 0 (fun _ => 0) (fun _ => 0) (fun _ => 0) H) (m_X2_init l E (a + 86)) (cwI 0 S.2.2.2.2 gL_law_X2_init rfl rfl rfl (S.2.2.2.2 (.initialized RX2) (by decide +kernel)) (S.2.2.2.2 (.methodLink RL 93 yX2_init) (by decide +kernel)) (S.2.2.2.2 (.instanceMethod yX2_init) (by decide +kernel)) rfl (by decide +kernel) ⟨Nat.le_of_ble_eq_true rfl, Nat.le_of_ble_eq_true rfl⟩) rfl rfl (Nat.le_of_ble_eq_true rfl) ⟨Nat.le_of_ble_eq_true rfl, Nat.le_of_ble_eq_true rfl⟩ (fun q hq => by have hq : q = a + 86 := hq; show s.heap.size ≤ q; omega) (fun _ h => ⟨h.1, h.2.2⟩) (fun _ _ h h2 _ hq => by have z9 := h.1; exact ⟨h2.1, cw_kept h.2.1 (fun k hk => by have z8 := aBk_b a hk; exact hq _ (by omega) (by show ¬ aBk a k = a + 86; omega)), h2.2⟩) dL_law_12 ?_
    refine g_astore_n S (lv' := [(2, .ref (a + 86)), (1, .ref a), (0, .ref b)]) dL_law_15 rfl (Nat.le_of_ble_eq_true rfl) rfl ?_
    refine g_iconst S dL_law_16 ?_
    refine g_newLK S hK0 (n := 1) (a := a + 90) (Wp' := lqB E (aBk a) (aMo (a + 86)) (a + 90) (fun _ => 0) (fun _ => (0, (fun _ => 0), (fun _ => 0))) (fun _ => 0) (fun _ => 0) (fun _ => 0) 0 100 0 (fun _ => 0)) (S.2.2.2.2 (.arrayClass .long) (by decide +kernel)) (by decide) ⟨Nat.le_of_ble_eq_true rfl, Nat.le_of_ble_eq_true rfl⟩ (fun _ h => h.1) (fun _ _ h hv _ hq => ⟨⟨fun k k0 k1 z => by have z8 := aBk_b a (k := k) ⟨k0, k1⟩; omega, cw_kept h.2.1 (fun k hk => by have z8 := aBk_b a hk; exact hq _ (by omega)), hv⟩, mw_kept h.2.2 (fun k hk => hq _ (by show a + 86 + k.toNat < a + 90; omega))⟩) dL_law_17 ?_
    refine g_astore_n S (lv' := [(3, .ref (a + 90)), (2, .ref (a + 86)), (1, .ref a), (0, .ref b)]) dL_law_19 rfl (Nat.le_of_ble_eq_true rfl) rfl ?_
    refine g_iconst S dL_law_20 ?_
    refine g_istore S (lv' := lvL (4 * ((0 : Nat) : Int)) b (a + 90) (aMo (a + 86)) (aBk a)) dL_law_21 (Nat.le_of_ble_eq_true rfl) rfl ?_
    refine g_wid (k := 91 + 30 * 0) (n := 8631 + 300 * 0) (Nat.le_of_ble_eq_true rfl) (Nat.le_of_ble_eq_true rfl) ?_
    exact lw_loop C hr hlocks 512 0 (by omega) (by omega) s.drawn _ _ _ _ _ _ _ _ _ hd0 (inv_0 (fun _ _ _ => rfl) (fun _ => rfl) (fun _ => rfl))
  exact pr s.heap [] ls hl ha.symm va_S.rf
set_option maxHeartbeats 4000000 in
theorem lw_walk (l : Launch) (hflags : l.flags = flags0) (b : Addr) (xs : List Int32) : MetFree l x (headSpec (Jvm.Cond.code x code maxLocals ret :: tables_1) room_1) (lw_P b xs) (fun _ _ _ _ _ => True) lw_Q := by
  refine MetFree.of_bodyS (code := code) (maxLocals := maxLocals) (ret := ret) (by decide) ?_ ?_
  · intro args s m h hn
    obtain ⟨meth, c, h1, h2, h3, h4, h5, h6, -, -⟩ := Cond.code_spec hn (atoms_spec (ws := Jvm.Cond.code x code maxLocals ret :: tables_1) h _ List.mem_cons_self)
    exact ⟨meth, c, h1, h2, h3, h4, h5, h6⟩
  · intro p e s m args below meth c s₁ B hml0 hP _
    obtain ⟨rfl, hx, hbd, hgv⟩ := hP
    obtain ⟨scr, harrAt, hlist, hof, hsmall⟩ := hx
    obtain ⟨hcb, hkn, -, -⟩ := State.arrayAt?_spec harrAt
    have hown : s.vm.findClass R_law = some m.cls := findClass_of_methodNamed B.named
    have hts0 : ∀ c ∈ (Jvm.Cond.code x code maxLocals ret :: tables_1), c.before #[Value.ref b] s = true := atoms_spec (ws := Jvm.Cond.code x code maxLocals ret :: tables_1) B.pre
    have hts : ∀ w ∈ lw_tbl, w.before #[Value.ref b] s = true := k2_hts_sels lw_privs (fun w hw => hts0 w (List.mem_cons_of_mem _ hw)) lw_privs_ok
    have hml : c.maxLocals = 9 := B.maxLocals_eq (hts0 _ List.mem_cons_self)
    have X₀ : Stand p l e room_1 s m #[Value.ref b] below meth c s₁ [] 0 0 := Stand.of_body B
    have hh0 : s₁.heap = s.heap := by rw [B.state]; rfl
    have hsz : scr.slots.size = xs.length := by rw [← Array.length_toList, hlist, List.length_map]
    have hval : ∀ j : Nat, j < xs.length → scr.slots[j]? = some (.int (xs.getD j 0)) := fun j hj => by
      rw [← Array.getElem?_toList, hlist]
      simp [hj]
    have hbl : b < s.heap.size := (Array.getElem?_eq_some_iff.mp hcb).1
    have hX : va_X b xs.length (fun j => xs.getD j 0) s s.heap := ⟨scr, hcb, hof, hkn, hsz, hval⟩
    have K : W p l e room_1 s m #[Value.ref b] below meth c s₁.heap [] 0 0 (lw_Z below #[Value.ref b] s) (entryFrame m ([Value.ref b] : List Value).toArray 9) := by
      rw [hh0]
      exact whole_start l hflags hbd ⟨B.exec, B.bytes, B.returns, hml, hown, hts, hX, hbl, B.notSynchronized, hgv⟩
    obtain ⟨t, a1, o, b1, b2, b3⟩ := K s₁ rfl X₀
    exact ⟨t, o, a1, b1, b2, b3⟩
theorem lw_pre_spec {args : Array Value} {s : State} (h : (Jvm.Cond.and given_1 narrow_1).before args s = true) (hr : rest_1_c.before args s = true) : ∃ (b : Addr) (xs : List Int32), lw_P b xs args s := by
  have hs := flat_of_before _ h
  have hq := flat_of_before _ hr
  have hc : (Cond.count 1).before args s = true := hs _ (by decide +kernel)
  have harr : (Cond.arrayOf (.arg 0) .int).before args s = true := hs _ (by decide +kernel)
  have hle : (Cond.le (.length (.arg 0)) (.int 2048)).before args s = true := hs _ (by decide +kernel)
  have hlen : (Cond.isInt (.length (.arg 0))).before args s = true := hq _ (by decide +kernel)
  have hall : (Cond.all (.arg 0) (.isInt (.elem (.arg 0) (.index 0)))).before args s = true := hq _ (by decide +kernel)
  obtain ⟨b, xs, hb, hx⟩ := State.ints_of_pre rfl harr hlen hall
  have hsm : xs.length < 2 ^ 31 := hx.choose_spec.2.2.2
  have hev : (Term.length (.arg 0)).eval args s none [] s = some (.int xs.length.toInt32) := hx.length_eval hb
  have hv := Cond.le_ints hev (show (Term.int 2048).eval args s none [] s = some (.int 2048) from rfl)
  have hd : xs.length.toInt32 ≤ 2048 := by
    simpa [Cond.before, Cond.holds, hv] using hle
  have hN : xs.length ≤ 2048 := (Int32.ofNat_le_ofNat hsm (by decide)).mp (show Int32.ofNat xs.length ≤ Int32.ofNat 2048 from hd)
  exact ⟨b, xs, Cond.one_arg hc (show args[0]? = some (.ref b) from hb), hx, hN, h⟩
theorem lw_comes (l : Launch) (hflags : l.flags = flags0) : Comes l x (Jvm.Cond.code x code maxLocals ret :: tables_1) room_1 (fun tb e args s => Calls_1 tb e args s ∧ rest_1 tb e args s ∧ Pre_1 tb e args s)
    (fun _ _ args s o t => lw_Q args s o t) := by
  intro p e ha hc hk s m args below hf hfit hheap happ hpre
  obtain ⟨b, xs, hP⟩ := lw_pre_spec hpre.2.2 hpre.2.1
  obtain ⟨k, o, h1, h2, h3, hQ⟩ := lw_walk l hflags b xs p e ha hc hk s m args below hf ((Spec.applies_iff_loose hf).mp happ).1 hP trivial
  exact ⟨k, o, h1, h2, h3, hQ⟩
theorem lw_frame {s t : State} {o : Outcome} {args : Array Value} (h : State.butDraws s t lw_cs (fun t1 => Framed s o t1 [] 601024 7293034)) :
    State.butDraws s t [Jvm.Choice.named "NaN.bits"] (fun t1 => Framed s o t1 (fieldLocs frame_1_writes args s ++ arrayLocs frame_1_arrays args s ++ staticLocs frame_1_statics s) 601024 7293034) := h
theorem lw_limb (L : Cond) (hL : ∀ (args : Array Value) (s t : State), L.after args s (.returned (some (.int 1))) t = true) :
    ArmFor flags0 classFile x code maxLocals ret World_1 tables_1 room_1 Calls_1 rest_1 Pre_1
      (fun tb e a s o t => postC L tb e a s o t ∧ State.butDraws s t [Jvm.Choice.named "NaN.bits"] (fun t1 => Framed s o t1 (fieldLocs frame_1_writes a s ++ arrayLocs frame_1_arrays a s ++ staticLocs frame_1_statics s) 601024 7293034)) := by
  intro l hflags _ _ p e ha hc hk s m args below hf hfit hheap happ hpre
  obtain ⟨k, o, h1, h2, h3, rfl, hF⟩ := lw_comes l hflags p e ha hc hk s m args below hf hfit hheap happ hpre
  exact ⟨k, _, h1, h2, h3, hL args s _, lw_frame hF⟩
theorem i_vc : Claimed_1_1 ∧ Claimed_1_2 := ⟨lw_limb limb_1_1 (fun args s t => by simp [limb_1_1, Cond.after, Cond.holds, Cond.value]), lw_limb limb_1_2 (fun args s t => Cond.after_iff.mpr (by
  first | (rw [show limb_1_2 = Cond.eq .result (.int 1) from rfl, Cond.eq_ints (x := 1) (y := 1) rfl rfl]; simp; done) | (simp [limb_1_2, Cond.value, Term.eval]; done)))⟩
