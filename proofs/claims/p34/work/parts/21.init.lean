/-! CONSTRUCTORS -/
section GK
variable {p : Program} {l : Launch} {e : Env} {R : Room} {s : State} {m : MethodId} {args : Array Value} {below : List Frame} {meth : Method} {c : Code} {nL : Nat} {A : Nat → Prop} {cells slots : Nat} {Q : State → Prop}
variable {cc : ByteArray} {Ts : List Cond} {own : String} {pc : Nat} {lv lv' : List (Nat × Value)} {st : List Value} {Wp Wp' : Heap → Prop} {E : EN}
theorem g_objInit (S : CallFix p m c cc nL s args Ts own) {a idx : Nat} (hlink : (Cond.methodLink own idx objectInit).before args s = true) (hinst : (Cond.instanceMethod objectInit).before args s = true) (hcode : (Cond.code objectInit ⟨#[0xb1]⟩ 1 none).before args s = true) (hd : decode cc pc = .ok (.invokespecial idx, 3)) (hR : 1 ≤ R.frames ∧ 20 ≤ R.locals) (hrm : (st.map fun v => v.category).sum ≤ 8)
    (kk : G p l e R s m args below meth c nL A cells slots Q (pc + 3) lv st Wp) : G p l e R s m args below meth c nL A cells slots Q pc lv (.ref a :: st) Wp :=
  fun H locs ls hl h hS => W.objInit S.1 S.2.1 S.2.2.2.1 hlink hinst hcode rfl (by rw [S.2.2.1]; exact hl.1) rfl hd hR.1 (Nat.le_trans (Nat.add_le_add_right (lv_room hrm) 12) hR.2) (kk H locs ls hl h hS)
theorem g_newIK (S : CallFix p m c cc nL s args Ts own) (hK : KC E s) {n a : Nat} (harr : (Cond.arrayClass .int).before args s = true) (hn : n ≤ 1000) (hcs : cells + 1 ≤ R.cells ∧ slots + n ≤ R.slots) (hsz : ∀ H, Wp H → H.size = a)
    (hW : ∀ (H H' : Heap), Wp H → va_at E.1 vwCl (a, aI (E.2 0) n (fun _ => 0)) H' → H'.size = a + 1 → (∀ q : Nat, q < a → H'[q]? = H[q]?) → Wp' H') (hd : decode cc pc = .ok (.newarray .int, 2))
    (kk : G p l e R s m args below meth c nL A (cells + 1) (slots + n) Q (pc + 2) lv (.ref a :: st) Wp') : G p l e R s m args below meth c nL A cells slots Q pc lv (.int (iI n) :: st) Wp := by
  intro H locs ls hl h hS
  have hz := hsz H h
  refine va_newaK (atype := .int) (N := n) S.1 S.2.1 harr rfl hd rfl ?_ ?_ ?_ hcs.1 hcs.2 hz fun H1 cA e1 z1 o1 hAr hNm => ?_
  · rw [← iI_0, iI_lt (by omega)]; omega
  · rw [iI_cl (by omega) (by omega)]; omega
  · show n * 4 ≤ 536870912; omega
  · have hE : s.vm.findClass ("[" ++ (FieldType.int).toString) = some (E.2 0) := (hK.2 0 _ rfl).2
    have ec : cA = E.2 0 := Option.some.inj (hNm.symm.trans hE)
    subst ec
    have h0 := hS.1
    refine kk H1 locs ls hl (hW H H1 h ?_ z1 o1) ⟨by omega, fun q q1 q2 => (o1 q (by omega)).trans (hS.2.1 q q1 q2), hS.2.2⟩
    show H1[a]? = some (vp_cell _ _)
    rw [e1]
    exact congrArg some rfl
end GK
/-- a Spans at a, its two rows behind it -/
def SPA (E : EN) (a : Nat) (H : Heap) : Prop := va_at E.1 vwCl (a, .inr (0, [.ref (a + 1), .ref (a + 2), .int (iI 0)])) H ∧ va_at E.1 vwCl (a + 1, aI (E.2 0) 16 (fun _ => 0)) H ∧ va_at E.1 vwCl (a + 2, aI (E.2 0) 16 (fun _ => 0)) H
set_option maxHeartbeats 4000000 in
set_option maxRecDepth 100000 in
theorem m_X0_init (l : Launch) (E : EN) (a : Nat) : Met l yX0_init wsX0_init ({ frames := 1, cells := 2, slots := 32, locals := 20 }) (CI E [.ref a] (fun H => H.size = a + 1 ∧ va_at E.1 vwCl (a, .inr (0, [.null, .null, .int (iI 0)])) H)) (QW none (fun H => H.size = a + 3 ∧ SPA E a H) (fun q => q = a)) 2 32 (fun q => q = a) := by
  refine g_met (cc := cX0_init) (maxL := 1) (ret := none) (lv := [(0, .ref a)]) (by decide) rfl (Nat.le_of_ble_eq_true rfl) rfl ?_
  intro xp xe xs xm xa xb xh xc S xK xr xlk xin
  have k1 := S.2.2.2.2 (.methodLink RX0 3 objectInit) (by decide +kernel)
  have k2 := S.2.2.2.2 (.instanceMethod objectInit) (by decide +kernel)
  have k3 := S.2.2.2.2 (.code objectInit ⟨#[0xb1]⟩ 1 none) (List.mem_cons_of_mem _ (List.mem_append_left _ (List.mem_of_getElem? (i := 2) rfl)))
  have kf9 := S.2.2.2.2 (.fieldLink RX0 9 "BookIndex$Spans" "firsts" "[I") (by decide +kernel)
  have kf15 := S.2.2.2.2 (.fieldLink RX0 15 "BookIndex$Spans" "lasts" "[I") (by decide +kernel)
  have kf7 := S.2.2.2.2 (.fieldLink RX0 18 "BookIndex$Spans" "count" "I") (by decide +kernel)
  have kaI := S.2.2.2.2 (.arrayClass .int) (by decide +kernel)
  have hin0 : ∀ w ∈ wsX00, w ∈ wsX0_init := by decide +kernel
  refine g_aload_n S dX0_init_0 rfl 0 rfl ?_
  refine g_objInit S k1 k2 k3 dX0_init_1 ⟨Nat.le_of_ble_eq_true rfl, Nat.le_of_ble_eq_true rfl⟩ (Nat.le_of_ble_eq_true rfl) ?_
  refine g_aload_n S dX0_init_4 rfl 0 rfl ?_
  refine g_bipush S dX0_init_5 (by decide) ?_
  refine g_newIK S xK (n := 16) (a := a + 1) (Wp' := fun H => H.size = a + 2 ∧ va_at E.1 vwCl (a, .inr (0, [.null, .null, .int (iI 0)])) H ∧ va_at E.1 vwCl (a + 1, aI (E.2 0) 16 (fun _ => 0)) H) kaI (by decide) ⟨Nat.le_of_ble_eq_true rfl, Nat.le_of_ble_eq_true rfl⟩ (fun _ h => h.1) (fun _ _ h hv hz hq => ⟨hz, h.2.kept (hq a (Nat.lt_succ_self a)), hv⟩) dX0_init_7 ?_
  refine g_putF S xK (Wp' := fun H => H.size = a + 2 ∧ va_at E.1 vwCl (a, .inr (0, [.ref (a + 1), .null, .int (iI 0)])) H ∧ va_at E.1 vwCl (a + 1, aI (E.2 0) 16 (fun _ => 0)) H) (ref := "BookIndex$Spans") (ty := .array .int) hin0 tyX0 tyX0_ok nmX0 0 (by decide) (show vwCl[0]? = some (RX0, TX0, 3) from rfl) kf9 (fun _ h9 => h9) rfl (xin rfl) rfl (by decide +kernel) rfl rfl (fun _ h => h.2.1) (Nat.le_of_ble_eq_true rfl) rfl (fun _ _ h hv z oq => ⟨z.trans h.1, hv, h.2.2.kept (oq (a + 1) (Nat.succ_ne_self a))⟩) dX0_init_9 ?_
  refine g_aload_n S dX0_init_12 rfl 0 rfl ?_
  refine g_bipush S dX0_init_13 (by decide) ?_
  refine g_newIK S xK (n := 16) (a := a + 2) (Wp' := fun H => H.size = a + 3 ∧ va_at E.1 vwCl (a, .inr (0, [.ref (a + 1), .null, .int (iI 0)])) H ∧ va_at E.1 vwCl (a + 1, aI (E.2 0) 16 (fun _ => 0)) H ∧ va_at E.1 vwCl (a + 2, aI (E.2 0) 16 (fun _ => 0)) H) kaI (by decide) ⟨Nat.le_of_ble_eq_true rfl, Nat.le_of_ble_eq_true rfl⟩ (fun _ h => h.1) (fun _ _ h hv hz hq => ⟨hz, h.2.1.kept (hq a (by omega)), h.2.2.kept (hq (a + 1) (by omega)), hv⟩) dX0_init_15 ?_
  refine g_putF S xK (Wp' := fun H => H.size = a + 3 ∧ SPA E a H) (ref := "BookIndex$Spans") (ty := .array .int) hin0 tyX0 tyX0_ok nmX0 1 (by decide) (show vwCl[0]? = some (RX0, TX0, 3) from rfl) kf15 (fun _ h9 => h9) rfl (xin rfl) rfl (by decide +kernel) rfl rfl (fun _ h => h.2.1) (Nat.le_of_ble_eq_true rfl) rfl (fun _ _ h hv z oq => ⟨z.trans h.1, hv, h.2.2.1.kept (oq (a + 1) (by show a + 1 ≠ a; omega)), h.2.2.2.kept (oq (a + 2) (by show a + 2 ≠ a; omega))⟩) dX0_init_17 ?_
  refine g_aload_n S dX0_init_20 rfl 0 rfl ?_
  refine g_iconst S dX0_init_21 ?_
  refine g_put S xK (Wp' := fun H => H.size = a + 3 ∧ SPA E a H) (ref := "BookIndex$Spans") (ty := .int) hin0 tyX0 tyX0_ok nmX0 2 (by decide) (show vwCl[0]? = some (RX0, TX0, 3) from rfl) kf7 (fun _ h9 => h9) rfl (by decide +kernel) rfl rfl (fun _ h => h.2.1) (Nat.le_of_ble_eq_true rfl) rfl (fun _ _ h hv z oq => ⟨z.trans h.1, hv, h.2.2.1.kept (oq (a + 1) (by show a + 1 ≠ a; omega)), h.2.2.2.kept (oq (a + 2) (by show a + 2 ≠ a; omega))⟩) dX0_init_22 ?_
  exact g_vret S xr xlk dX0_init_25 (fun _ h => h)
