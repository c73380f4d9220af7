section GZ
variable {p : Program} {l : Launch} {e : Env} {R : Room} {s : State} {m : MethodId} {args : Array Value} {below : List Frame} {meth : Method} {c : Code} {nL : Nat} {A : Nat → Prop} {cells slots : Nat} {Q : State → Prop}
variable {cc : ByteArray} {Ts : List Cond} {own : String} {pc : Nat} {lv lv' : List (Nat × Value)} {st : List Value} {Wp Wp' : Heap → Prop} {E : EN}
theorem g_newZK (S : CallFix p m c cc nL s args Ts own) (hK : KC E s) {n a : Nat} (harr : (Cond.arrayClass .boolean).before args s = true) (hn : n ≤ 10000) (hcs : cells + 1 ≤ R.cells ∧ slots + n ≤ R.slots) (hsz : ∀ H, Wp H → H.size = a)
    (hW : ∀ (H H' : Heap), Wp H → va_at E.1 vwCl (a, aI (E.2 2) n (fun _ => 0)) H' → H'.size = a + 1 → (∀ q : Nat, q < a → H'[q]? = H[q]?) → Wp' H') (hd : decode cc pc = .ok (.newarray .boolean, 2))
    (kk : G p l e R s m args below meth c nL A (cells + 1) (slots + n) Q (pc + 2) lv (.ref a :: st) Wp') : G p l e R s m args below meth c nL A cells slots Q pc lv (.int (iI n) :: st) Wp := by
  intro H locs ls hl h hS
  have hz := hsz H h
  refine va_newaK (atype := .boolean) (N := n) S.1 S.2.1 harr rfl hd rfl ?_ ?_ ?_ hcs.1 hcs.2 hz fun H1 cA e1 z1 o1 hAr hNm => ?_
  · rw [← iI_0, iI_lt (by omega)]; omega
  · rw [iI_cl (by omega) (by omega)]; omega
  · show n * 1 ≤ 536870912; omega
  · have hE : s.vm.findClass ("[" ++ (FieldType.boolean).toString) = some (E.2 2) := (hK.2 2 _ rfl).2
    have ec : cA = E.2 2 := Option.some.inj (hNm.symm.trans hE)
    subst ec
    have h0 := hS.1
    refine kk H1 locs ls hl (hW H H1 h ?_ z1 o1) ⟨by omega, fun q q1 q2 => (o1 q (by omega)).trans (hS.2.1 q q1 q2), hS.2.2⟩
    show H1[a]? = some (vp_cell _ _)
    rw [e1]
    exact congrArg some rfl
end GZ
/-- the model, new at a -/
def aMo (a : Nat) : Int → Nat := fun k => a + k.toNat
theorem aMo_inj (a : Nat) : INM (aMo a) := fun i j h0 _ h2 _ h4 => by have h4 : a + i.toNat = a + j.toNat := h4; omega
set_option maxHeartbeats 4000000 in
set_option maxRecDepth 100000 in
theorem m_X2_init (l : Launch) (E : EN) (a : Nat) : Met l yX2_init wsX2_init ({ frames := 1, cells := 3, slots := 7296, locals := 20 }) (CI E [.ref a] (fun H => H.size = a + 1 ∧ va_at E.1 vwCl (a, .inr (2, [.int (iI 0), .int (iI 0), .int (iI 0), .null, .null, .null])) H)) (QW none (fun H => H.size = a + 4 ∧ MW E (aMo a) 0 100 0 (fun _ => 0) (fun _ => 0) (fun _ => 0) H) (fun q => q = a)) 3 7296 (fun q => q = a) := by
  refine g_met (cc := cX2_init) (maxL := 1) (ret := none) (lv := [(0, .ref a)]) (by decide) rfl (Nat.le_of_ble_eq_true rfl) rfl ?_
  intro xp xe xs xm xa xb xh xc S xK xr xlk xin
  have k1 := S.2.2.2.2 (.methodLink RX2 3 objectInit) (by decide +kernel)
  have k2 := S.2.2.2.2 (.instanceMethod objectInit) (by decide +kernel)
  have k3 := S.2.2.2.2 (.code objectInit ⟨#[0xb1]⟩ 1 none) (List.mem_cons_of_mem _ (List.mem_append_left _ (List.mem_of_getElem? (i := 2) rfl)))
  have kf9 := S.2.2.2.2 (.fieldLink RX2 9 "BookIndexModel" "pages" "I") (by decide +kernel)
  have kf13 := S.2.2.2.2 (.fieldLink RX2 13 "BookIndexModel" "on" "[Z") (by decide +kernel)
  have kf17 := S.2.2.2.2 (.fieldLink RX2 17 "BookIndexModel" "see" "[I") (by decide +kernel)
  have kf21 := S.2.2.2.2 (.fieldLink RX2 21 "BookIndexModel" "also" "[I") (by decide +kernel)
  have kaI := S.2.2.2.2 (.arrayClass .int) (by decide +kernel)
  have kaZ := S.2.2.2.2 (.arrayClass .boolean) (by decide +kernel)
  have hin2 : ∀ w ∈ wsX20, w ∈ wsX2_init := by decide +kernel
  refine g_aload_n S dX2_init_0 rfl 0 rfl ?_
  refine g_objInit S k1 k2 k3 dX2_init_1 ⟨Nat.le_of_ble_eq_true rfl, Nat.le_of_ble_eq_true rfl⟩ (Nat.le_of_ble_eq_true rfl) ?_
  refine g_aload_n S dX2_init_4 rfl 0 rfl ?_
  refine g_bipush S dX2_init_5 (by decide) ?_
  refine g_put S xK (Wp' := fun H => H.size = a + 1 ∧ va_at E.1 vwCl (a, .inr (2, [.int (iI 0), .int (iI 100), .int (iI 0), .null, .null, .null])) H) (ref := "BookIndexModel") (ty := .int) hin2 tyX2 tyX2_ok nmX2 1 (by decide) (show vwCl[2]? = some (RX2, TX2, 6) from rfl) kf9 (fun _ h9 => h9) rfl (by decide +kernel) rfl rfl (fun _ h => h.2) (Nat.le_of_ble_eq_true rfl) rfl (fun _ _ h hv z oq => ⟨z.trans h.1, hv⟩) dX2_init_7 ?_
  refine g_aload_n S dX2_init_10 rfl 0 rfl ?_
  refine g_sipush S dX2_init_11 (by decide) ?_
  refine g_newZK S xK (n := 7248) (a := a + 1) (Wp' := fun H => H.size = a + 2 ∧ va_at E.1 vwCl (a, .inr (2, [.int (iI 0), .int (iI 100), .int (iI 0), .null, .null, .null])) H ∧ va_at E.1 vwCl (a + 1, aI (E.2 2) 7248 (fun _ => 0)) H) kaZ (by decide) ⟨Nat.le_of_ble_eq_true rfl, Nat.le_of_ble_eq_true rfl⟩ (fun _ h => h.1) (fun _ _ h hv hz hq => ⟨hz, h.2.kept (hq a (by omega)), hv⟩) dX2_init_14 ?_
  refine g_putF S xK (Wp' := fun H => H.size = a + 2 ∧ va_at E.1 vwCl (a, .inr (2, [.int (iI 0), .int (iI 100), .int (iI 0), .ref (a + 1), .null, .null])) H ∧ va_at E.1 vwCl (a + 1, aI (E.2 2) 7248 (fun _ => 0)) H) (ref := "BookIndexModel") (ty := .array .boolean) hin2 tyX2 tyX2_ok nmX2 3 (by decide) (show vwCl[2]? = some (RX2, TX2, 6) from rfl) kf13 (fun _ h9 => h9) rfl (xin rfl) rfl (by decide +kernel) rfl rfl (fun _ h => h.2.1) (Nat.le_of_ble_eq_true rfl) rfl (fun _ _ h hv z oq => ⟨z.trans h.1, hv, h.2.2.kept (oq (a + 1) (by show a + 1 ≠ a; omega))⟩) dX2_init_16 ?_
  refine g_aload_n S dX2_init_19 rfl 0 rfl ?_
  refine g_bipush S dX2_init_20 (by decide) ?_
  refine g_newIK S xK (n := 24) (a := a + 2) (Wp' := fun H => H.size = a + 3 ∧ va_at E.1 vwCl (a, .inr (2, [.int (iI 0), .int (iI 100), .int (iI 0), .ref (a + 1), .null, .null])) H ∧ va_at E.1 vwCl (a + 1, aI (E.2 2) 7248 (fun _ => 0)) H ∧ va_at E.1 vwCl (a + 2, aI (E.2 0) 24 (fun _ => 0)) H) kaI (by decide) ⟨Nat.le_of_ble_eq_true rfl, Nat.le_of_ble_eq_true rfl⟩ (fun _ h => h.1) (fun _ _ h hv hz hq => ⟨hz, h.2.1.kept (hq a (by omega)), h.2.2.kept (hq (a + 1) (by omega)), hv⟩) dX2_init_22 ?_
  refine g_putF S xK (Wp' := fun H => H.size = a + 3 ∧ va_at E.1 vwCl (a, .inr (2, [.int (iI 0), .int (iI 100), .int (iI 0), .ref (a + 1), .ref (a + 2), .null])) H ∧ va_at E.1 vwCl (a + 1, aI (E.2 2) 7248 (fun _ => 0)) H ∧ va_at E.1 vwCl (a + 2, aI (E.2 0) 24 (fun _ => 0)) H) (ref := "BookIndexModel") (ty := .array .int) hin2 tyX2 tyX2_ok nmX2 4 (by decide) (show vwCl[2]? = some (RX2, TX2, 6) from rfl) kf17 (fun _ h9 => h9) rfl (xin rfl) rfl (by decide +kernel) rfl rfl (fun _ h => h.2.1) (Nat.le_of_ble_eq_true rfl) rfl (fun _ _ h hv z oq => ⟨z.trans h.1, hv, h.2.2.1.kept (oq (a + 1) (by show a + 1 ≠ a; omega)), h.2.2.2.kept (oq (a + 2) (by show a + 2 ≠ a; omega))⟩) dX2_init_24 ?_
  refine g_aload_n S dX2_init_27 rfl 0 rfl ?_
  refine g_bipush S dX2_init_28 (by decide) ?_
  refine g_newIK S xK (n := 24) (a := a + 3) (Wp' := fun H => H.size = a + 4 ∧ va_at E.1 vwCl (a, .inr (2, [.int (iI 0), .int (iI 100), .int (iI 0), .ref (a + 1), .ref (a + 2), .null])) H ∧ va_at E.1 vwCl (a + 1, aI (E.2 2) 7248 (fun _ => 0)) H ∧ va_at E.1 vwCl (a + 2, aI (E.2 0) 24 (fun _ => 0)) H ∧ va_at E.1 vwCl (a + 3, aI (E.2 0) 24 (fun _ => 0)) H) kaI (by decide) ⟨Nat.le_of_ble_eq_true rfl, Nat.le_of_ble_eq_true rfl⟩ (fun _ h => h.1) (fun _ _ h hv hz hq => ⟨hz, h.2.1.kept (hq a (by omega)), h.2.2.1.kept (hq (a + 1) (by omega)), h.2.2.2.kept (hq (a + 2) (by omega)), hv⟩) dX2_init_30 ?_
  refine g_putF S xK (Wp' := fun H => H.size = a + 4 ∧ va_at E.1 vwCl (a, .inr (2, [.int (iI 0), .int (iI 100), .int (iI 0), .ref (a + 1), .ref (a + 2), .ref (a + 3)])) H ∧ va_at E.1 vwCl (a + 1, aI (E.2 2) 7248 (fun _ => 0)) H ∧ va_at E.1 vwCl (a + 2, aI (E.2 0) 24 (fun _ => 0)) H ∧ va_at E.1 vwCl (a + 3, aI (E.2 0) 24 (fun _ => 0)) H) (ref := "BookIndexModel") (ty := .array .int) hin2 tyX2 tyX2_ok nmX2 5 (by decide) (show vwCl[2]? = some (RX2, TX2, 6) from rfl) kf21 (fun _ h9 => h9) rfl (xin rfl) rfl (by decide +kernel) rfl rfl (fun _ h => h.2.1) (Nat.le_of_ble_eq_true rfl) rfl (fun _ _ h hv z oq => ⟨z.trans h.1, hv, h.2.2.1.kept (oq (a + 1) (by show a + 1 ≠ a; omega)), h.2.2.2.1.kept (oq (a + 2) (by show a + 2 ≠ a; omega)), h.2.2.2.2.kept (oq (a + 3) (by show a + 3 ≠ a; omega))⟩) dX2_init_32 ?_
  exact g_vret S xr xlk dX2_init_35 (fun _ h => ⟨h.1, h.2.1, h.2.2.1, h.2.2.2.1, h.2.2.2.2⟩)
