/-! THE LAW'S CASES: each call beside the model's -/
section CAS
variable {p : Program} {l : Launch} {e : Env} {s : State} {m : MethodId} {below : List Frame} {meth : Method} {c : Code} {d0 : Drawn} {cells slots : Nat} {Q : State → Prop} {E : EN} {ad am : Int → Nat} {ao b L : Nat} {xs : Nat → Int32}
variable {fo : Int → Int64} {sp : Int → SpT} {se : Int → Int} {al : Int → Nat} {ta : Int → Int} {n pg th : Int} {on : Int → Int} {iz : Int}
set_option maxHeartbeats 4000000 in
set_option maxRecDepth 100000 in
/-- addHeading -/
theorem ca_0 (C : lqC p l s m c E ad am ao b L xs) (hd0 : s.drawn.sameBut d0 lw_cs) (hi : 0 ≤ iz ∧ iz + 3 < L) (I : INV sp se al n pg on) (hcs : cells + 30 ≤ 601024 ∧ slots + 300 ≤ 7293034)
    (K : lqK p l e s m b below meth c Q E ad am ao iz cells slots) : lqG p l e s m b below meth c d0 cells slots Q 176 (lvL iz b ao am ad) [] (lqB E ad am ao fo sp se al ta n pg th on) := by
  obtain ⟨CS, hK, hX, hN, hlt, ⟨hj, hjm, hd⟩, ⟨hao, ham⟩, hXs, hbl, hL⟩ := id C
  have S := CS d0
  have hn0 := I.hn
  have hpg0 := I.hpg
  by_cases cX : n = 24
  · skip
    refine sg0 C (RR := fun g => g = sp) (PM := fun g => g = on) hd_0 (m_L_addHeadingX l hlt E s.heap.size hj sp se al ta n pg ao fo (by first | assumption | omega) hao) (vx_cwSW 2 S.2.2.2.2 gL_law_L_addHeading rfl rfl rfl (by decide +kernel) ⟨Nat.le_of_ble_eq_true rfl, Nat.le_of_ble_eq_true rfl⟩) (m_X2_addHeadingE l E hjm th pg n on se al (by first | assumption | omega)) (cwV 0 S.2.2.2.2 gL_law_X2_addHeading rfl rfl rfl (by decide +kernel) ⟨Nat.le_of_ble_eq_true rfl, Nat.le_of_ble_eq_true rfl⟩) ⟨show cells + 1 ≤ 601024 by omega, show slots + 6 ≤ 7293034 by omega⟩ (fun H hH => ⟨(sp, ta), rfl, hH⟩) (fun H hH => ⟨_, rfl, hH⟩) (fun hs tb oo h1 h2 => ?_)
    exact tlE C te_0 ⟨show cells + 1 ≤ 601024 by omega, show slots + 6 ≤ 7293034 by omega⟩ (by decide) (g_wid (k := cells + 30) (n := slots + 300) (by omega) (by omega) (K d0 _ _ _ _ _ _ _ _ _ hd0 (by rw [h1, h2]; exact I)))
  refine sg0 C (RR := fun g => g = sp) (PM := fun g => g = on) hd_0 (m_L_addHeading l hlt E s.heap.size hj sp se al ta n pg ao fo (by first | assumption | omega) hao) (vx_cwSW 2 S.2.2.2.2 gL_law_L_addHeading rfl rfl rfl (by decide +kernel) ⟨Nat.le_of_ble_eq_true rfl, Nat.le_of_ble_eq_true rfl⟩) (m_X2_addHeading l E hjm th pg n on se al (by first | assumption | omega)) (cwV 0 S.2.2.2.2 gL_law_X2_addHeading rfl rfl rfl (by decide +kernel) ⟨Nat.le_of_ble_eq_true rfl, Nat.le_of_ble_eq_true rfl⟩) ⟨show cells + 0 ≤ 601024 by omega, show slots + 0 ≤ 7293034 by omega⟩ (fun H hH => ⟨(sp, ta), rfl, hH⟩) (fun H hH => ⟨_, rfl, hH⟩) (fun hs tb oo h1 h2 => ?_)
  exact tlI C te_0 ti_0 ⟨show cells + 0 ≤ 601024 by omega, show slots + 0 ≤ 7293034 by omega⟩ (by rw [upI_s, show n + 1 - 1 = n by omega]) (g_wid (k := cells + 30) (n := slots + 300) (by omega) (by omega) (K d0 _ _ _ _ _ _ _ _ _ hd0 (by rw [h1, h2]; exact inv_add I (by omega))))
set_option maxHeartbeats 4000000 in
set_option maxRecDepth 100000 in
/-- addPages -/
theorem ca_1 (C : lqC p l s m c E ad am ao b L xs) (hd0 : s.drawn.sameBut d0 lw_cs) (hi : 0 ≤ iz ∧ iz + 3 < L) (I : INV sp se al n pg on) (hcs : cells + 30 ≤ 601024 ∧ slots + 300 ≤ 7293034)
    (K : lqK p l e s m b below meth c Q E ad am ao iz cells slots) : lqG p l e s m b below meth c d0 cells slots Q 220 (lvL iz b ao am ad) [] (lqB E ad am ao fo sp se al ta n pg th on) := by
  obtain ⟨CS, hK, hX, hN, hlt, ⟨hj, hjm, hd⟩, ⟨hao, ham⟩, hXs, hbl, hL⟩ := id C
  have S := CS d0
  have r0 := iI_r (xs (iz + 1).toNat)
  have r1 := iI_r (xs (iz + 2).toNat)
  have r2 := iI_r (xs (iz + 3).toNat)
  have hn0 := I.hn
  have hpg0 := I.hpg
  by_cases cX : (xs (iz + 1).toNat).toInt < 0 ∨ n ≤ (xs (iz + 1).toNat).toInt
  · skip
    refine sg3 C hi (RR := fun g => g = sp) (PM := fun g => g = on) hd_1 (m_L_addPagesX l hlt E s.heap.size hj sp se al ta n pg ((xs (iz + 1).toNat).toInt) ((xs (iz + 2).toNat).toInt) ((xs (iz + 3).toNat).toInt) ao fo (by first | assumption | omega) (by first | assumption | omega) I.hn hao) (vx_cwSW 5 S.2.2.2.2 gL_law_L_addPages rfl rfl rfl (by decide +kernel) ⟨Nat.le_of_ble_eq_true rfl, Nat.le_of_ble_eq_true rfl⟩) (m_X2_addPagesE l E hjm th pg n on se al ((xs (iz + 1).toNat).toInt) ((xs (iz + 2).toNat).toInt) ((xs (iz + 3).toNat).toInt) (by first | assumption | omega) (by first | assumption | omega) I.hn) (cwV 3 S.2.2.2.2 gL_law_X2_addPages rfl rfl rfl (by decide +kernel) ⟨Nat.le_of_ble_eq_true rfl, Nat.le_of_ble_eq_true rfl⟩) ⟨show cells + 1 ≤ 601024 by omega, show slots + 6 ≤ 7293034 by omega⟩ (fun H hH => ⟨(sp, ta), rfl, hH⟩) (fun H hH => ⟨_, rfl, hH⟩) (fun hs tb oo h1 h2 => ?_)
    exact tlE C te_1 ⟨show cells + 1 ≤ 601024 by omega, show slots + 6 ≤ 7293034 by omega⟩ (by decide) (g_wid (k := cells + 30) (n := slots + 300) (by omega) (by omega) (K d0 _ _ _ _ _ _ _ _ _ hd0 (by rw [h1, h2]; exact I)))
  by_cases cY : (xs (iz + 2).toNat).toInt < 1 ∨ (xs (iz + 3).toNat).toInt < (xs (iz + 2).toNat).toInt ∨ pg < (xs (iz + 3).toNat).toInt
  · skip
    refine sg3 C hi (RR := fun g => g = sp) (PM := fun g => g = on) hd_1 (m_L_addPagesY l hlt E s.heap.size hj sp se al ta n pg ((xs (iz + 1).toNat).toInt) ((xs (iz + 2).toNat).toInt) ((xs (iz + 3).toNat).toInt) ao fo (by first | assumption | omega) I.hn I.hpg (by first | assumption | omega) (by first | assumption | omega) hao) (vx_cwSW 5 S.2.2.2.2 gL_law_L_addPages rfl rfl rfl (by decide +kernel) ⟨Nat.le_of_ble_eq_true rfl, Nat.le_of_ble_eq_true rfl⟩) (m_X2_addPagesF l E hjm th pg n on se al ((xs (iz + 1).toNat).toInt) ((xs (iz + 2).toNat).toInt) ((xs (iz + 3).toNat).toInt) (by first | assumption | omega) I.hn (by first | assumption | omega) (by first | assumption | omega) I.hpg) (cwV 3 S.2.2.2.2 gL_law_X2_addPages rfl rfl rfl (by decide +kernel) ⟨Nat.le_of_ble_eq_true rfl, Nat.le_of_ble_eq_true rfl⟩) ⟨show cells + 1 ≤ 601024 by omega, show slots + 6 ≤ 7293034 by omega⟩ (fun H hH => ⟨(sp, ta), rfl, hH⟩) (fun H hH => ⟨_, rfl, hH⟩) (fun hs tb oo h1 h2 => ?_)
    exact tlE C te_1 ⟨show cells + 1 ≤ 601024 by omega, show slots + 6 ≤ 7293034 by omega⟩ (by decide) (g_wid (k := cells + 30) (n := slots + 300) (by omega) (by omega) (K d0 _ _ _ _ _ _ _ _ _ hd0 (by rw [h1, h2]; exact I)))
  by_cases cZ : se (xs (iz + 1).toNat).toInt ≠ -1
  · skip
    refine sg3 C hi (RR := fun g => g = sp) (PM := fun g => g = on) hd_1 (m_L_addPagesZ l hlt E s.heap.size hj sp se al ta n pg ((xs (iz + 1).toNat).toInt) ((xs (iz + 2).toNat).toInt) ((xs (iz + 3).toNat).toInt) ao fo (by first | assumption | omega) I.hn I.hpg (by first | assumption | omega) I.hgr (by first | assumption | omega) hao) (vx_cwSW 5 S.2.2.2.2 gL_law_L_addPages rfl rfl rfl (by decide +kernel) ⟨Nat.le_of_ble_eq_true rfl, Nat.le_of_ble_eq_true rfl⟩) (m_X2_addPagesG l E hjm th pg n on se al ((xs (iz + 1).toNat).toInt) ((xs (iz + 2).toNat).toInt) ((xs (iz + 3).toNat).toInt) (by first | assumption | omega) I.hn (by first | assumption | omega) (by first | assumption | omega) I.hgr I.hpg) (cwV 3 S.2.2.2.2 gL_law_X2_addPages rfl rfl rfl (by decide +kernel) ⟨Nat.le_of_ble_eq_true rfl, Nat.le_of_ble_eq_true rfl⟩) ⟨show cells + 1 ≤ 601024 by omega, show slots + 6 ≤ 7293034 by omega⟩ (fun H hH => ⟨(sp, ta), rfl, hH⟩) (fun H hH => ⟨_, rfl, hH⟩) (fun hs tb oo h1 h2 => ?_)
    exact tlE C te_1 ⟨show cells + 1 ≤ 601024 by omega, show slots + 6 ≤ 7293034 by omega⟩ (by decide) (g_wid (k := cells + 30) (n := slots + 300) (by omega) (by omega) (K d0 _ _ _ _ _ _ _ _ _ hd0 (by rw [h1, h2]; exact I)))
  by_cases cR : 8 < (spS (fun q => cov (sp (xs (iz + 1).toNat).toInt) q ∨ ((xs (iz + 2).toNat).toInt ≤ q ∧ q ≤ (xs (iz + 3).toNat).toInt)) 0 pg.toNat).1
  · skip
    refine sg3 C hi (RR := fun hs => ∀ j9 : Int, 0 ≤ j9 → j9 < 24 → (fun i g => g = sp i) j9 (hs j9)) (PM := fun g => g = on) hd_1 (m_L_addPagesR l hlt E s.heap.size hj sp se al ta n pg ((xs (iz + 1).toNat).toInt) ((xs (iz + 2).toNat).toInt) ((xs (iz + 3).toNat).toInt) ao fo (by first | assumption | omega) I.hn I.hpg I.hsp (by first | assumption | omega) (by first | assumption | omega) (by first | assumption | omega) hao) (vx_cwSW 5 S.2.2.2.2 gL_law_L_addPages rfl rfl rfl (by decide +kernel) ⟨Nat.le_of_ble_eq_true rfl, Nat.le_of_ble_eq_true rfl⟩) (m_X2_addPagesH l E hjm th pg n on se al sp ((xs (iz + 1).toNat).toInt) ((xs (iz + 2).toNat).toInt) ((xs (iz + 3).toNat).toInt) (by first | assumption | omega) I.hn (by first | assumption | omega) (by first | assumption | omega) (by first | assumption | omega) I.hpg I.hrl I.hsp I.hon) (cwV 3 S.2.2.2.2 gL_law_X2_addPages rfl rfl rfl (by decide +kernel) ⟨Nat.le_of_ble_eq_true rfl, Nat.le_of_ble_eq_true rfl⟩) ⟨show cells + 1 ≤ 601024 by omega, show slots + 6 ≤ 7293034 by omega⟩ (fun H hH => by obtain ⟨hs, t9, h1, h2⟩ := hH; exact ⟨(hs, t9), h1, h2⟩) (fun H hH => ⟨_, rfl, hH⟩) (fun hs tb oo h1 h2 => ?_)
    exact tlE C te_1 ⟨show cells + 1 ≤ 601024 by omega, show slots + 6 ≤ 7293034 by omega⟩ (by decide) (g_wid (k := cells + 30) (n := slots + 300) (by omega) (by omega) (K d0 _ _ _ _ _ _ _ _ _ hd0 (by rw [h2]; exact inv_same I h1)))
  refine sg3 C hi (RR := fun hs => ∀ j9 : Int, 0 ≤ j9 → j9 < 24 → (fun i g => (i ≠ (xs (iz + 1).toNat).toInt → g = sp i) ∧ (i = (xs (iz + 1).toNat).toInt → VL g pg ∧ ∀ q, cov g q ↔ (fun q => cov (sp (xs (iz + 1).toNat).toInt) q ∨ ((xs (iz + 2).toNat).toInt ≤ q ∧ q ≤ (xs (iz + 3).toNat).toInt)) q)) j9 (hs j9)) (PM := fun g => g = (ptO on (302 * (xs (iz + 1).toNat).toInt + (xs (iz + 2).toNat).toInt) (302 * (xs (iz + 1).toNat).toInt + (xs (iz + 3).toNat).toInt) 1)) hd_1 (m_L_addPages l hlt E s.heap.size hj sp se al ta n pg ((xs (iz + 1).toNat).toInt) ((xs (iz + 2).toNat).toInt) ((xs (iz + 3).toNat).toInt) ao fo (by first | assumption | omega) I.hn I.hpg I.hsp (by first | assumption | omega) (by first | assumption | omega) (by first | assumption | omega) hao) (vx_cwSW 5 S.2.2.2.2 gL_law_L_addPages rfl rfl rfl (by decide +kernel) ⟨Nat.le_of_ble_eq_true rfl, Nat.le_of_ble_eq_true rfl⟩) (m_X2_addPages l E hjm th pg n on se al sp ((xs (iz + 1).toNat).toInt) ((xs (iz + 2).toNat).toInt) ((xs (iz + 3).toNat).toInt) (by first | assumption | omega) I.hn (by first | assumption | omega) (by first | assumption | omega) (by first | assumption | omega) I.hpg I.hrl I.hsp I.hon) (cwV 3 S.2.2.2.2 gL_law_X2_addPages rfl rfl rfl (by decide +kernel) ⟨Nat.le_of_ble_eq_true rfl, Nat.le_of_ble_eq_true rfl⟩) ⟨show cells + 0 ≤ 601024 by omega, show slots + 0 ≤ 7293034 by omega⟩ (fun H hH => by obtain ⟨hs, t9, h1, h2⟩ := hH; exact ⟨(hs, t9), h1, h2⟩) (fun H hH => ⟨_, rfl, hH⟩) (fun hs tb oo h1 h2 => ?_)
  exact tlI C te_1 ti_1 ⟨show cells + 0 ≤ 601024 by omega, show slots + 0 ≤ 7293034 by omega⟩ (by rw [upI_s]) (g_wid (k := cells + 30) (n := slots + 300) (by omega) (by omega) (K d0 _ _ _ _ _ _ _ _ _ hd0 (by rw [h2]; exact inv_pages I (by omega) (by omega) (Or.inr rfl) h1 (by omega) (fun q => by by_cases c9 : (xs (iz + 2).toNat).toInt ≤ q ∧ q ≤ (xs (iz + 3).toNat).toInt <;> simp [c9]))))
set_option maxHeartbeats 4000000 in
set_option maxRecDepth 100000 in
/-- takePages -/
theorem ca_2 (C : lqC p l s m c E ad am ao b L xs) (hd0 : s.drawn.sameBut d0 lw_cs) (hi : 0 ≤ iz ∧ iz + 3 < L) (I : INV sp se al n pg on) (hcs : cells + 30 ≤ 601024 ∧ slots + 300 ≤ 7293034)
    (K : lqK p l e s m b below meth c Q E ad am ao iz cells slots) : lqG p l e s m b below meth c d0 cells slots Q 300 (lvL iz b ao am ad) [] (lqB E ad am ao fo sp se al ta n pg th on) := by
  obtain ⟨CS, hK, hX, hN, hlt, ⟨hj, hjm, hd⟩, ⟨hao, ham⟩, hXs, hbl, hL⟩ := id C
  have S := CS d0
  have r0 := iI_r (xs (iz + 1).toNat)
  have r1 := iI_r (xs (iz + 2).toNat)
  have r2 := iI_r (xs (iz + 3).toNat)
  have hn0 := I.hn
  have hpg0 := I.hpg
  by_cases cX : (xs (iz + 1).toNat).toInt < 0 ∨ n ≤ (xs (iz + 1).toNat).toInt
  · skip
    refine sg3 C hi (RR := fun g => g = sp) (PM := fun g => g = on) hd_2 (m_L_takePagesX l hlt E s.heap.size hj sp se al ta n pg ((xs (iz + 1).toNat).toInt) ((xs (iz + 2).toNat).toInt) ((xs (iz + 3).toNat).toInt) ao fo (by first | assumption | omega) (by first | assumption | omega) I.hn hao) (vx_cwSW 5 S.2.2.2.2 gL_law_L_takePages rfl rfl rfl (by decide +kernel) ⟨Nat.le_of_ble_eq_true rfl, Nat.le_of_ble_eq_true rfl⟩) (m_X2_takePagesE l E hjm th pg n on se al ((xs (iz + 1).toNat).toInt) ((xs (iz + 2).toNat).toInt) ((xs (iz + 3).toNat).toInt) (by first | assumption | omega) (by first | assumption | omega) I.hn) (cwV 3 S.2.2.2.2 gL_law_X2_takePages rfl rfl rfl (by decide +kernel) ⟨Nat.le_of_ble_eq_true rfl, Nat.le_of_ble_eq_true rfl⟩) ⟨show cells + 1 ≤ 601024 by omega, show slots + 6 ≤ 7293034 by omega⟩ (fun H hH => ⟨(sp, ta), rfl, hH⟩) (fun H hH => ⟨_, rfl, hH⟩) (fun hs tb oo h1 h2 => ?_)
    exact tlE C te_2 ⟨show cells + 1 ≤ 601024 by omega, show slots + 6 ≤ 7293034 by omega⟩ (by decide) (g_wid (k := cells + 30) (n := slots + 300) (by omega) (by omega) (K d0 _ _ _ _ _ _ _ _ _ hd0 (by rw [h1, h2]; exact I)))
  by_cases cY : (xs (iz + 2).toNat).toInt < 1 ∨ (xs (iz + 3).toNat).toInt < (xs (iz + 2).toNat).toInt ∨ pg < (xs (iz + 3).toNat).toInt
  · skip
    refine sg3 C hi (RR := fun g => g = sp) (PM := fun g => g = on) hd_2 (m_L_takePagesY l hlt E s.heap.size hj sp se al ta n pg ((xs (iz + 1).toNat).toInt) ((xs (iz + 2).toNat).toInt) ((xs (iz + 3).toNat).toInt) ao fo (by first | assumption | omega) I.hn I.hpg (by first | assumption | omega) (by first | assumption | omega) hao) (vx_cwSW 5 S.2.2.2.2 gL_law_L_takePages rfl rfl rfl (by decide +kernel) ⟨Nat.le_of_ble_eq_true rfl, Nat.le_of_ble_eq_true rfl⟩) (m_X2_takePagesF l E hjm th pg n on se al ((xs (iz + 1).toNat).toInt) ((xs (iz + 2).toNat).toInt) ((xs (iz + 3).toNat).toInt) (by first | assumption | omega) I.hn (by first | assumption | omega) (by first | assumption | omega) I.hpg) (cwV 3 S.2.2.2.2 gL_law_X2_takePages rfl rfl rfl (by decide +kernel) ⟨Nat.le_of_ble_eq_true rfl, Nat.le_of_ble_eq_true rfl⟩) ⟨show cells + 1 ≤ 601024 by omega, show slots + 6 ≤ 7293034 by omega⟩ (fun H hH => ⟨(sp, ta), rfl, hH⟩) (fun H hH => ⟨_, rfl, hH⟩) (fun hs tb oo h1 h2 => ?_)
    exact tlE C te_2 ⟨show cells + 1 ≤ 601024 by omega, show slots + 6 ≤ 7293034 by omega⟩ (by decide) (g_wid (k := cells + 30) (n := slots + 300) (by omega) (by omega) (K d0 _ _ _ _ _ _ _ _ _ hd0 (by rw [h1, h2]; exact I)))
  by_cases cR : 8 < (spS (fun q => cov (sp (xs (iz + 1).toNat).toInt) q ∧ ¬ ((xs (iz + 2).toNat).toInt ≤ q ∧ q ≤ (xs (iz + 3).toNat).toInt)) 0 pg.toNat).1
  · skip
    refine sg3 C hi (RR := fun hs => ∀ j9 : Int, 0 ≤ j9 → j9 < 24 → (fun i g => g = sp i) j9 (hs j9)) (PM := fun g => g = on) hd_2 (m_L_takePagesR l hlt E s.heap.size hj sp se al ta n pg ((xs (iz + 1).toNat).toInt) ((xs (iz + 2).toNat).toInt) ((xs (iz + 3).toNat).toInt) ao fo (by first | assumption | omega) I.hn I.hpg I.hsp (by first | assumption | omega) (by first | assumption | omega) hao) (vx_cwSW 5 S.2.2.2.2 gL_law_L_takePages rfl rfl rfl (by decide +kernel) ⟨Nat.le_of_ble_eq_true rfl, Nat.le_of_ble_eq_true rfl⟩) (m_X2_takePagesH l E hjm th pg n on se al sp ((xs (iz + 1).toNat).toInt) ((xs (iz + 2).toNat).toInt) ((xs (iz + 3).toNat).toInt) (by first | assumption | omega) I.hn (by first | assumption | omega) (by first | assumption | omega) I.hpg I.hrl I.hsp I.hon) (cwV 3 S.2.2.2.2 gL_law_X2_takePages rfl rfl rfl (by decide +kernel) ⟨Nat.le_of_ble_eq_true rfl, Nat.le_of_ble_eq_true rfl⟩) ⟨show cells + 1 ≤ 601024 by omega, show slots + 6 ≤ 7293034 by omega⟩ (fun H hH => by obtain ⟨hs, t9, h1, h2⟩ := hH; exact ⟨(hs, t9), h1, h2⟩) (fun H hH => ⟨_, rfl, hH⟩) (fun hs tb oo h1 h2 => ?_)
    exact tlE C te_2 ⟨show cells + 1 ≤ 601024 by omega, show slots + 6 ≤ 7293034 by omega⟩ (by decide) (g_wid (k := cells + 30) (n := slots + 300) (by omega) (by omega) (K d0 _ _ _ _ _ _ _ _ _ hd0 (by rw [h2]; exact inv_same I h1)))
  refine sg3 C hi (RR := fun hs => ∀ j9 : Int, 0 ≤ j9 → j9 < 24 → (fun i g => (i ≠ (xs (iz + 1).toNat).toInt → g = sp i) ∧ (i = (xs (iz + 1).toNat).toInt → VL g pg ∧ ∀ q, cov g q ↔ (fun q => cov (sp (xs (iz + 1).toNat).toInt) q ∧ ¬ ((xs (iz + 2).toNat).toInt ≤ q ∧ q ≤ (xs (iz + 3).toNat).toInt)) q)) j9 (hs j9)) (PM := fun g => g = (ptO on (302 * (xs (iz + 1).toNat).toInt + (xs (iz + 2).toNat).toInt) (302 * (xs (iz + 1).toNat).toInt + (xs (iz + 3).toNat).toInt) 0)) hd_2 (m_L_takePages l hlt E s.heap.size hj sp se al ta n pg ((xs (iz + 1).toNat).toInt) ((xs (iz + 2).toNat).toInt) ((xs (iz + 3).toNat).toInt) ao fo (by first | assumption | omega) I.hn I.hpg I.hsp (by first | assumption | omega) (by first | assumption | omega) hao) (vx_cwSW 5 S.2.2.2.2 gL_law_L_takePages rfl rfl rfl (by decide +kernel) ⟨Nat.le_of_ble_eq_true rfl, Nat.le_of_ble_eq_true rfl⟩) (m_X2_takePages l E hjm th pg n on se al sp ((xs (iz + 1).toNat).toInt) ((xs (iz + 2).toNat).toInt) ((xs (iz + 3).toNat).toInt) (by first | assumption | omega) I.hn (by first | assumption | omega) (by first | assumption | omega) I.hpg I.hrl I.hsp I.hon) (cwV 3 S.2.2.2.2 gL_law_X2_takePages rfl rfl rfl (by decide +kernel) ⟨Nat.le_of_ble_eq_true rfl, Nat.le_of_ble_eq_true rfl⟩) ⟨show cells + 0 ≤ 601024 by omega, show slots + 0 ≤ 7293034 by omega⟩ (fun H hH => by obtain ⟨hs, t9, h1, h2⟩ := hH; exact ⟨(hs, t9), h1, h2⟩) (fun H hH => ⟨_, rfl, hH⟩) (fun hs tb oo h1 h2 => ?_)
  exact tlI C te_2 ti_2 ⟨show cells + 0 ≤ 601024 by omega, show slots + 0 ≤ 7293034 by omega⟩ (by rw [upI_s]) (g_wid (k := cells + 30) (n := slots + 300) (by omega) (by omega) (K d0 _ _ _ _ _ _ _ _ _ hd0 (by rw [h2]; exact inv_pages I (by omega) (by omega) (Or.inl rfl) h1 (by omega) (fun q => by by_cases c9 : (xs (iz + 2).toNat).toInt ≤ q ∧ q ≤ (xs (iz + 3).toNat).toInt <;> simp [c9]))))
set_option maxHeartbeats 4000000 in
set_option maxRecDepth 100000 in
/-- setSee -/
theorem ca_3 (C : lqC p l s m c E ad am ao b L xs) (hd0 : s.drawn.sameBut d0 lw_cs) (hi : 0 ≤ iz ∧ iz + 3 < L) (I : INV sp se al n pg on) (hcs : cells + 30 ≤ 601024 ∧ slots + 300 ≤ 7293034)
    (K : lqK p l e s m b below meth c Q E ad am ao iz cells slots) : lqG p l e s m b below meth c d0 cells slots Q 380 (lvL iz b ao am ad) [] (lqB E ad am ao fo sp se al ta n pg th on) := by
  obtain ⟨CS, hK, hX, hN, hlt, ⟨hj, hjm, hd⟩, ⟨hao, ham⟩, hXs, hbl, hL⟩ := id C
  have S := CS d0
  have r0 := iI_r (xs (iz + 1).toNat)
  have r1 := iI_r (xs (iz + 2).toNat)
  have hn0 := I.hn
  have hpg0 := I.hpg
  by_cases cX : (xs (iz + 1).toNat).toInt < 0 ∨ n ≤ (xs (iz + 1).toNat).toInt
  · skip
    refine sg2 C hi (RR := fun g => g = sp) (PM := fun g => g = on) hd_3 (m_L_setSeeX l hlt E s.heap.size hj sp se al ta n pg ((xs (iz + 1).toNat).toInt) ((xs (iz + 2).toNat).toInt) ao fo (by first | assumption | omega) (by first | assumption | omega) I.hn hao) (vx_cwSW 4 S.2.2.2.2 gL_law_L_setSee rfl rfl rfl (by decide +kernel) ⟨Nat.le_of_ble_eq_true rfl, Nat.le_of_ble_eq_true rfl⟩) (m_X2_setSeeE l E hjm th pg n on se al ((xs (iz + 1).toNat).toInt) ((xs (iz + 2).toNat).toInt) (by first | assumption | omega) (by first | assumption | omega) I.hn (by first | assumption | omega)) (cwV 2 S.2.2.2.2 gL_law_X2_setSee rfl rfl rfl (by decide +kernel) ⟨Nat.le_of_ble_eq_true rfl, Nat.le_of_ble_eq_true rfl⟩) ⟨show cells + 1 ≤ 601024 by omega, show slots + 6 ≤ 7293034 by omega⟩ (fun H hH => ⟨(sp, ta), rfl, hH⟩) (fun H hH => ⟨_, rfl, hH⟩) (fun hs tb oo h1 h2 => ?_)
    exact tlE C te_3 ⟨show cells + 1 ≤ 601024 by omega, show slots + 6 ≤ 7293034 by omega⟩ (by decide) (g_wid (k := cells + 30) (n := slots + 300) (by omega) (by omega) (K d0 _ _ _ _ _ _ _ _ _ hd0 (by rw [h1, h2]; exact I)))
  by_cases cY : (xs (iz + 2).toNat).toInt < -1 ∨ n ≤ (xs (iz + 2).toNat).toInt
  · skip
    refine sg2 C hi (RR := fun g => g = sp) (PM := fun g => g = on) hd_3 (m_L_setSeeY l hlt E s.heap.size hj sp se al ta n pg ((xs (iz + 1).toNat).toInt) ((xs (iz + 2).toNat).toInt) ao fo (by first | assumption | omega) I.hn (by first | assumption | omega) (by first | assumption | omega) hao) (vx_cwSW 4 S.2.2.2.2 gL_law_L_setSee rfl rfl rfl (by decide +kernel) ⟨Nat.le_of_ble_eq_true rfl, Nat.le_of_ble_eq_true rfl⟩) (m_X2_setSeeF l E hjm th pg n on se al ((xs (iz + 1).toNat).toInt) ((xs (iz + 2).toNat).toInt) (by first | assumption | omega) I.hn (by first | assumption | omega) (by first | assumption | omega)) (cwV 2 S.2.2.2.2 gL_law_X2_setSee rfl rfl rfl (by decide +kernel) ⟨Nat.le_of_ble_eq_true rfl, Nat.le_of_ble_eq_true rfl⟩) ⟨show cells + 1 ≤ 601024 by omega, show slots + 6 ≤ 7293034 by omega⟩ (fun H hH => ⟨(sp, ta), rfl, hH⟩) (fun H hH => ⟨_, rfl, hH⟩) (fun hs tb oo h1 h2 => ?_)
    exact tlE C te_3 ⟨show cells + 1 ≤ 601024 by omega, show slots + 6 ≤ 7293034 by omega⟩ (by decide) (g_wid (k := cells + 30) (n := slots + 300) (by omega) (by omega) (K d0 _ _ _ _ _ _ _ _ _ hd0 (by rw [h1, h2]; exact I)))
  by_cases cZ : (xs (iz + 2).toNat).toInt = (xs (iz + 1).toNat).toInt
  · skip
    refine sg2 C hi (RR := fun g => g = sp) (PM := fun g => g = on) hd_3 (m_L_setSeeZ l hlt E s.heap.size hj sp se al ta n pg ((xs (iz + 1).toNat).toInt) ((xs (iz + 2).toNat).toInt) ao fo (by first | assumption | omega) I.hn (by first | assumption | omega) hao) (vx_cwSW 4 S.2.2.2.2 gL_law_L_setSee rfl rfl rfl (by decide +kernel) ⟨Nat.le_of_ble_eq_true rfl, Nat.le_of_ble_eq_true rfl⟩) (m_X2_setSeeG l E hjm th pg n on se al ((xs (iz + 1).toNat).toInt) ((xs (iz + 2).toNat).toInt) (by first | assumption | omega) I.hn (by first | assumption | omega)) (cwV 2 S.2.2.2.2 gL_law_X2_setSee rfl rfl rfl (by decide +kernel) ⟨Nat.le_of_ble_eq_true rfl, Nat.le_of_ble_eq_true rfl⟩) ⟨show cells + 1 ≤ 601024 by omega, show slots + 6 ≤ 7293034 by omega⟩ (fun H hH => ⟨(sp, ta), rfl, hH⟩) (fun H hH => ⟨_, rfl, hH⟩) (fun hs tb oo h1 h2 => ?_)
    exact tlE C te_3 ⟨show cells + 1 ≤ 601024 by omega, show slots + 6 ≤ 7293034 by omega⟩ (by decide) (g_wid (k := cells + 30) (n := slots + 300) (by omega) (by omega) (K d0 _ _ _ _ _ _ _ _ _ hd0 (by rw [h1, h2]; exact I)))
  by_cases cR : (xs (iz + 2).toNat).toInt ≠ -1 ∧ (sp (xs (iz + 1).toNat).toInt).1 ≠ 0
  · skip
    refine sg2 C hi (RR := fun g => g = sp) (PM := fun g => g = on) hd_3 (m_L_setSeeR l hlt E s.heap.size hj sp se al ta n pg ((xs (iz + 1).toNat).toInt) ((xs (iz + 2).toNat).toInt) ao fo (by first | assumption | omega) I.hn I.hsp (by first | assumption | omega) (by first | assumption | omega) hao) (vx_cwSW 4 S.2.2.2.2 gL_law_L_setSee rfl rfl rfl (by decide +kernel) ⟨Nat.le_of_ble_eq_true rfl, Nat.le_of_ble_eq_true rfl⟩) (m_X2_setSeeH l E hjm th pg n on se al sp ((xs (iz + 1).toNat).toInt) ((xs (iz + 2).toNat).toInt) (by first | assumption | omega) I.hn (by first | assumption | omega) (by first | assumption | omega) I.hpg I.hrl I.hsp I.hon) (cwV 2 S.2.2.2.2 gL_law_X2_setSee rfl rfl rfl (by decide +kernel) ⟨Nat.le_of_ble_eq_true rfl, Nat.le_of_ble_eq_true rfl⟩) ⟨show cells + 1 ≤ 601024 by omega, show slots + 6 ≤ 7293034 by omega⟩ (fun H hH => ⟨(sp, ta), rfl, hH⟩) (fun H hH => ⟨_, rfl, hH⟩) (fun hs tb oo h1 h2 => ?_)
    exact tlE C te_3 ⟨show cells + 1 ≤ 601024 by omega, show slots + 6 ≤ 7293034 by omega⟩ (by decide) (g_wid (k := cells + 30) (n := slots + 300) (by omega) (by omega) (K d0 _ _ _ _ _ _ _ _ _ hd0 (by rw [h1, h2]; exact I)))
  refine sg2 C hi (RR := fun g => g = sp) (PM := fun g => g = on) hd_3 (m_L_setSee l hlt E s.heap.size hj sp se al ta n pg ((xs (iz + 1).toNat).toInt) ((xs (iz + 2).toNat).toInt) ao fo (by first | assumption | omega) I.hn I.hsp (by first | assumption | omega) hao) (vx_cwSW 4 S.2.2.2.2 gL_law_L_setSee rfl rfl rfl (by decide +kernel) ⟨Nat.le_of_ble_eq_true rfl, Nat.le_of_ble_eq_true rfl⟩) (m_X2_setSee l E hjm th pg n on se al sp ((xs (iz + 1).toNat).toInt) ((xs (iz + 2).toNat).toInt) (by first | assumption | omega) I.hn (by first | assumption | omega) I.hpg I.hrl I.hsp I.hon) (cwV 2 S.2.2.2.2 gL_law_X2_setSee rfl rfl rfl (by decide +kernel) ⟨Nat.le_of_ble_eq_true rfl, Nat.le_of_ble_eq_true rfl⟩) ⟨show cells + 0 ≤ 601024 by omega, show slots + 0 ≤ 7293034 by omega⟩ (fun H hH => ⟨(sp, ta), rfl, hH⟩) (fun H hH => ⟨_, rfl, hH⟩) (fun hs tb oo h1 h2 => ?_)
  exact tlI C te_3 ti_3 ⟨show cells + 0 ≤ 601024 by omega, show slots + 0 ≤ 7293034 by omega⟩ (by rw [upI_s]) (g_wid (k := cells + 30) (n := slots + 300) (by omega) (by omega) (K d0 _ _ _ _ _ _ _ _ _ hd0 (by rw [h1, h2]; exact inv_see I (by omega) (by omega))))
set_option maxHeartbeats 4000000 in
set_option maxRecDepth 100000 in
/-- turnSeeAlso -/
theorem ca_4 (C : lqC p l s m c E ad am ao b L xs) (hd0 : s.drawn.sameBut d0 lw_cs) (hi : 0 ≤ iz ∧ iz + 3 < L) (I : INV sp se al n pg on) (hcs : cells + 30 ≤ 601024 ∧ slots + 300 ≤ 7293034)
    (K : lqK p l e s m b below meth c Q E ad am ao iz cells slots) : lqG p l e s m b below meth c d0 cells slots Q 448 (lvL iz b ao am ad) [] (lqB E ad am ao fo sp se al ta n pg th on) := by
  obtain ⟨CS, hK, hX, hN, hlt, ⟨hj, hjm, hd⟩, ⟨hao, ham⟩, hXs, hbl, hL⟩ := id C
  have S := CS d0
  have r0 := iI_r (xs (iz + 1).toNat)
  have r1 := iI_r (xs (iz + 2).toNat)
  have hn0 := I.hn
  have hpg0 := I.hpg
  by_cases cX : (xs (iz + 1).toNat).toInt < 0 ∨ n ≤ (xs (iz + 1).toNat).toInt
  · skip
    refine sg2 C hi (RR := fun g => g = sp) (PM := fun g => g = on) hd_4 (m_L_turnSeeAlsoX l hlt E s.heap.size hj sp se al ta n pg ((xs (iz + 1).toNat).toInt) ((xs (iz + 2).toNat).toInt) ao fo (by first | assumption | omega) (by first | assumption | omega) I.hn hao) (vx_cwSW 4 S.2.2.2.2 gL_law_L_turnSeeAlso rfl rfl rfl (by decide +kernel) ⟨Nat.le_of_ble_eq_true rfl, Nat.le_of_ble_eq_true rfl⟩) (m_X2_turnSeeAlsoE l E hjm th pg n on se al ((xs (iz + 1).toNat).toInt) ((xs (iz + 2).toNat).toInt) (by first | assumption | omega) (by first | assumption | omega) I.hn) (cwV 2 S.2.2.2.2 gL_law_X2_turnSeeAlso rfl rfl rfl (by decide +kernel) ⟨Nat.le_of_ble_eq_true rfl, Nat.le_of_ble_eq_true rfl⟩) ⟨show cells + 1 ≤ 601024 by omega, show slots + 6 ≤ 7293034 by omega⟩ (fun H hH => ⟨(sp, ta), rfl, hH⟩) (fun H hH => ⟨_, rfl, hH⟩) (fun hs tb oo h1 h2 => ?_)
    exact tlE C te_4 ⟨show cells + 1 ≤ 601024 by omega, show slots + 6 ≤ 7293034 by omega⟩ (by decide) (g_wid (k := cells + 30) (n := slots + 300) (by omega) (by omega) (K d0 _ _ _ _ _ _ _ _ _ hd0 (by rw [h1, h2]; exact I)))
  by_cases cY : (xs (iz + 2).toNat).toInt < 0 ∨ n ≤ (xs (iz + 2).toNat).toInt
  · skip
    refine sg2 C hi (RR := fun g => g = sp) (PM := fun g => g = on) hd_4 (m_L_turnSeeAlsoY l hlt E s.heap.size hj sp se al ta n pg ((xs (iz + 1).toNat).toInt) ((xs (iz + 2).toNat).toInt) ao fo (by first | assumption | omega) I.hn (by first | assumption | omega) (by first | assumption | omega) hao) (vx_cwSW 4 S.2.2.2.2 gL_law_L_turnSeeAlso rfl rfl rfl (by decide +kernel) ⟨Nat.le_of_ble_eq_true rfl, Nat.le_of_ble_eq_true rfl⟩) (m_X2_turnSeeAlsoF l E hjm th pg n on se al ((xs (iz + 1).toNat).toInt) ((xs (iz + 2).toNat).toInt) (by first | assumption | omega) I.hn (by first | assumption | omega) (by first | assumption | omega)) (cwV 2 S.2.2.2.2 gL_law_X2_turnSeeAlso rfl rfl rfl (by decide +kernel) ⟨Nat.le_of_ble_eq_true rfl, Nat.le_of_ble_eq_true rfl⟩) ⟨show cells + 1 ≤ 601024 by omega, show slots + 6 ≤ 7293034 by omega⟩ (fun H hH => ⟨(sp, ta), rfl, hH⟩) (fun H hH => ⟨_, rfl, hH⟩) (fun hs tb oo h1 h2 => ?_)
    exact tlE C te_4 ⟨show cells + 1 ≤ 601024 by omega, show slots + 6 ≤ 7293034 by omega⟩ (by decide) (g_wid (k := cells + 30) (n := slots + 300) (by omega) (by omega) (K d0 _ _ _ _ _ _ _ _ _ hd0 (by rw [h1, h2]; exact I)))
  by_cases cZ : (xs (iz + 2).toNat).toInt = (xs (iz + 1).toNat).toInt
  · skip
    refine sg2 C hi (RR := fun g => g = sp) (PM := fun g => g = on) hd_4 (m_L_turnSeeAlsoZ l hlt E s.heap.size hj sp se al ta n pg ((xs (iz + 1).toNat).toInt) ((xs (iz + 2).toNat).toInt) ao fo (by first | assumption | omega) I.hn (by first | assumption | omega) hao) (vx_cwSW 4 S.2.2.2.2 gL_law_L_turnSeeAlso rfl rfl rfl (by decide +kernel) ⟨Nat.le_of_ble_eq_true rfl, Nat.le_of_ble_eq_true rfl⟩) (m_X2_turnSeeAlsoG l E hjm th pg n on se al ((xs (iz + 1).toNat).toInt) ((xs (iz + 2).toNat).toInt) (by first | assumption | omega) I.hn (by first | assumption | omega)) (cwV 2 S.2.2.2.2 gL_law_X2_turnSeeAlso rfl rfl rfl (by decide +kernel) ⟨Nat.le_of_ble_eq_true rfl, Nat.le_of_ble_eq_true rfl⟩) ⟨show cells + 1 ≤ 601024 by omega, show slots + 6 ≤ 7293034 by omega⟩ (fun H hH => ⟨(sp, ta), rfl, hH⟩) (fun H hH => ⟨_, rfl, hH⟩) (fun hs tb oo h1 h2 => ?_)
    exact tlE C te_4 ⟨show cells + 1 ≤ 601024 by omega, show slots + 6 ≤ 7293034 by omega⟩ (by decide) (g_wid (k := cells + 30) (n := slots + 300) (by omega) (by omega) (K d0 _ _ _ _ _ _ _ _ _ hd0 (by rw [h1, h2]; exact I)))
  by_cases cR : 4 < pop (al (xs (iz + 1).toNat).toInt ^^^ 2 ^ ((xs (iz + 2).toNat).toInt).toNat) 24
  · skip
    refine sg2 C hi (RR := fun g => g = sp) (PM := fun g => g = on) hd_4 (m_L_turnSeeAlsoR l hlt E s.heap.size hj sp se al ta n pg ((xs (iz + 1).toNat).toInt) ((xs (iz + 2).toNat).toInt) ao fo (by first | assumption | omega) I.hn I.hgr (by first | assumption | omega) (by first | assumption | omega) hao) (vx_cwSW 4 S.2.2.2.2 gL_law_L_turnSeeAlso rfl rfl rfl (by decide +kernel) ⟨Nat.le_of_ble_eq_true rfl, Nat.le_of_ble_eq_true rfl⟩) (m_X2_turnSeeAlsoH l E hjm th pg n on se al sp ((xs (iz + 1).toNat).toInt) ((xs (iz + 2).toNat).toInt) (by first | assumption | omega) I.hn (by first | assumption | omega) I.hgr (I.hp4 _ (by omega) (by omega)) (by first | assumption | omega)) (cwV 2 S.2.2.2.2 gL_law_X2_turnSeeAlso rfl rfl rfl (by decide +kernel) ⟨Nat.le_of_ble_eq_true rfl, Nat.le_of_ble_eq_true rfl⟩) ⟨show cells + 1 ≤ 601024 by omega, show slots + 6 ≤ 7293034 by omega⟩ (fun H hH => ⟨(sp, ta), rfl, hH⟩) (fun H hH => ⟨_, rfl, hH⟩) (fun hs tb oo h1 h2 => ?_)
    exact tlE C te_4 ⟨show cells + 1 ≤ 601024 by omega, show slots + 6 ≤ 7293034 by omega⟩ (by decide) (g_wid (k := cells + 30) (n := slots + 300) (by omega) (by omega) (K d0 _ _ _ _ _ _ _ _ _ hd0 (by rw [h1, h2]; exact I)))
  refine sg2 C hi (RR := fun g => g = sp) (PM := fun g => g = on) hd_4 (m_L_turnSeeAlso l hlt E s.heap.size hj sp se al ta n pg ((xs (iz + 1).toNat).toInt) ((xs (iz + 2).toNat).toInt) ao fo (by first | assumption | omega) I.hn I.hgr (by first | assumption | omega) (by first | assumption | omega) hao) (vx_cwSW 4 S.2.2.2.2 gL_law_L_turnSeeAlso rfl rfl rfl (by decide +kernel) ⟨Nat.le_of_ble_eq_true rfl, Nat.le_of_ble_eq_true rfl⟩) (m_X2_turnSeeAlso l E hjm th pg n on se al sp ((xs (iz + 1).toNat).toInt) ((xs (iz + 2).toNat).toInt) (by first | assumption | omega) I.hn (by first | assumption | omega) I.hgr (I.hp4 _ (by omega) (by omega)) (by first | assumption | omega)) (cwV 2 S.2.2.2.2 gL_law_X2_turnSeeAlso rfl rfl rfl (by decide +kernel) ⟨Nat.le_of_ble_eq_true rfl, Nat.le_of_ble_eq_true rfl⟩) ⟨show cells + 0 ≤ 601024 by omega, show slots + 0 ≤ 7293034 by omega⟩ (fun H hH => ⟨(sp, ta), rfl, hH⟩) (fun H hH => ⟨_, rfl, hH⟩) (fun hs tb oo h1 h2 => ?_)
  exact tlI C te_4 ti_4 ⟨show cells + 0 ≤ 601024 by omega, show slots + 0 ≤ 7293034 by omega⟩ (by rw [upI_s]) (g_wid (k := cells + 30) (n := slots + 300) (by omega) (by omega) (K d0 _ _ _ _ _ _ _ _ _ hd0 (by rw [h1, h2]; exact inv_also I (by omega) (by omega) (by omega))))
set_option maxHeartbeats 4000000 in
set_option maxRecDepth 100000 in
/-- putIn -/
theorem ca_5 (C : lqC p l s m c E ad am ao b L xs) (hd0 : s.drawn.sameBut d0 lw_cs) (hi : 0 ≤ iz ∧ iz + 3 < L) (I : INV sp se al n pg on) (hcs : cells + 30 ≤ 601024 ∧ slots + 300 ≤ 7293034)
    (K : lqK p l e s m b below meth c Q E ad am ao iz cells slots) : lqG p l e s m b below meth c d0 cells slots Q 516 (lvL iz b ao am ad) [] (lqB E ad am ao fo sp se al ta n pg th on) := by
  obtain ⟨CS, hK, hX, hN, hlt, ⟨hj, hjm, hd⟩, ⟨hao, ham⟩, hXs, hbl, hL⟩ := id C
  have S := CS d0
  have r0 := iI_r (xs (iz + 1).toNat)
  have r1 := iI_r (xs (iz + 2).toNat)
  have hn0 := I.hn
  have hpg0 := I.hpg
  by_cases cX : (xs (iz + 1).toNat).toInt < 1 ∨ pg + 1 < (xs (iz + 1).toNat).toInt ∨ (xs (iz + 2).toNat).toInt < 1 ∨ 100 < (xs (iz + 2).toNat).toInt
  · skip
    refine sg2 C hi (RR := fun g => g = sp) (PM := fun g => g = on) hd_5 (m_L_putInX l hlt E s.heap.size hj sp se al ta n pg ((xs (iz + 1).toNat).toInt) ((xs (iz + 2).toNat).toInt) ao fo I.hpg (by first | assumption | omega) (by first | assumption | omega) hao) (vx_cwSW 4 S.2.2.2.2 gL_law_L_putIn rfl rfl rfl (by decide +kernel) ⟨Nat.le_of_ble_eq_true rfl, Nat.le_of_ble_eq_true rfl⟩) (m_X2_putInE l E hjm th pg n on se al ((xs (iz + 1).toNat).toInt) ((xs (iz + 2).toNat).toInt) I.hpg (by first | assumption | omega) (by first | assumption | omega)) (cwV 2 S.2.2.2.2 gL_law_X2_putIn rfl rfl rfl (by decide +kernel) ⟨Nat.le_of_ble_eq_true rfl, Nat.le_of_ble_eq_true rfl⟩) ⟨show cells + 1 ≤ 601024 by omega, show slots + 6 ≤ 7293034 by omega⟩ (fun H hH => ⟨(sp, ta), rfl, hH⟩) (fun H hH => ⟨_, rfl, hH⟩) (fun hs tb oo h1 h2 => ?_)
    exact tlE C te_5 ⟨show cells + 1 ≤ 601024 by omega, show slots + 6 ≤ 7293034 by omega⟩ (by decide) (g_wid (k := cells + 30) (n := slots + 300) (by omega) (by omega) (K d0 _ _ _ _ _ _ _ _ _ hd0 (by rw [h1, h2]; exact I)))
  by_cases cY : 300 < pg + (xs (iz + 2).toNat).toInt
  · skip
    refine sg2 C hi (RR := fun g => g = sp) (PM := fun g => g = on) hd_5 (m_L_putInY l hlt E s.heap.size hj sp se al ta n pg ((xs (iz + 1).toNat).toInt) ((xs (iz + 2).toNat).toInt) ao fo I.hpg (by first | assumption | omega) hao) (vx_cwSW 4 S.2.2.2.2 gL_law_L_putIn rfl rfl rfl (by decide +kernel) ⟨Nat.le_of_ble_eq_true rfl, Nat.le_of_ble_eq_true rfl⟩) (m_X2_putInF l E hjm th pg n on se al ((xs (iz + 1).toNat).toInt) ((xs (iz + 2).toNat).toInt) I.hpg (by first | assumption | omega)) (cwV 2 S.2.2.2.2 gL_law_X2_putIn rfl rfl rfl (by decide +kernel) ⟨Nat.le_of_ble_eq_true rfl, Nat.le_of_ble_eq_true rfl⟩) ⟨show cells + 1 ≤ 601024 by omega, show slots + 6 ≤ 7293034 by omega⟩ (fun H hH => ⟨(sp, ta), rfl, hH⟩) (fun H hH => ⟨_, rfl, hH⟩) (fun hs tb oo h1 h2 => ?_)
    exact tlE C te_5 ⟨show cells + 1 ≤ 601024 by omega, show slots + 6 ≤ 7293034 by omega⟩ (by decide) (g_wid (k := cells + 30) (n := slots + 300) (by omega) (by omega) (K d0 _ _ _ _ _ _ _ _ _ hd0 (by rw [h1, h2]; exact I)))
  refine sg2 C hi (RR := fun hs => ∀ j9 : Int, 0 ≤ j9 → j9 < 24 → (fun i g => (i < n → g = mvd (sp i) (xs (iz + 1).toNat).toInt (xs (iz + 2).toNat).toInt (sp i).1) ∧ (n ≤ i → g = sp i)) j9 (hs j9)) (PM := fun oo => ((∀ k, oo k = 0 ∨ oo k = 1) ∧ ∀ h : Int, 0 ≤ h → h < n → ∀ r : Int, 0 ≤ r → r ≤ 301 → (oo (302 * h + r) = 1 ↔ PM (sp h) (xs (iz + 1).toNat).toInt (xs (iz + 2).toNat).toInt r)) ∧ (∀ h : Int, n ≤ h → h < 24 → ∀ r : Int, 0 ≤ r → r ≤ 301 → oo (302 * h + r) = on (302 * h + r))) hd_5 (m_L_putIn l hlt E s.heap.size hj sp se al ta n pg ((xs (iz + 1).toNat).toInt) ((xs (iz + 2).toNat).toInt) ao fo I.hn I.hpg I.hsp (by first | assumption | omega) hao) (vx_cwSW 4 S.2.2.2.2 gL_law_L_putIn rfl rfl rfl (by decide +kernel) ⟨Nat.le_of_ble_eq_true rfl, Nat.le_of_ble_eq_true rfl⟩) (m_X2_putIn l E hjm th pg n on se al sp ((xs (iz + 1).toNat).toInt) ((xs (iz + 2).toNat).toInt) (by first | assumption | omega) I.hn I.hpg I.hrl I.hsp I.hon) (cwV 2 S.2.2.2.2 gL_law_X2_putIn rfl rfl rfl (by decide +kernel) ⟨Nat.le_of_ble_eq_true rfl, Nat.le_of_ble_eq_true rfl⟩) ⟨show cells + 0 ≤ 601024 by omega, show slots + 0 ≤ 7293034 by omega⟩ (fun H hH => by obtain ⟨hs, t9, h1, h2⟩ := hH; exact ⟨(hs, t9), h1, h2⟩) (fun H hH => by obtain ⟨oo, o1, o2, o3⟩ := hH; exact ⟨oo, ⟨o1, o2⟩, o3⟩) (fun hs tb oo h1 h2 => ?_)
  exact tlI C te_5 ti_5 ⟨show cells + 0 ≤ 601024 by omega, show slots + 0 ≤ 7293034 by omega⟩ (by rw [upI_s]) (g_wid (k := cells + 30) (n := slots + 300) (by omega) (by omega) (K d0 _ _ _ _ _ _ _ _ _ hd0 (inv_in I (by omega) h1 h2.1.1 h2.1.2 h2.2)))
set_option maxHeartbeats 4000000 in
set_option maxRecDepth 100000 in
/-- takeOut -/
theorem ca_6 (C : lqC p l s m c E ad am ao b L xs) (hd0 : s.drawn.sameBut d0 lw_cs) (hi : 0 ≤ iz ∧ iz + 3 < L) (I : INV sp se al n pg on) (hcs : cells + 30 ≤ 601024 ∧ slots + 300 ≤ 7293034)
    (K : lqK p l e s m b below meth c Q E ad am ao iz cells slots) : lqG p l e s m b below meth c d0 cells slots Q 584 (lvL iz b ao am ad) [] (lqB E ad am ao fo sp se al ta n pg th on) := by
  obtain ⟨CS, hK, hX, hN, hlt, ⟨hj, hjm, hd⟩, ⟨hao, ham⟩, hXs, hbl, hL⟩ := id C
  have S := CS d0
  have r0 := iI_r (xs (iz + 1).toNat)
  have hn0 := I.hn
  have hpg0 := I.hpg
  by_cases cX : (xs (iz + 1).toNat).toInt < 1 ∨ pg < (xs (iz + 1).toNat).toInt
  · skip
    refine sg1 C hi (RR := fun g => g = sp) (PM := fun g => g = on) hd_6 (m_L_takeOutX l hlt E s.heap.size hj sp se al ta n pg ((xs (iz + 1).toNat).toInt) ao fo I.hpg (by first | assumption | omega) (by first | assumption | omega) hao) (vx_cwSW 3 S.2.2.2.2 gL_law_L_takeOut rfl rfl rfl (by decide +kernel) ⟨Nat.le_of_ble_eq_true rfl, Nat.le_of_ble_eq_true rfl⟩) (m_X2_takeOutE l E hjm th pg n on se al ((xs (iz + 1).toNat).toInt) (by first | assumption | omega) (by first | assumption | omega) I.hpg) (cwV 1 S.2.2.2.2 gL_law_X2_takeOut rfl rfl rfl (by decide +kernel) ⟨Nat.le_of_ble_eq_true rfl, Nat.le_of_ble_eq_true rfl⟩) ⟨show cells + 1 ≤ 601024 by omega, show slots + 6 ≤ 7293034 by omega⟩ (fun H hH => ⟨(sp, ta), rfl, hH⟩) (fun H hH => ⟨_, rfl, hH⟩) (fun hs tb oo h1 h2 => ?_)
    exact tlE C te_6 ⟨show cells + 1 ≤ 601024 by omega, show slots + 6 ≤ 7293034 by omega⟩ (by decide) (g_wid (k := cells + 30) (n := slots + 300) (by omega) (by omega) (K d0 _ _ _ _ _ _ _ _ _ hd0 (by rw [h1, h2]; exact I)))
  by_cases cY : pg = 1
  · skip
    refine sg1 C hi (RR := fun g => g = sp) (PM := fun g => g = on) hd_6 (m_L_takeOutY l hlt E s.heap.size hj sp se al ta n pg ((xs (iz + 1).toNat).toInt) ao fo I.hpg (by first | assumption | omega) hao) (vx_cwSW 3 S.2.2.2.2 gL_law_L_takeOut rfl rfl rfl (by decide +kernel) ⟨Nat.le_of_ble_eq_true rfl, Nat.le_of_ble_eq_true rfl⟩) (m_X2_takeOutF l E hjm th pg n on se al ((xs (iz + 1).toNat).toInt) (by first | assumption | omega) I.hpg) (cwV 1 S.2.2.2.2 gL_law_X2_takeOut rfl rfl rfl (by decide +kernel) ⟨Nat.le_of_ble_eq_true rfl, Nat.le_of_ble_eq_true rfl⟩) ⟨show cells + 1 ≤ 601024 by omega, show slots + 6 ≤ 7293034 by omega⟩ (fun H hH => ⟨(sp, ta), rfl, hH⟩) (fun H hH => ⟨_, rfl, hH⟩) (fun hs tb oo h1 h2 => ?_)
    exact tlE C te_6 ⟨show cells + 1 ≤ 601024 by omega, show slots + 6 ≤ 7293034 by omega⟩ (by decide) (g_wid (k := cells + 30) (n := slots + 300) (by omega) (by omega) (K d0 _ _ _ _ _ _ _ _ _ hd0 (by rw [h1, h2]; exact I)))
  refine sg1 C hi (RR := fun hs => ∀ j9 : Int, 0 ≤ j9 → j9 < 24 → (fun i g => (i < n → VL g (pg - 1) ∧ g.1 ≤ 8 ∧ ∀ r, cov g r ↔ cov (sp i) (if r < (xs (iz + 1).toNat).toInt then r else r + 1)) ∧ (n ≤ i → g = sp i)) j9 (hs j9)) (PM := fun oo => ((∀ k, oo k = 0 ∨ oo k = 1) ∧ ∀ h : Int, 0 ≤ h → h < n → ∀ r : Int, 0 ≤ r → r ≤ 301 → (oo (302 * h + r) = 1 ↔ cov (sp h) (if r < (xs (iz + 1).toNat).toInt then r else r + 1))) ∧ (∀ h : Int, n ≤ h → h < 24 → ∀ r : Int, 0 ≤ r → r ≤ 301 → oo (302 * h + r) = on (302 * h + r))) hd_6 (m_L_takeOut l hlt E s.heap.size hj sp se al ta n pg ((xs (iz + 1).toNat).toInt) ao fo I.hn I.hpg I.hsp (by first | assumption | omega) hao) (vx_cwSW 3 S.2.2.2.2 gL_law_L_takeOut rfl rfl rfl (by decide +kernel) ⟨Nat.le_of_ble_eq_true rfl, Nat.le_of_ble_eq_true rfl⟩) (m_X2_takeOut l E hjm th pg n on se al sp ((xs (iz + 1).toNat).toInt) (by first | assumption | omega) I.hn I.hpg I.hrl I.hsp I.hon) (cwV 1 S.2.2.2.2 gL_law_X2_takeOut rfl rfl rfl (by decide +kernel) ⟨Nat.le_of_ble_eq_true rfl, Nat.le_of_ble_eq_true rfl⟩) ⟨show cells + 0 ≤ 601024 by omega, show slots + 0 ≤ 7293034 by omega⟩ (fun H hH => by obtain ⟨hs, t9, h1, h2⟩ := hH; exact ⟨(hs, t9), h1, h2⟩) (fun H hH => by obtain ⟨oo, o1, o2, o3⟩ := hH; exact ⟨oo, ⟨o1, o2⟩, o3⟩) (fun hs tb oo h1 h2 => ?_)
  exact tlI C te_6 ti_6 ⟨show cells + 0 ≤ 601024 by omega, show slots + 0 ≤ 7293034 by omega⟩ (by rw [upI_s]) (g_wid (k := cells + 30) (n := slots + 300) (by omega) (by omega) (K d0 _ _ _ _ _ _ _ _ _ hd0 (inv_out I (by omega) h1 h2.1.1 h2.1.2 h2.2)))
set_option maxHeartbeats 4000000 in
set_option maxRecDepth 100000 in
/-- bookPages -/
theorem ca_7 (C : lqC p l s m c E ad am ao b L xs) (hd0 : s.drawn.sameBut d0 lw_cs) (hi : 0 ≤ iz ∧ iz + 3 < L) (I : INV sp se al n pg on) (hcs : cells + 30 ≤ 601024 ∧ slots + 300 ≤ 7293034)
    (K : lqK p l e s m b below meth c Q E ad am ao iz cells slots) : lqG p l e s m b below meth c d0 cells slots Q 640 (lvL iz b ao am ad) [] (lqB E ad am ao fo sp se al ta n pg th on) := by
  obtain ⟨CS, hK, hX, hN, hlt, ⟨hj, hjm, hd⟩, ⟨hao, ham⟩, hXs, hbl, hL⟩ := id C
  have S := CS d0
  exact sgD C hd0 I di_7 (m_X1_bookPages l E hj sp se al ta n pg ) (cwV 0 S.2.2.2.2 gL_law_X1_bookPages rfl rfl rfl (by decide +kernel) ⟨Nat.le_of_ble_eq_true rfl, Nat.le_of_ble_eq_true rfl⟩) (m_X2_bookPages l E hjm th pg n on se al ) (cwV 0 S.2.2.2.2 gL_law_X2_bookPages rfl rfl rfl (by decide +kernel) ⟨Nat.le_of_ble_eq_true rfl, Nat.le_of_ble_eq_true rfl⟩) (fun _ z => z.elim) (fun _ h => ⟨ta, h⟩) hcs K
set_option maxHeartbeats 4000000 in
set_option maxRecDepth 100000 in
/-- headings -/
theorem ca_8 (C : lqC p l s m c E ad am ao b L xs) (hd0 : s.drawn.sameBut d0 lw_cs) (hi : 0 ≤ iz ∧ iz + 3 < L) (I : INV sp se al n pg on) (hcs : cells + 30 ≤ 601024 ∧ slots + 300 ≤ 7293034)
    (K : lqK p l e s m b below meth c Q E ad am ao iz cells slots) : lqG p l e s m b below meth c d0 cells slots Q 653 (lvL iz b ao am ad) [] (lqB E ad am ao fo sp se al ta n pg th on) := by
  obtain ⟨CS, hK, hX, hN, hlt, ⟨hj, hjm, hd⟩, ⟨hao, ham⟩, hXs, hbl, hL⟩ := id C
  have S := CS d0
  exact sgD C hd0 I di_8 (m_X1_headings l E hj sp se al ta n pg ) (cwV 0 S.2.2.2.2 gL_law_X1_headings rfl rfl rfl (by decide +kernel) ⟨Nat.le_of_ble_eq_true rfl, Nat.le_of_ble_eq_true rfl⟩) (m_X2_headings l E hjm th pg n on se al ) (cwV 0 S.2.2.2.2 gL_law_X2_headings rfl rfl rfl (by decide +kernel) ⟨Nat.le_of_ble_eq_true rfl, Nat.le_of_ble_eq_true rfl⟩) (fun _ z => z.elim) (fun _ h => ⟨ta, h⟩) hcs K
set_option maxHeartbeats 4000000 in
set_option maxRecDepth 100000 in
/-- spansOf -/
theorem ca_9 (C : lqC p l s m c E ad am ao b L xs) (hd0 : s.drawn.sameBut d0 lw_cs) (hi : 0 ≤ iz ∧ iz + 3 < L) (I : INV sp se al n pg on) (hcs : cells + 30 ≤ 601024 ∧ slots + 300 ≤ 7293034)
    (K : lqK p l e s m b below meth c Q E ad am ao iz cells slots) : lqG p l e s m b below meth c d0 cells slots Q 666 (lvL iz b ao am ad) [] (lqB E ad am ao fo sp se al ta n pg th on) := by
  obtain ⟨CS, hK, hX, hN, hlt, ⟨hj, hjm, hd⟩, ⟨hao, ham⟩, hXs, hbl, hL⟩ := id C
  have S := CS d0
  have r0 := iI_r (xs (iz + 1).toNat)
  have hn0 := I.hn
  have hpg0 := I.hpg
  by_cases cX : (xs (iz + 1).toNat).toInt < 0 ∨ n ≤ (xs (iz + 1).toNat).toInt
  · skip
    refine sg1 C hi (RR := fun g => g = sp) (PM := fun g => g = on) hd_9 (m_L_spansOfX l hlt E s.heap.size hj sp se al ta n pg ((xs (iz + 1).toNat).toInt) ao fo (by first | assumption | omega) (by first | assumption | omega) I.hn hao) (vx_cwSW 3 S.2.2.2.2 gL_law_L_spansOf rfl rfl rfl (by decide +kernel) ⟨Nat.le_of_ble_eq_true rfl, Nat.le_of_ble_eq_true rfl⟩) (m_X2_spansOfE l E hjm th pg n on se al ((xs (iz + 1).toNat).toInt) (by first | assumption | omega) (by first | assumption | omega) I.hn) (cwV 1 S.2.2.2.2 gL_law_X2_spansOf rfl rfl rfl (by decide +kernel) ⟨Nat.le_of_ble_eq_true rfl, Nat.le_of_ble_eq_true rfl⟩) ⟨show cells + 1 ≤ 601024 by omega, show slots + 6 ≤ 7293034 by omega⟩ (fun H hH => ⟨(sp, ta), rfl, hH⟩) (fun H hH => ⟨_, rfl, hH⟩) (fun hs tb oo h1 h2 => ?_)
    exact tlE C te_9 ⟨show cells + 1 ≤ 601024 by omega, show slots + 6 ≤ 7293034 by omega⟩ (by decide) (g_wid (k := cells + 30) (n := slots + 300) (by omega) (by omega) (K d0 _ _ _ _ _ _ _ _ _ hd0 (by rw [h1, h2]; exact I)))
  refine sg1 C hi (RR := fun g => g = sp) (PM := fun g => g = on) hd_9 (m_L_spansOf l hlt E s.heap.size hj sp se al ta n pg ((xs (iz + 1).toNat).toInt) ao fo (by first | assumption | omega) I.hn hao) (vx_cwSW 3 S.2.2.2.2 gL_law_L_spansOf rfl rfl rfl (by decide +kernel) ⟨Nat.le_of_ble_eq_true rfl, Nat.le_of_ble_eq_true rfl⟩) (m_X2_spansOf l E hjm th pg n on se al sp ((xs (iz + 1).toNat).toInt) (by first | assumption | omega) I.hn I.hpg I.hrl I.hsp I.hon) (cwV 1 S.2.2.2.2 gL_law_X2_spansOf rfl rfl rfl (by decide +kernel) ⟨Nat.le_of_ble_eq_true rfl, Nat.le_of_ble_eq_true rfl⟩) ⟨show cells + 0 ≤ 601024 by omega, show slots + 0 ≤ 7293034 by omega⟩ (fun H hH => ⟨(sp, ta), rfl, hH⟩) (fun H hH => ⟨_, rfl, hH⟩) (fun hs tb oo h1 h2 => ?_)
  exact tlI C te_9 ti_9 ⟨show cells + 0 ≤ 601024 by omega, show slots + 0 ≤ 7293034 by omega⟩ (by rw [upI_s]) (g_wid (k := cells + 30) (n := slots + 300) (by omega) (by omega) (K d0 _ _ _ _ _ _ _ _ _ hd0 (by rw [h1, h2]; exact I)))
set_option maxHeartbeats 4000000 in
set_option maxRecDepth 100000 in
/-- startOf -/
theorem ca_10 (C : lqC p l s m c E ad am ao b L xs) (hd0 : s.drawn.sameBut d0 lw_cs) (hi : 0 ≤ iz ∧ iz + 3 < L) (I : INV sp se al n pg on) (hcs : cells + 30 ≤ 601024 ∧ slots + 300 ≤ 7293034)
    (K : lqK p l e s m b below meth c Q E ad am ao iz cells slots) : lqG p l e s m b below meth c d0 cells slots Q 722 (lvL iz b ao am ad) [] (lqB E ad am ao fo sp se al ta n pg th on) := by
  obtain ⟨CS, hK, hX, hN, hlt, ⟨hj, hjm, hd⟩, ⟨hao, ham⟩, hXs, hbl, hL⟩ := id C
  have S := CS d0
  have r0 := iI_r (xs (iz + 1).toNat)
  have r1 := iI_r (xs (iz + 2).toNat)
  have hn0 := I.hn
  have hpg0 := I.hpg
  by_cases cX : (xs (iz + 1).toNat).toInt < 0 ∨ n ≤ (xs (iz + 1).toNat).toInt
  · skip
    refine sg2 C hi (RR := fun g => g = sp) (PM := fun g => g = on) hd_10 (m_L_startOfX l hlt E s.heap.size hj sp se al ta n pg ((xs (iz + 1).toNat).toInt) ((xs (iz + 2).toNat).toInt) ao fo (by first | assumption | omega) (by first | assumption | omega) I.hn hao) (vx_cwSW 4 S.2.2.2.2 gL_law_L_startOf rfl rfl rfl (by decide +kernel) ⟨Nat.le_of_ble_eq_true rfl, Nat.le_of_ble_eq_true rfl⟩) (m_X2_startOfE l E hjm th pg n on se al ((xs (iz + 1).toNat).toInt) ((xs (iz + 2).toNat).toInt) (by first | assumption | omega) (by first | assumption | omega) I.hn) (cwV 2 S.2.2.2.2 gL_law_X2_startOf rfl rfl rfl (by decide +kernel) ⟨Nat.le_of_ble_eq_true rfl, Nat.le_of_ble_eq_true rfl⟩) ⟨show cells + 1 ≤ 601024 by omega, show slots + 6 ≤ 7293034 by omega⟩ (fun H hH => ⟨(sp, ta), rfl, hH⟩) (fun H hH => ⟨_, rfl, hH⟩) (fun hs tb oo h1 h2 => ?_)
    exact tlE C te_10 ⟨show cells + 1 ≤ 601024 by omega, show slots + 6 ≤ 7293034 by omega⟩ (by decide) (g_wid (k := cells + 30) (n := slots + 300) (by omega) (by omega) (K d0 _ _ _ _ _ _ _ _ _ hd0 (by rw [h1, h2]; exact I)))
  by_cases cY : (xs (iz + 2).toNat).toInt < 0 ∨ (sp (xs (iz + 1).toNat).toInt).1 ≤ (xs (iz + 2).toNat).toInt
  · skip
    refine sg2 C hi (RR := fun g => g = sp) (PM := fun g => g = on) hd_10 (m_L_startOfY l hlt E s.heap.size hj sp se al ta n pg ((xs (iz + 1).toNat).toInt) ((xs (iz + 2).toNat).toInt) ao fo (by first | assumption | omega) I.hn I.hsp (by first | assumption | omega) (by first | assumption | omega) hao) (vx_cwSW 4 S.2.2.2.2 gL_law_L_startOf rfl rfl rfl (by decide +kernel) ⟨Nat.le_of_ble_eq_true rfl, Nat.le_of_ble_eq_true rfl⟩) (m_X2_startOfF l E hjm th pg n on se al sp ((xs (iz + 1).toNat).toInt) ((xs (iz + 2).toNat).toInt) (by first | assumption | omega) I.hn (by first | assumption | omega) (by first | assumption | omega) I.hpg I.hrl I.hsp I.hon) (cwV 2 S.2.2.2.2 gL_law_X2_startOf rfl rfl rfl (by decide +kernel) ⟨Nat.le_of_ble_eq_true rfl, Nat.le_of_ble_eq_true rfl⟩) ⟨show cells + 1 ≤ 601024 by omega, show slots + 6 ≤ 7293034 by omega⟩ (fun H hH => ⟨(sp, ta), rfl, hH⟩) (fun H hH => ⟨_, rfl, hH⟩) (fun hs tb oo h1 h2 => ?_)
    exact tlE C te_10 ⟨show cells + 1 ≤ 601024 by omega, show slots + 6 ≤ 7293034 by omega⟩ (by decide) (g_wid (k := cells + 30) (n := slots + 300) (by omega) (by omega) (K d0 _ _ _ _ _ _ _ _ _ hd0 (by rw [h1, h2]; exact I)))
  refine sg2 C hi (RR := fun g => g = sp) (PM := fun g => g = on) hd_10 (m_L_startOf l hlt E s.heap.size hj sp se al ta n pg ((xs (iz + 1).toNat).toInt) ((xs (iz + 2).toNat).toInt) ao fo (by first | assumption | omega) I.hn I.hpg I.hsp (by first | assumption | omega) hao) (vx_cwSW 4 S.2.2.2.2 gL_law_L_startOf rfl rfl rfl (by decide +kernel) ⟨Nat.le_of_ble_eq_true rfl, Nat.le_of_ble_eq_true rfl⟩) (m_X2_startOf l E hjm th pg n on se al sp ((xs (iz + 1).toNat).toInt) ((xs (iz + 2).toNat).toInt) (by first | assumption | omega) I.hn (by first | assumption | omega) I.hpg I.hrl I.hsp I.hon) (cwV 2 S.2.2.2.2 gL_law_X2_startOf rfl rfl rfl (by decide +kernel) ⟨Nat.le_of_ble_eq_true rfl, Nat.le_of_ble_eq_true rfl⟩) ⟨show cells + 0 ≤ 601024 by omega, show slots + 0 ≤ 7293034 by omega⟩ (fun H hH => ⟨(sp, ta), rfl, hH⟩) (fun H hH => ⟨_, rfl, hH⟩) (fun hs tb oo h1 h2 => ?_)
  exact tlI C te_10 ti_10 ⟨show cells + 0 ≤ 601024 by omega, show slots + 0 ≤ 7293034 by omega⟩ (by rw [upI_s]) (g_wid (k := cells + 30) (n := slots + 300) (by omega) (by omega) (K d0 _ _ _ _ _ _ _ _ _ hd0 (by rw [h1, h2]; exact I)))
set_option maxHeartbeats 4000000 in
set_option maxRecDepth 100000 in
/-- endOf -/
theorem ca_11 (C : lqC p l s m c E ad am ao b L xs) (hd0 : s.drawn.sameBut d0 lw_cs) (hi : 0 ≤ iz ∧ iz + 3 < L) (I : INV sp se al n pg on) (hcs : cells + 30 ≤ 601024 ∧ slots + 300 ≤ 7293034)
    (K : lqK p l e s m b below meth c Q E ad am ao iz cells slots) : lqG p l e s m b below meth c d0 cells slots Q 790 (lvL iz b ao am ad) [] (lqB E ad am ao fo sp se al ta n pg th on) := by
  obtain ⟨CS, hK, hX, hN, hlt, ⟨hj, hjm, hd⟩, ⟨hao, ham⟩, hXs, hbl, hL⟩ := id C
  have S := CS d0
  have r0 := iI_r (xs (iz + 1).toNat)
  have r1 := iI_r (xs (iz + 2).toNat)
  have hn0 := I.hn
  have hpg0 := I.hpg
  by_cases cX : (xs (iz + 1).toNat).toInt < 0 ∨ n ≤ (xs (iz + 1).toNat).toInt
  · skip
    refine sg2 C hi (RR := fun g => g = sp) (PM := fun g => g = on) hd_11 (m_L_endOfX l hlt E s.heap.size hj sp se al ta n pg ((xs (iz + 1).toNat).toInt) ((xs (iz + 2).toNat).toInt) ao fo (by first | assumption | omega) (by first | assumption | omega) I.hn hao) (vx_cwSW 4 S.2.2.2.2 gL_law_L_endOf rfl rfl rfl (by decide +kernel) ⟨Nat.le_of_ble_eq_true rfl, Nat.le_of_ble_eq_true rfl⟩) (m_X2_endOfE l E hjm th pg n on se al ((xs (iz + 1).toNat).toInt) ((xs (iz + 2).toNat).toInt) (by first | assumption | omega) (by first | assumption | omega) I.hn) (cwV 2 S.2.2.2.2 gL_law_X2_endOf rfl rfl rfl (by decide +kernel) ⟨Nat.le_of_ble_eq_true rfl, Nat.le_of_ble_eq_true rfl⟩) ⟨show cells + 1 ≤ 601024 by omega, show slots + 6 ≤ 7293034 by omega⟩ (fun H hH => ⟨(sp, ta), rfl, hH⟩) (fun H hH => ⟨_, rfl, hH⟩) (fun hs tb oo h1 h2 => ?_)
    exact tlE C te_11 ⟨show cells + 1 ≤ 601024 by omega, show slots + 6 ≤ 7293034 by omega⟩ (by decide) (g_wid (k := cells + 30) (n := slots + 300) (by omega) (by omega) (K d0 _ _ _ _ _ _ _ _ _ hd0 (by rw [h1, h2]; exact I)))
  by_cases cY : (xs (iz + 2).toNat).toInt < 0 ∨ (sp (xs (iz + 1).toNat).toInt).1 ≤ (xs (iz + 2).toNat).toInt
  · skip
    refine sg2 C hi (RR := fun g => g = sp) (PM := fun g => g = on) hd_11 (m_L_endOfY l hlt E s.heap.size hj sp se al ta n pg ((xs (iz + 1).toNat).toInt) ((xs (iz + 2).toNat).toInt) ao fo (by first | assumption | omega) I.hn I.hsp (by first | assumption | omega) (by first | assumption | omega) hao) (vx_cwSW 4 S.2.2.2.2 gL_law_L_endOf rfl rfl rfl (by decide +kernel) ⟨Nat.le_of_ble_eq_true rfl, Nat.le_of_ble_eq_true rfl⟩) (m_X2_endOfF l E hjm th pg n on se al sp ((xs (iz + 1).toNat).toInt) ((xs (iz + 2).toNat).toInt) (by first | assumption | omega) I.hn (by first | assumption | omega) (by first | assumption | omega) I.hpg I.hrl I.hsp I.hon) (cwV 2 S.2.2.2.2 gL_law_X2_endOf rfl rfl rfl (by decide +kernel) ⟨Nat.le_of_ble_eq_true rfl, Nat.le_of_ble_eq_true rfl⟩) ⟨show cells + 1 ≤ 601024 by omega, show slots + 6 ≤ 7293034 by omega⟩ (fun H hH => ⟨(sp, ta), rfl, hH⟩) (fun H hH => ⟨_, rfl, hH⟩) (fun hs tb oo h1 h2 => ?_)
    exact tlE C te_11 ⟨show cells + 1 ≤ 601024 by omega, show slots + 6 ≤ 7293034 by omega⟩ (by decide) (g_wid (k := cells + 30) (n := slots + 300) (by omega) (by omega) (K d0 _ _ _ _ _ _ _ _ _ hd0 (by rw [h1, h2]; exact I)))
  refine sg2 C hi (RR := fun g => g = sp) (PM := fun g => g = on) hd_11 (m_L_endOf l hlt E s.heap.size hj sp se al ta n pg ((xs (iz + 1).toNat).toInt) ((xs (iz + 2).toNat).toInt) ao fo (by first | assumption | omega) I.hn I.hpg I.hsp (by first | assumption | omega) hao) (vx_cwSW 4 S.2.2.2.2 gL_law_L_endOf rfl rfl rfl (by decide +kernel) ⟨Nat.le_of_ble_eq_true rfl, Nat.le_of_ble_eq_true rfl⟩) (m_X2_endOf l E hjm th pg n on se al sp ((xs (iz + 1).toNat).toInt) ((xs (iz + 2).toNat).toInt) (by first | assumption | omega) I.hn (by first | assumption | omega) I.hpg I.hrl I.hsp I.hon) (cwV 2 S.2.2.2.2 gL_law_X2_endOf rfl rfl rfl (by decide +kernel) ⟨Nat.le_of_ble_eq_true rfl, Nat.le_of_ble_eq_true rfl⟩) ⟨show cells + 0 ≤ 601024 by omega, show slots + 0 ≤ 7293034 by omega⟩ (fun H hH => ⟨(sp, ta), rfl, hH⟩) (fun H hH => ⟨_, rfl, hH⟩) (fun hs tb oo h1 h2 => ?_)
  exact tlI C te_11 ti_11 ⟨show cells + 0 ≤ 601024 by omega, show slots + 0 ≤ 7293034 by omega⟩ (by rw [upI_s]) (g_wid (k := cells + 30) (n := slots + 300) (by omega) (by omega) (K d0 _ _ _ _ _ _ _ _ _ hd0 (by rw [h1, h2]; exact I)))
set_option maxHeartbeats 4000000 in
set_option maxRecDepth 100000 in
/-- pagesOf -/
theorem ca_12 (C : lqC p l s m c E ad am ao b L xs) (hd0 : s.drawn.sameBut d0 lw_cs) (hi : 0 ≤ iz ∧ iz + 3 < L) (I : INV sp se al n pg on) (hcs : cells + 30 ≤ 601024 ∧ slots + 300 ≤ 7293034)
    (K : lqK p l e s m b below meth c Q E ad am ao iz cells slots) : lqG p l e s m b below meth c d0 cells slots Q 858 (lvL iz b ao am ad) [] (lqB E ad am ao fo sp se al ta n pg th on) := by
  obtain ⟨CS, hK, hX, hN, hlt, ⟨hj, hjm, hd⟩, ⟨hao, ham⟩, hXs, hbl, hL⟩ := id C
  have S := CS d0
  have r0 := iI_r (xs (iz + 1).toNat)
  have hn0 := I.hn
  have hpg0 := I.hpg
  by_cases cX : (xs (iz + 1).toNat).toInt < 0 ∨ n ≤ (xs (iz + 1).toNat).toInt
  · skip
    refine sg1 C hi (RR := fun g => g = sp) (PM := fun g => g = on) hd_12 (m_L_pagesOfX l hlt E s.heap.size hj sp se al ta n pg ((xs (iz + 1).toNat).toInt) ao fo (by first | assumption | omega) (by first | assumption | omega) I.hn hao) (vx_cwSW 3 S.2.2.2.2 gL_law_L_pagesOf rfl rfl rfl (by decide +kernel) ⟨Nat.le_of_ble_eq_true rfl, Nat.le_of_ble_eq_true rfl⟩) (m_X2_pagesOfE l E hjm th pg n on se al ((xs (iz + 1).toNat).toInt) (by first | assumption | omega) (by first | assumption | omega) I.hn) (cwV 1 S.2.2.2.2 gL_law_X2_pagesOf rfl rfl rfl (by decide +kernel) ⟨Nat.le_of_ble_eq_true rfl, Nat.le_of_ble_eq_true rfl⟩) ⟨show cells + 1 ≤ 601024 by omega, show slots + 6 ≤ 7293034 by omega⟩ (fun H hH => ⟨(sp, ta), rfl, hH⟩) (fun H hH => ⟨_, rfl, hH⟩) (fun hs tb oo h1 h2 => ?_)
    exact tlE C te_12 ⟨show cells + 1 ≤ 601024 by omega, show slots + 6 ≤ 7293034 by omega⟩ (by decide) (g_wid (k := cells + 30) (n := slots + 300) (by omega) (by omega) (K d0 _ _ _ _ _ _ _ _ _ hd0 (by rw [h1, h2]; exact I)))
  refine sg1 C hi (RR := fun g => g = sp) (PM := fun g => g = on) hd_12 (m_L_pagesOf l hlt E s.heap.size hj sp se al ta n pg ((xs (iz + 1).toNat).toInt) ao fo (by first | assumption | omega) I.hn I.hpg I.hsp hao) (vx_cwSW 3 S.2.2.2.2 gL_law_L_pagesOf rfl rfl rfl (by decide +kernel) ⟨Nat.le_of_ble_eq_true rfl, Nat.le_of_ble_eq_true rfl⟩) (m_X2_pagesOf l E hjm th pg n on se al sp ((xs (iz + 1).toNat).toInt) (by first | assumption | omega) I.hn I.hpg I.hrl I.hsp I.hon) (cwV 1 S.2.2.2.2 gL_law_X2_pagesOf rfl rfl rfl (by decide +kernel) ⟨Nat.le_of_ble_eq_true rfl, Nat.le_of_ble_eq_true rfl⟩) ⟨show cells + 0 ≤ 601024 by omega, show slots + 0 ≤ 7293034 by omega⟩ (fun H hH => ⟨(sp, ta), rfl, hH⟩) (fun H hH => ⟨_, rfl, hH⟩) (fun hs tb oo h1 h2 => ?_)
  exact tlI C te_12 ti_12 ⟨show cells + 0 ≤ 601024 by omega, show slots + 0 ≤ 7293034 by omega⟩ (by rw [upI_s, rl_many I.hrl I.hsp I.hon (by omega) (by omega)]) (g_wid (k := cells + 30) (n := slots + 300) (by omega) (by omega) (K d0 _ _ _ _ _ _ _ _ _ hd0 (by rw [h1, h2]; exact I)))
set_option maxHeartbeats 4000000 in
set_option maxRecDepth 100000 in
/-- seeOf -/
theorem ca_13 (C : lqC p l s m c E ad am ao b L xs) (hd0 : s.drawn.sameBut d0 lw_cs) (hi : 0 ≤ iz ∧ iz + 3 < L) (I : INV sp se al n pg on) (hcs : cells + 30 ≤ 601024 ∧ slots + 300 ≤ 7293034)
    (K : lqK p l e s m b below meth c Q E ad am ao iz cells slots) : lqG p l e s m b below meth c d0 cells slots Q 914 (lvL iz b ao am ad) [] (lqB E ad am ao fo sp se al ta n pg th on) := by
  obtain ⟨CS, hK, hX, hN, hlt, ⟨hj, hjm, hd⟩, ⟨hao, ham⟩, hXs, hbl, hL⟩ := id C
  have S := CS d0
  have r0 := iI_r (xs (iz + 1).toNat)
  have hn0 := I.hn
  have hpg0 := I.hpg
  by_cases cX : (xs (iz + 1).toNat).toInt < 0 ∨ n ≤ (xs (iz + 1).toNat).toInt
  · skip
    refine sg1 C hi (RR := fun g => g = sp) (PM := fun g => g = on) hd_13 (m_L_seeOfX l hlt E s.heap.size hj sp se al ta n pg ((xs (iz + 1).toNat).toInt) ao fo (by first | assumption | omega) (by first | assumption | omega) I.hn hao) (vx_cwSW 3 S.2.2.2.2 gL_law_L_seeOf rfl rfl rfl (by decide +kernel) ⟨Nat.le_of_ble_eq_true rfl, Nat.le_of_ble_eq_true rfl⟩) (m_X2_seeOfE l E hjm th pg n on se al ((xs (iz + 1).toNat).toInt) (by first | assumption | omega) (by first | assumption | omega) I.hn) (cwV 1 S.2.2.2.2 gL_law_X2_seeOf rfl rfl rfl (by decide +kernel) ⟨Nat.le_of_ble_eq_true rfl, Nat.le_of_ble_eq_true rfl⟩) ⟨show cells + 1 ≤ 601024 by omega, show slots + 6 ≤ 7293034 by omega⟩ (fun H hH => ⟨(sp, ta), rfl, hH⟩) (fun H hH => ⟨_, rfl, hH⟩) (fun hs tb oo h1 h2 => ?_)
    exact tlE C te_13 ⟨show cells + 1 ≤ 601024 by omega, show slots + 6 ≤ 7293034 by omega⟩ (by decide) (g_wid (k := cells + 30) (n := slots + 300) (by omega) (by omega) (K d0 _ _ _ _ _ _ _ _ _ hd0 (by rw [h1, h2]; exact I)))
  refine sg1 C hi (RR := fun g => g = sp) (PM := fun g => g = on) hd_13 (m_L_seeOf l hlt E s.heap.size hj sp se al ta n pg ((xs (iz + 1).toNat).toInt) ao fo (by first | assumption | omega) I.hn hao) (vx_cwSW 3 S.2.2.2.2 gL_law_L_seeOf rfl rfl rfl (by decide +kernel) ⟨Nat.le_of_ble_eq_true rfl, Nat.le_of_ble_eq_true rfl⟩) (m_X2_seeOf l E hjm th pg n on se al sp ((xs (iz + 1).toNat).toInt) (by first | assumption | omega) I.hn) (cwV 1 S.2.2.2.2 gL_law_X2_seeOf rfl rfl rfl (by decide +kernel) ⟨Nat.le_of_ble_eq_true rfl, Nat.le_of_ble_eq_true rfl⟩) ⟨show cells + 0 ≤ 601024 by omega, show slots + 0 ≤ 7293034 by omega⟩ (fun H hH => ⟨(sp, ta), rfl, hH⟩) (fun H hH => ⟨_, rfl, hH⟩) (fun hs tb oo h1 h2 => ?_)
  exact tlI C te_13 ti_13 ⟨show cells + 0 ≤ 601024 by omega, show slots + 0 ≤ 7293034 by omega⟩ (by rw [upI_s]) (g_wid (k := cells + 30) (n := slots + 300) (by omega) (by omega) (K d0 _ _ _ _ _ _ _ _ _ hd0 (by rw [h1, h2]; exact I)))
set_option maxHeartbeats 4000000 in
set_option maxRecDepth 100000 in
/-- seeAlsosOf -/
theorem ca_14 (C : lqC p l s m c E ad am ao b L xs) (hd0 : s.drawn.sameBut d0 lw_cs) (hi : 0 ≤ iz ∧ iz + 3 < L) (I : INV sp se al n pg on) (hcs : cells + 30 ≤ 601024 ∧ slots + 300 ≤ 7293034)
    (K : lqK p l e s m b below meth c Q E ad am ao iz cells slots) : lqG p l e s m b below meth c d0 cells slots Q 970 (lvL iz b ao am ad) [] (lqB E ad am ao fo sp se al ta n pg th on) := by
  obtain ⟨CS, hK, hX, hN, hlt, ⟨hj, hjm, hd⟩, ⟨hao, ham⟩, hXs, hbl, hL⟩ := id C
  have S := CS d0
  have r0 := iI_r (xs (iz + 1).toNat)
  have hn0 := I.hn
  have hpg0 := I.hpg
  by_cases cX : (xs (iz + 1).toNat).toInt < 0 ∨ n ≤ (xs (iz + 1).toNat).toInt
  · skip
    refine sg1 C hi (RR := fun g => g = sp) (PM := fun g => g = on) hd_14 (m_L_seeAlsosOfX l hlt E s.heap.size hj sp se al ta n pg ((xs (iz + 1).toNat).toInt) ao fo (by first | assumption | omega) (by first | assumption | omega) I.hn hao) (vx_cwSW 3 S.2.2.2.2 gL_law_L_seeAlsosOf rfl rfl rfl (by decide +kernel) ⟨Nat.le_of_ble_eq_true rfl, Nat.le_of_ble_eq_true rfl⟩) (m_X2_seeAlsosOfE l E hjm th pg n on se al ((xs (iz + 1).toNat).toInt) (by first | assumption | omega) (by first | assumption | omega) I.hn) (cwV 1 S.2.2.2.2 gL_law_X2_seeAlsosOf rfl rfl rfl (by decide +kernel) ⟨Nat.le_of_ble_eq_true rfl, Nat.le_of_ble_eq_true rfl⟩) ⟨show cells + 1 ≤ 601024 by omega, show slots + 6 ≤ 7293034 by omega⟩ (fun H hH => ⟨(sp, ta), rfl, hH⟩) (fun H hH => ⟨_, rfl, hH⟩) (fun hs tb oo h1 h2 => ?_)
    exact tlE C te_14 ⟨show cells + 1 ≤ 601024 by omega, show slots + 6 ≤ 7293034 by omega⟩ (by decide) (g_wid (k := cells + 30) (n := slots + 300) (by omega) (by omega) (K d0 _ _ _ _ _ _ _ _ _ hd0 (by rw [h1, h2]; exact I)))
  refine sg1 C hi (RR := fun g => g = sp) (PM := fun g => g = on) hd_14 (m_L_seeAlsosOf l hlt E s.heap.size hj sp se al ta n pg ((xs (iz + 1).toNat).toInt) ao fo (by first | assumption | omega) I.hn I.hgr hao) (vx_cwSW 3 S.2.2.2.2 gL_law_L_seeAlsosOf rfl rfl rfl (by decide +kernel) ⟨Nat.le_of_ble_eq_true rfl, Nat.le_of_ble_eq_true rfl⟩) (m_X2_seeAlsosOf l E hjm th pg n on se al sp ((xs (iz + 1).toNat).toInt) (by first | assumption | omega) I.hn I.hgr) (cwV 1 S.2.2.2.2 gL_law_X2_seeAlsosOf rfl rfl rfl (by decide +kernel) ⟨Nat.le_of_ble_eq_true rfl, Nat.le_of_ble_eq_true rfl⟩) ⟨show cells + 0 ≤ 601024 by omega, show slots + 0 ≤ 7293034 by omega⟩ (fun H hH => ⟨(sp, ta), rfl, hH⟩) (fun H hH => ⟨_, rfl, hH⟩) (fun hs tb oo h1 h2 => ?_)
  exact tlI C te_14 ti_14 ⟨show cells + 0 ≤ 601024 by omega, show slots + 0 ≤ 7293034 by omega⟩ (by rw [upI_s]) (g_wid (k := cells + 30) (n := slots + 300) (by omega) (by omega) (K d0 _ _ _ _ _ _ _ _ _ hd0 (by rw [h1, h2]; exact I)))
set_option maxHeartbeats 4000000 in
set_option maxRecDepth 100000 in
/-- isOn -/
theorem ca_15 (C : lqC p l s m c E ad am ao b L xs) (hd0 : s.drawn.sameBut d0 lw_cs) (hi : 0 ≤ iz ∧ iz + 3 < L) (I : INV sp se al n pg on) (hcs : cells + 30 ≤ 601024 ∧ slots + 300 ≤ 7293034)
    (K : lqK p l e s m b below meth c Q E ad am ao iz cells slots) : lqG p l e s m b below meth c d0 cells slots Q 1026 (lvL iz b ao am ad) [] (lqB E ad am ao fo sp se al ta n pg th on) := by
  obtain ⟨CS, hK, hX, hN, hlt, ⟨hj, hjm, hd⟩, ⟨hao, ham⟩, hXs, hbl, hL⟩ := id C
  have S := CS d0
  have r0 := iI_r (xs (iz + 1).toNat)
  have r1 := iI_r (xs (iz + 2).toNat)
  have hn0 := I.hn
  have hpg0 := I.hpg
  by_cases cX : (xs (iz + 1).toNat).toInt < 0 ∨ n ≤ (xs (iz + 1).toNat).toInt
  · skip
    refine sg2 C hi (RR := fun g => g = sp) (PM := fun g => g = on) hd_15 (m_L_isOnX l hlt E s.heap.size hj sp se al ta n pg ((xs (iz + 1).toNat).toInt) ((xs (iz + 2).toNat).toInt) ao fo (by first | assumption | omega) (by first | assumption | omega) I.hn hao) (vx_cwSW 4 S.2.2.2.2 gL_law_L_isOn rfl rfl rfl (by decide +kernel) ⟨Nat.le_of_ble_eq_true rfl, Nat.le_of_ble_eq_true rfl⟩) (m_X2_isOnE l E hjm th pg n on se al ((xs (iz + 1).toNat).toInt) ((xs (iz + 2).toNat).toInt) (by first | assumption | omega) (by first | assumption | omega) I.hn) (cwV 2 S.2.2.2.2 gL_law_X2_isOn rfl rfl rfl (by decide +kernel) ⟨Nat.le_of_ble_eq_true rfl, Nat.le_of_ble_eq_true rfl⟩) ⟨show cells + 1 ≤ 601024 by omega, show slots + 6 ≤ 7293034 by omega⟩ (fun H hH => ⟨(sp, ta), rfl, hH⟩) (fun H hH => ⟨_, rfl, hH⟩) (fun hs tb oo h1 h2 => ?_)
    exact tlE C te_15 ⟨show cells + 1 ≤ 601024 by omega, show slots + 6 ≤ 7293034 by omega⟩ (by decide) (g_wid (k := cells + 30) (n := slots + 300) (by omega) (by omega) (K d0 _ _ _ _ _ _ _ _ _ hd0 (by rw [h1, h2]; exact I)))
  by_cases cY : (xs (iz + 2).toNat).toInt < 1 ∨ pg < (xs (iz + 2).toNat).toInt
  · skip
    refine sg2 C hi (RR := fun g => g = sp) (PM := fun g => g = on) hd_15 (m_L_isOnY l hlt E s.heap.size hj sp se al ta n pg ((xs (iz + 1).toNat).toInt) ((xs (iz + 2).toNat).toInt) ao fo (by first | assumption | omega) I.hn I.hpg (by first | assumption | omega) (by first | assumption | omega) hao) (vx_cwSW 4 S.2.2.2.2 gL_law_L_isOn rfl rfl rfl (by decide +kernel) ⟨Nat.le_of_ble_eq_true rfl, Nat.le_of_ble_eq_true rfl⟩) (m_X2_isOnF l E hjm th pg n on se al ((xs (iz + 1).toNat).toInt) ((xs (iz + 2).toNat).toInt) (by first | assumption | omega) I.hn (by first | assumption | omega) (by first | assumption | omega) I.hpg) (cwV 2 S.2.2.2.2 gL_law_X2_isOn rfl rfl rfl (by decide +kernel) ⟨Nat.le_of_ble_eq_true rfl, Nat.le_of_ble_eq_true rfl⟩) ⟨show cells + 1 ≤ 601024 by omega, show slots + 6 ≤ 7293034 by omega⟩ (fun H hH => ⟨(sp, ta), rfl, hH⟩) (fun H hH => ⟨_, rfl, hH⟩) (fun hs tb oo h1 h2 => ?_)
    exact tlE C te_15 ⟨show cells + 1 ≤ 601024 by omega, show slots + 6 ≤ 7293034 by omega⟩ (by decide) (g_wid (k := cells + 30) (n := slots + 300) (by omega) (by omega) (K d0 _ _ _ _ _ _ _ _ _ hd0 (by rw [h1, h2]; exact I)))
  refine sg2 C hi (RR := fun g => g = sp) (PM := fun g => g = on) hd_15 (m_L_isOn l hlt E s.heap.size hj sp se al ta n pg ((xs (iz + 1).toNat).toInt) ((xs (iz + 2).toNat).toInt) ao fo (by first | assumption | omega) I.hn I.hpg I.hsp (by first | assumption | omega) hao) (vx_cwSW 4 S.2.2.2.2 gL_law_L_isOn rfl rfl rfl (by decide +kernel) ⟨Nat.le_of_ble_eq_true rfl, Nat.le_of_ble_eq_true rfl⟩) (m_X2_isOn l E hjm th pg n on se al sp ((xs (iz + 1).toNat).toInt) ((xs (iz + 2).toNat).toInt) (by first | assumption | omega) I.hn (by first | assumption | omega) I.hpg I.hon I.hrl) (cwV 2 S.2.2.2.2 gL_law_X2_isOn rfl rfl rfl (by decide +kernel) ⟨Nat.le_of_ble_eq_true rfl, Nat.le_of_ble_eq_true rfl⟩) ⟨show cells + 0 ≤ 601024 by omega, show slots + 0 ≤ 7293034 by omega⟩ (fun H hH => ⟨(sp, ta), rfl, hH⟩) (fun H hH => ⟨_, rfl, hH⟩) (fun hs tb oo h1 h2 => ?_)
  exact tlB C te_15 tb_15 ⟨show cells + 0 ≤ 601024 by omega, show slots + 0 ≤ 7293034 by omega⟩ (pI_01 _) (by rw [upI_s]) (g_wid (k := cells + 30) (n := slots + 300) (by omega) (by omega) (K d0 _ _ _ _ _ _ _ _ _ hd0 (by rw [h1, h2]; exact I)))
set_option maxHeartbeats 4000000 in
set_option maxRecDepth 100000 in
/-- headingsOn -/
theorem ca_16 (C : lqC p l s m c E ad am ao b L xs) (hd0 : s.drawn.sameBut d0 lw_cs) (hi : 0 ≤ iz ∧ iz + 3 < L) (I : INV sp se al n pg on) (hcs : cells + 30 ≤ 601024 ∧ slots + 300 ≤ 7293034)
    (K : lqK p l e s m b below meth c Q E ad am ao iz cells slots) : lqG p l e s m b below meth c d0 cells slots Q 1101 (lvL iz b ao am ad) [] (lqB E ad am ao fo sp se al ta n pg th on) := by
  obtain ⟨CS, hK, hX, hN, hlt, ⟨hj, hjm, hd⟩, ⟨hao, ham⟩, hXs, hbl, hL⟩ := id C
  have S := CS d0
  have r0 := iI_r (xs (iz + 1).toNat)
  have hn0 := I.hn
  have hpg0 := I.hpg
  by_cases cX : (xs (iz + 1).toNat).toInt < 1 ∨ pg < (xs (iz + 1).toNat).toInt
  · skip
    refine sg1 C hi (RR := fun g => g = sp) (PM := fun g => g = on) hd_16 (m_L_headingsOnX l hlt E s.heap.size hj sp se al ta n pg ((xs (iz + 1).toNat).toInt) ao fo I.hpg (by first | assumption | omega) (by first | assumption | omega) hao) (vx_cwSW 3 S.2.2.2.2 gL_law_L_headingsOn rfl rfl rfl (by decide +kernel) ⟨Nat.le_of_ble_eq_true rfl, Nat.le_of_ble_eq_true rfl⟩) (m_X2_headingsOnE l E hjm th pg n on se al ((xs (iz + 1).toNat).toInt) (by first | assumption | omega) (by first | assumption | omega) I.hpg) (cwV 1 S.2.2.2.2 gL_law_X2_headingsOn rfl rfl rfl (by decide +kernel) ⟨Nat.le_of_ble_eq_true rfl, Nat.le_of_ble_eq_true rfl⟩) ⟨show cells + 1 ≤ 601024 by omega, show slots + 6 ≤ 7293034 by omega⟩ (fun H hH => ⟨(sp, ta), rfl, hH⟩) (fun H hH => ⟨_, rfl, hH⟩) (fun hs tb oo h1 h2 => ?_)
    exact tlE C te_16 ⟨show cells + 1 ≤ 601024 by omega, show slots + 6 ≤ 7293034 by omega⟩ (by decide) (g_wid (k := cells + 30) (n := slots + 300) (by omega) (by omega) (K d0 _ _ _ _ _ _ _ _ _ hd0 (by rw [h1, h2]; exact I)))
  refine sg1 C hi (RR := fun g => g = sp) (PM := fun g => g = on) hd_16 (m_L_headingsOn l hlt E s.heap.size hj sp se al ta n pg ((xs (iz + 1).toNat).toInt) ao fo I.hn I.hpg I.hsp (by first | assumption | omega) hao) (vx_cwSW 3 S.2.2.2.2 gL_law_L_headingsOn rfl rfl rfl (by decide +kernel) ⟨Nat.le_of_ble_eq_true rfl, Nat.le_of_ble_eq_true rfl⟩) (m_X2_headingsOn l E hjm th pg n on se al sp ((xs (iz + 1).toNat).toInt) (by first | assumption | omega) I.hn I.hpg I.hon I.hrl) (cwV 1 S.2.2.2.2 gL_law_X2_headingsOn rfl rfl rfl (by decide +kernel) ⟨Nat.le_of_ble_eq_true rfl, Nat.le_of_ble_eq_true rfl⟩) ⟨show cells + 0 ≤ 601024 by omega, show slots + 0 ≤ 7293034 by omega⟩ (fun H hH => ⟨(sp, ta), rfl, hH⟩) (fun H hH => ⟨_, rfl, hH⟩) (fun hs tb oo h1 h2 => ?_)
  exact tlI C te_16 ti_16 ⟨show cells + 0 ≤ 601024 by omega, show slots + 0 ≤ 7293034 by omega⟩ (by rw [upI_s]) (g_wid (k := cells + 30) (n := slots + 300) (by omega) (by omega) (K d0 _ _ _ _ _ _ _ _ _ hd0 (by rw [h1, h2]; exact I)))
set_option maxHeartbeats 4000000 in
set_option maxRecDepth 100000 in
/-- barePages -/
theorem ca_17 (C : lqC p l s m c E ad am ao b L xs) (hd0 : s.drawn.sameBut d0 lw_cs) (hi : 0 ≤ iz ∧ iz + 3 < L) (I : INV sp se al n pg on) (hcs : cells + 30 ≤ 601024 ∧ slots + 300 ≤ 7293034)
    (K : lqK p l e s m b below meth c Q E ad am ao iz cells slots) : lqG p l e s m b below meth c d0 cells slots Q 1157 (lvL iz b ao am ad) [] (lqB E ad am ao fo sp se al ta n pg th on) := by
  obtain ⟨CS, hK, hX, hN, hlt, ⟨hj, hjm, hd⟩, ⟨hao, ham⟩, hXs, hbl, hL⟩ := id C
  have S := CS d0
  exact sgD C hd0 I di_17 (m_X1_barePages l E hj sp se al ta n pg I.hn I.hpg I.hsp) (cwV 0 S.2.2.2.2 gL_law_X1_barePages rfl rfl rfl (by decide +kernel) ⟨Nat.le_of_ble_eq_true rfl, Nat.le_of_ble_eq_true rfl⟩) (m_X2_barePages l E hjm th pg n on se al sp I.hn I.hpg I.hon I.hrl) (cwV 0 S.2.2.2.2 gL_law_X2_barePages rfl rfl rfl (by decide +kernel) ⟨Nat.le_of_ble_eq_true rfl, Nat.le_of_ble_eq_true rfl⟩) (fun _ z => z) (fun _ h => h) hcs K
set_option maxHeartbeats 4000000 in
set_option maxRecDepth 100000 in
/-- fullestPage -/
theorem ca_18 (C : lqC p l s m c E ad am ao b L xs) (hd0 : s.drawn.sameBut d0 lw_cs) (hi : 0 ≤ iz ∧ iz + 3 < L) (I : INV sp se al n pg on) (hcs : cells + 30 ≤ 601024 ∧ slots + 300 ≤ 7293034)
    (K : lqK p l e s m b below meth c Q E ad am ao iz cells slots) : lqG p l e s m b below meth c d0 cells slots Q 1170 (lvL iz b ao am ad) [] (lqB E ad am ao fo sp se al ta n pg th on) := by
  obtain ⟨CS, hK, hX, hN, hlt, ⟨hj, hjm, hd⟩, ⟨hao, ham⟩, hXs, hbl, hL⟩ := id C
  have S := CS d0
  exact sgD C hd0 I di_18 (m_X1_fullestPage l E hj sp se al ta n pg I.hn I.hpg I.hsp) (cwV 0 S.2.2.2.2 gL_law_X1_fullestPage rfl rfl rfl (by decide +kernel) ⟨Nat.le_of_ble_eq_true rfl, Nat.le_of_ble_eq_true rfl⟩) (m_X2_fullestPage l E hjm th pg n on se al sp I.hn I.hpg I.hon I.hrl) (cwV 0 S.2.2.2.2 gL_law_X2_fullestPage rfl rfl rfl (by decide +kernel) ⟨Nat.le_of_ble_eq_true rfl, Nat.le_of_ble_eq_true rfl⟩) (fun _ z => z) (fun _ h => h) hcs K
set_option maxHeartbeats 4000000 in
set_option maxRecDepth 100000 in
/-- leadsTo -/
theorem ca_19 (C : lqC p l s m c E ad am ao b L xs) (hd0 : s.drawn.sameBut d0 lw_cs) (hi : 0 ≤ iz ∧ iz + 3 < L) (I : INV sp se al n pg on) (hcs : cells + 30 ≤ 601024 ∧ slots + 300 ≤ 7293034)
    (K : lqK p l e s m b below meth c Q E ad am ao iz cells slots) : lqG p l e s m b below meth c d0 cells slots Q 1183 (lvL iz b ao am ad) [] (lqB E ad am ao fo sp se al ta n pg th on) := by
  obtain ⟨CS, hK, hX, hN, hlt, ⟨hj, hjm, hd⟩, ⟨hao, ham⟩, hXs, hbl, hL⟩ := id C
  have S := CS d0
  have r0 := iI_r (xs (iz + 1).toNat)
  have hn0 := I.hn
  have hpg0 := I.hpg
  by_cases cX : (xs (iz + 1).toNat).toInt < 0 ∨ n ≤ (xs (iz + 1).toNat).toInt
  · skip
    refine sg1 C hi (RR := fun g => g = sp) (PM := fun g => g = on) hd_19 (m_L_leadsToX l hlt E s.heap.size hj sp se al ta n pg ((xs (iz + 1).toNat).toInt) ao fo (by first | assumption | omega) (by first | assumption | omega) I.hn hao) (vx_cwSW 3 S.2.2.2.2 gL_law_L_leadsTo rfl rfl rfl (by decide +kernel) ⟨Nat.le_of_ble_eq_true rfl, Nat.le_of_ble_eq_true rfl⟩) (m_X2_leadsToE l E hjm th pg n on se al ((xs (iz + 1).toNat).toInt) (by first | assumption | omega) (by first | assumption | omega) I.hn) (cwV 1 S.2.2.2.2 gL_law_X2_leadsTo rfl rfl rfl (by decide +kernel) ⟨Nat.le_of_ble_eq_true rfl, Nat.le_of_ble_eq_true rfl⟩) ⟨show cells + 1 ≤ 601024 by omega, show slots + 6 ≤ 7293034 by omega⟩ (fun H hH => ⟨(sp, ta), rfl, hH⟩) (fun H hH => ⟨_, rfl, hH⟩) (fun hs tb oo h1 h2 => ?_)
    exact tlE C te_19 ⟨show cells + 1 ≤ 601024 by omega, show slots + 6 ≤ 7293034 by omega⟩ (by decide) (g_wid (k := cells + 30) (n := slots + 300) (by omega) (by omega) (K d0 _ _ _ _ _ _ _ _ _ hd0 (by rw [h1, h2]; exact I)))
  refine sg1 C hi (RR := fun g => g = sp) (PM := fun g => g = on) hd_19 (m_L_leadsTo l hlt E s.heap.size hj sp se al ta n pg ((xs (iz + 1).toNat).toInt) ao fo (by first | assumption | omega) I.hn I.hgr hao) (vx_cwSW 3 S.2.2.2.2 gL_law_L_leadsTo rfl rfl rfl (by decide +kernel) ⟨Nat.le_of_ble_eq_true rfl, Nat.le_of_ble_eq_true rfl⟩) (m_X2_leadsTo l E hjm th pg n on se al sp ((xs (iz + 1).toNat).toInt) (by first | assumption | omega) I.hn I.hgr) (cwV 1 S.2.2.2.2 gL_law_X2_leadsTo rfl rfl rfl (by decide +kernel) ⟨Nat.le_of_ble_eq_true rfl, Nat.le_of_ble_eq_true rfl⟩) ⟨show cells + 0 ≤ 601024 by omega, show slots + 0 ≤ 7293034 by omega⟩ (fun H hH => ⟨(sp, ta), rfl, hH⟩) (fun H hH => ⟨_, rfl, hH⟩) (fun hs tb oo h1 h2 => ?_)
  exact tlI C te_19 ti_19 ⟨show cells + 0 ≤ 601024 by omega, show slots + 0 ≤ 7293034 by omega⟩ (by rw [upI_s]) (g_wid (k := cells + 30) (n := slots + 300) (by omega) (by omega) (K d0 _ _ _ _ _ _ _ _ _ hd0 (by rw [h1, h2]; exact I)))
set_option maxHeartbeats 4000000 in
set_option maxRecDepth 100000 in
/-- vainSees -/
theorem ca_20 (C : lqC p l s m c E ad am ao b L xs) (hd0 : s.drawn.sameBut d0 lw_cs) (hi : 0 ≤ iz ∧ iz + 3 < L) (I : INV sp se al n pg on) (hcs : cells + 30 ≤ 601024 ∧ slots + 300 ≤ 7293034)
    (K : lqK p l e s m b below meth c Q E ad am ao iz cells slots) : lqG p l e s m b below meth c d0 cells slots Q 1239 (lvL iz b ao am ad) [] (lqB E ad am ao fo sp se al ta n pg th on) := by
  obtain ⟨CS, hK, hX, hN, hlt, ⟨hj, hjm, hd⟩, ⟨hao, ham⟩, hXs, hbl, hL⟩ := id C
  have S := CS d0
  exact sgD C hd0 I di_20 (m_X1_vainSees l E hj sp se al ta n pg I.hn I.hsp I.hgr) (cwV 0 S.2.2.2.2 gL_law_X1_vainSees rfl rfl rfl (by decide +kernel) ⟨Nat.le_of_ble_eq_true rfl, Nat.le_of_ble_eq_true rfl⟩) (m_X2_vainSees l E hjm th pg n on se al sp I.hn I.hpg I.hon I.hgr I.hrl I.hsp) (cwV 0 S.2.2.2.2 gL_law_X2_vainSees rfl rfl rfl (by decide +kernel) ⟨Nat.le_of_ble_eq_true rfl, Nat.le_of_ble_eq_true rfl⟩) (fun _ z => z.elim) (fun _ h => ⟨ta, h⟩) hcs K
set_option maxHeartbeats 4000000 in
set_option maxRecDepth 100000 in
/-- steps -/
theorem ca_21 (C : lqC p l s m c E ad am ao b L xs) (hd0 : s.drawn.sameBut d0 lw_cs) (hi : 0 ≤ iz ∧ iz + 3 < L) (I : INV sp se al n pg on) (hcs : cells + 30 ≤ 601024 ∧ slots + 300 ≤ 7293034)
    (K : lqK p l e s m b below meth c Q E ad am ao iz cells slots) : lqG p l e s m b below meth c d0 cells slots Q 1252 (lvL iz b ao am ad) [] (lqB E ad am ao fo sp se al ta n pg th on) := by
  obtain ⟨CS, hK, hX, hN, hlt, ⟨hj, hjm, hd⟩, ⟨hao, ham⟩, hXs, hbl, hL⟩ := id C
  have S := CS d0
  have r0 := iI_r (xs (iz + 1).toNat)
  have r1 := iI_r (xs (iz + 2).toNat)
  have hn0 := I.hn
  have hpg0 := I.hpg
  by_cases cX : (xs (iz + 1).toNat).toInt < 0 ∨ n ≤ (xs (iz + 1).toNat).toInt
  · skip
    refine sg2 C hi (RR := fun g => g = sp) (PM := fun g => g = on) hd_21 (m_L_stepsX l hlt E s.heap.size hj sp se al ta n pg ((xs (iz + 1).toNat).toInt) ((xs (iz + 2).toNat).toInt) ao fo (by first | assumption | omega) (by first | assumption | omega) I.hn hao) (vx_cwSW 4 S.2.2.2.2 gL_law_L_steps rfl rfl rfl (by decide +kernel) ⟨Nat.le_of_ble_eq_true rfl, Nat.le_of_ble_eq_true rfl⟩) (m_X2_stepsE l E hjm th pg n on se al ((xs (iz + 1).toNat).toInt) ((xs (iz + 2).toNat).toInt) (by first | assumption | omega) (by first | assumption | omega) I.hn) (cwV 2 S.2.2.2.2 gL_law_X2_steps rfl rfl rfl (by decide +kernel) ⟨Nat.le_of_ble_eq_true rfl, Nat.le_of_ble_eq_true rfl⟩) ⟨show cells + 1 ≤ 601024 by omega, show slots + 6 ≤ 7293034 by omega⟩ (fun H hH => ⟨(sp, ta), rfl, hH⟩) (fun H hH => ⟨_, rfl, hH⟩) (fun hs tb oo h1 h2 => ?_)
    exact tlE C te_21 ⟨show cells + 1 ≤ 601024 by omega, show slots + 6 ≤ 7293034 by omega⟩ (by decide) (g_wid (k := cells + 30) (n := slots + 300) (by omega) (by omega) (K d0 _ _ _ _ _ _ _ _ _ hd0 (by rw [h1, h2]; exact I)))
  by_cases cY : (xs (iz + 2).toNat).toInt < 0 ∨ n ≤ (xs (iz + 2).toNat).toInt
  · skip
    refine sg2 C hi (RR := fun g => g = sp) (PM := fun g => g = on) hd_21 (m_L_stepsY l hlt E s.heap.size hj sp se al ta n pg ((xs (iz + 1).toNat).toInt) ((xs (iz + 2).toNat).toInt) ao fo (by first | assumption | omega) I.hn (by first | assumption | omega) (by first | assumption | omega) hao) (vx_cwSW 4 S.2.2.2.2 gL_law_L_steps rfl rfl rfl (by decide +kernel) ⟨Nat.le_of_ble_eq_true rfl, Nat.le_of_ble_eq_true rfl⟩) (m_X2_stepsF l E hjm th pg n on se al ((xs (iz + 1).toNat).toInt) ((xs (iz + 2).toNat).toInt) (by first | assumption | omega) I.hn (by first | assumption | omega) (by first | assumption | omega)) (cwV 2 S.2.2.2.2 gL_law_X2_steps rfl rfl rfl (by decide +kernel) ⟨Nat.le_of_ble_eq_true rfl, Nat.le_of_ble_eq_true rfl⟩) ⟨show cells + 1 ≤ 601024 by omega, show slots + 6 ≤ 7293034 by omega⟩ (fun H hH => ⟨(sp, ta), rfl, hH⟩) (fun H hH => ⟨_, rfl, hH⟩) (fun hs tb oo h1 h2 => ?_)
    exact tlE C te_21 ⟨show cells + 1 ≤ 601024 by omega, show slots + 6 ≤ 7293034 by omega⟩ (by decide) (g_wid (k := cells + 30) (n := slots + 300) (by omega) (by omega) (K d0 _ _ _ _ _ _ _ _ _ hd0 (by rw [h1, h2]; exact I)))
  refine sg2 C hi (RR := fun g => g = sp) (PM := fun g => g = on) hd_21 (m_L_steps l hlt E s.heap.size hj sp se al ta n pg ((xs (iz + 1).toNat).toInt) ((xs (iz + 2).toNat).toInt) ao fo (by first | assumption | omega) I.hn (by first | assumption | omega) I.hgr hao) (vx_cwSW 4 S.2.2.2.2 gL_law_L_steps rfl rfl rfl (by decide +kernel) ⟨Nat.le_of_ble_eq_true rfl, Nat.le_of_ble_eq_true rfl⟩) (m_X2_steps l E hjm th pg n on se al sp ((xs (iz + 1).toNat).toInt) ((xs (iz + 2).toNat).toInt) (by first | assumption | omega) I.hn (by first | assumption | omega) I.hgr) (cwV 2 S.2.2.2.2 gL_law_X2_steps rfl rfl rfl (by decide +kernel) ⟨Nat.le_of_ble_eq_true rfl, Nat.le_of_ble_eq_true rfl⟩) ⟨show cells + 0 ≤ 601024 by omega, show slots + 0 ≤ 7293034 by omega⟩ (fun H hH => ⟨(sp, ta), rfl, hH⟩) (fun H hH => ⟨_, rfl, hH⟩) (fun hs tb oo h1 h2 => ?_)
  exact tlI C te_21 ti_21 ⟨show cells + 0 ≤ 601024 by omega, show slots + 0 ≤ 7293034 by omega⟩ (by rw [upI_s]) (g_wid (k := cells + 30) (n := slots + 300) (by omega) (by omega) (K d0 _ _ _ _ _ _ _ _ _ hd0 (by rw [h1, h2]; exact I)))
set_option maxHeartbeats 4000000 in
set_option maxRecDepth 100000 in
/-- reachOf -/
theorem ca_22 (C : lqC p l s m c E ad am ao b L xs) (hd0 : s.drawn.sameBut d0 lw_cs) (hi : 0 ≤ iz ∧ iz + 3 < L) (I : INV sp se al n pg on) (hcs : cells + 30 ≤ 601024 ∧ slots + 300 ≤ 7293034)
    (K : lqK p l e s m b below meth c Q E ad am ao iz cells slots) : lqG p l e s m b below meth c d0 cells slots Q 1320 (lvL iz b ao am ad) [] (lqB E ad am ao fo sp se al ta n pg th on) := by
  obtain ⟨CS, hK, hX, hN, hlt, ⟨hj, hjm, hd⟩, ⟨hao, ham⟩, hXs, hbl, hL⟩ := id C
  have S := CS d0
  have r0 := iI_r (xs (iz + 1).toNat)
  have hn0 := I.hn
  have hpg0 := I.hpg
  by_cases cX : (xs (iz + 1).toNat).toInt < 0 ∨ n ≤ (xs (iz + 1).toNat).toInt
  · skip
    refine sg1 C hi (RR := fun g => g = sp) (PM := fun g => g = on) hd_22 (m_L_reachOfX l hlt E s.heap.size hj sp se al ta n pg ((xs (iz + 1).toNat).toInt) ao fo (by first | assumption | omega) (by first | assumption | omega) I.hn hao) (vx_cwSW 3 S.2.2.2.2 gL_law_L_reachOf rfl rfl rfl (by decide +kernel) ⟨Nat.le_of_ble_eq_true rfl, Nat.le_of_ble_eq_true rfl⟩) (m_X2_reachOfE l E hjm th pg n on se al ((xs (iz + 1).toNat).toInt) (by first | assumption | omega) (by first | assumption | omega) I.hn) (cwV 1 S.2.2.2.2 gL_law_X2_reachOf rfl rfl rfl (by decide +kernel) ⟨Nat.le_of_ble_eq_true rfl, Nat.le_of_ble_eq_true rfl⟩) ⟨show cells + 1 ≤ 601024 by omega, show slots + 6 ≤ 7293034 by omega⟩ (fun H hH => ⟨(sp, ta), rfl, hH⟩) (fun H hH => ⟨_, rfl, hH⟩) (fun hs tb oo h1 h2 => ?_)
    exact tlE C te_22 ⟨show cells + 1 ≤ 601024 by omega, show slots + 6 ≤ 7293034 by omega⟩ (by decide) (g_wid (k := cells + 30) (n := slots + 300) (by omega) (by omega) (K d0 _ _ _ _ _ _ _ _ _ hd0 (by rw [h1, h2]; exact I)))
  refine sg1 C hi (RR := fun g => g = sp) (PM := fun g => g = on) hd_22 (m_L_reachOf l hlt E s.heap.size hj sp se al ta n pg ((xs (iz + 1).toNat).toInt) ao fo (by first | assumption | omega) I.hn I.hgr hao) (vx_cwSW 3 S.2.2.2.2 gL_law_L_reachOf rfl rfl rfl (by decide +kernel) ⟨Nat.le_of_ble_eq_true rfl, Nat.le_of_ble_eq_true rfl⟩) (m_X2_reachOf l E hjm th pg n on se al sp ((xs (iz + 1).toNat).toInt) (by first | assumption | omega) I.hn I.hgr) (cwV 1 S.2.2.2.2 gL_law_X2_reachOf rfl rfl rfl (by decide +kernel) ⟨Nat.le_of_ble_eq_true rfl, Nat.le_of_ble_eq_true rfl⟩) ⟨show cells + 0 ≤ 601024 by omega, show slots + 0 ≤ 7293034 by omega⟩ (fun H hH => ⟨(sp, ta), rfl, hH⟩) (fun H hH => ⟨_, rfl, hH⟩) (fun hs tb oo h1 h2 => ?_)
  exact tlI C te_22 ti_22 ⟨show cells + 0 ≤ 601024 by omega, show slots + 0 ≤ 7293034 by omega⟩ (by rw [upI_s]) (g_wid (k := cells + 30) (n := slots + 300) (by omega) (by omega) (K d0 _ _ _ _ _ _ _ _ _ hd0 (by rw [h1, h2]; exact I)))
set_option maxHeartbeats 4000000 in
set_option maxRecDepth 100000 in
/-- isInRing -/
theorem ca_23 (C : lqC p l s m c E ad am ao b L xs) (hd0 : s.drawn.sameBut d0 lw_cs) (hi : 0 ≤ iz ∧ iz + 3 < L) (I : INV sp se al n pg on) (hcs : cells + 30 ≤ 601024 ∧ slots + 300 ≤ 7293034)
    (K : lqK p l e s m b below meth c Q E ad am ao iz cells slots) : lqG p l e s m b below meth c d0 cells slots Q 1376 (lvL iz b ao am ad) [] (lqB E ad am ao fo sp se al ta n pg th on) := by
  obtain ⟨CS, hK, hX, hN, hlt, ⟨hj, hjm, hd⟩, ⟨hao, ham⟩, hXs, hbl, hL⟩ := id C
  have S := CS d0
  have r0 := iI_r (xs (iz + 1).toNat)
  have hn0 := I.hn
  have hpg0 := I.hpg
  by_cases cX : (xs (iz + 1).toNat).toInt < 0 ∨ n ≤ (xs (iz + 1).toNat).toInt
  · skip
    refine sg1 C hi (RR := fun g => g = sp) (PM := fun g => g = on) hd_23 (m_L_isInRingX l hlt E s.heap.size hj sp se al ta n pg ((xs (iz + 1).toNat).toInt) ao fo (by first | assumption | omega) (by first | assumption | omega) I.hn hao) (vx_cwSW 3 S.2.2.2.2 gL_law_L_isInRing rfl rfl rfl (by decide +kernel) ⟨Nat.le_of_ble_eq_true rfl, Nat.le_of_ble_eq_true rfl⟩) (m_X2_isInRingE l E hjm th pg n on se al ((xs (iz + 1).toNat).toInt) (by first | assumption | omega) (by first | assumption | omega) I.hn) (cwV 1 S.2.2.2.2 gL_law_X2_isInRing rfl rfl rfl (by decide +kernel) ⟨Nat.le_of_ble_eq_true rfl, Nat.le_of_ble_eq_true rfl⟩) ⟨show cells + 1 ≤ 601024 by omega, show slots + 6 ≤ 7293034 by omega⟩ (fun H hH => ⟨(sp, ta), rfl, hH⟩) (fun H hH => ⟨_, rfl, hH⟩) (fun hs tb oo h1 h2 => ?_)
    exact tlE C te_23 ⟨show cells + 1 ≤ 601024 by omega, show slots + 6 ≤ 7293034 by omega⟩ (by decide) (g_wid (k := cells + 30) (n := slots + 300) (by omega) (by omega) (K d0 _ _ _ _ _ _ _ _ _ hd0 (by rw [h1, h2]; exact I)))
  refine sg1 C hi (RR := fun g => g = sp) (PM := fun g => g = on) hd_23 (m_L_isInRing l hlt E s.heap.size hj sp se al ta n pg ((xs (iz + 1).toNat).toInt) ao fo (by first | assumption | omega) I.hn I.hgr hao) (vx_cwSW 3 S.2.2.2.2 gL_law_L_isInRing rfl rfl rfl (by decide +kernel) ⟨Nat.le_of_ble_eq_true rfl, Nat.le_of_ble_eq_true rfl⟩) (m_X2_isInRing l E hjm th pg n on se al sp ((xs (iz + 1).toNat).toInt) (by first | assumption | omega) I.hn I.hgr) (cwV 1 S.2.2.2.2 gL_law_X2_isInRing rfl rfl rfl (by decide +kernel) ⟨Nat.le_of_ble_eq_true rfl, Nat.le_of_ble_eq_true rfl⟩) ⟨show cells + 0 ≤ 601024 by omega, show slots + 0 ≤ 7293034 by omega⟩ (fun H hH => ⟨(sp, ta), rfl, hH⟩) (fun H hH => ⟨_, rfl, hH⟩) (fun hs tb oo h1 h2 => ?_)
  exact tlB C te_23 tb_23 ⟨show cells + 0 ≤ 601024 by omega, show slots + 0 ≤ 7293034 by omega⟩ (pI_01 _) (by rw [upI_s]) (g_wid (k := cells + 30) (n := slots + 300) (by omega) (by omega) (K d0 _ _ _ _ _ _ _ _ _ hd0 (by rw [h1, h2]; exact I)))
set_option maxHeartbeats 4000000 in
set_option maxRecDepth 100000 in
/-- unled -/
theorem ca_24 (C : lqC p l s m c E ad am ao b L xs) (hd0 : s.drawn.sameBut d0 lw_cs) (hi : 0 ≤ iz ∧ iz + 3 < L) (I : INV sp se al n pg on) (hcs : cells + 30 ≤ 601024 ∧ slots + 300 ≤ 7293034)
    (K : lqK p l e s m b below meth c Q E ad am ao iz cells slots) : lqG p l e s m b below meth c d0 cells slots Q 1439 (lvL iz b ao am ad) [] (lqB E ad am ao fo sp se al ta n pg th on) := by
  obtain ⟨CS, hK, hX, hN, hlt, ⟨hj, hjm, hd⟩, ⟨hao, ham⟩, hXs, hbl, hL⟩ := id C
  have S := CS d0
  exact sgD C hd0 I di_24 (m_X1_unled l E hj sp se al ta n pg I.hn I.hgr) (cwV 0 S.2.2.2.2 gL_law_X1_unled rfl rfl rfl (by decide +kernel) ⟨Nat.le_of_ble_eq_true rfl, Nat.le_of_ble_eq_true rfl⟩) (m_X2_unled l E hjm th pg n on se al sp I.hn I.hgr) (cwV 0 S.2.2.2.2 gL_law_X2_unled rfl rfl rfl (by decide +kernel) ⟨Nat.le_of_ble_eq_true rfl, Nat.le_of_ble_eq_true rfl⟩) (fun _ z => z.elim) (fun _ h => ⟨ta, h⟩) hcs K
set_option maxHeartbeats 4000000 in
set_option maxRecDepth 100000 in
/-- spansWithGap -/
theorem ca_25 (C : lqC p l s m c E ad am ao b L xs) (hd0 : s.drawn.sameBut d0 lw_cs) (hi : 0 ≤ iz ∧ iz + 3 < L) (I : INV sp se al n pg on) (hcs : cells + 30 ≤ 601024 ∧ slots + 300 ≤ 7293034)
    (K : lqK p l e s m b below meth c Q E ad am ao iz cells slots) : lqG p l e s m b below meth c d0 cells slots Q 1452 (lvL iz b ao am ad) [] (lqB E ad am ao fo sp se al ta n pg th on) := by
  obtain ⟨CS, hK, hX, hN, hlt, ⟨hj, hjm, hd⟩, ⟨hao, ham⟩, hXs, hbl, hL⟩ := id C
  have S := CS d0
  have r0 := iI_r (xs (iz + 1).toNat)
  have r1 := iI_r (xs (iz + 2).toNat)
  have hn0 := I.hn
  have hpg0 := I.hpg
  by_cases cX : (xs (iz + 1).toNat).toInt < 0 ∨ n ≤ (xs (iz + 1).toNat).toInt
  · skip
    refine sg2 C hi (RR := fun g => g = sp) (PM := fun g => g = on) hd_25 (m_L_spansWithGapX l hlt E s.heap.size hj sp se al ta n pg ((xs (iz + 1).toNat).toInt) ((xs (iz + 2).toNat).toInt) ao fo (by first | assumption | omega) (by first | assumption | omega) I.hn hao) (vx_cwSW 4 S.2.2.2.2 gL_law_L_spansWithGap rfl rfl rfl (by decide +kernel) ⟨Nat.le_of_ble_eq_true rfl, Nat.le_of_ble_eq_true rfl⟩) (m_X2_spansWithGapE l E hjm th pg n on se al ((xs (iz + 1).toNat).toInt) ((xs (iz + 2).toNat).toInt) (by first | assumption | omega) (by first | assumption | omega) I.hn) (cwV 2 S.2.2.2.2 gL_law_X2_spansWithGap rfl rfl rfl (by decide +kernel) ⟨Nat.le_of_ble_eq_true rfl, Nat.le_of_ble_eq_true rfl⟩) ⟨show cells + 1 ≤ 601024 by omega, show slots + 6 ≤ 7293034 by omega⟩ (fun H hH => ⟨(sp, ta), rfl, hH⟩) (fun H hH => ⟨_, rfl, hH⟩) (fun hs tb oo h1 h2 => ?_)
    exact tlE C te_25 ⟨show cells + 1 ≤ 601024 by omega, show slots + 6 ≤ 7293034 by omega⟩ (by decide) (g_wid (k := cells + 30) (n := slots + 300) (by omega) (by omega) (K d0 _ _ _ _ _ _ _ _ _ hd0 (by rw [h1, h2]; exact I)))
  by_cases cY : (xs (iz + 2).toNat).toInt < 0 ∨ 100 < (xs (iz + 2).toNat).toInt
  · skip
    refine sg2 C hi (RR := fun g => g = sp) (PM := fun g => g = on) hd_25 (m_L_spansWithGapY l hlt E s.heap.size hj sp se al ta n pg ((xs (iz + 1).toNat).toInt) ((xs (iz + 2).toNat).toInt) ao fo (by first | assumption | omega) I.hn (by first | assumption | omega) (by first | assumption | omega) hao) (vx_cwSW 4 S.2.2.2.2 gL_law_L_spansWithGap rfl rfl rfl (by decide +kernel) ⟨Nat.le_of_ble_eq_true rfl, Nat.le_of_ble_eq_true rfl⟩) (m_X2_spansWithGapF l E hjm th pg n on se al ((xs (iz + 1).toNat).toInt) ((xs (iz + 2).toNat).toInt) (by first | assumption | omega) I.hn (by first | assumption | omega) (by first | assumption | omega)) (cwV 2 S.2.2.2.2 gL_law_X2_spansWithGap rfl rfl rfl (by decide +kernel) ⟨Nat.le_of_ble_eq_true rfl, Nat.le_of_ble_eq_true rfl⟩) ⟨show cells + 1 ≤ 601024 by omega, show slots + 6 ≤ 7293034 by omega⟩ (fun H hH => ⟨(sp, ta), rfl, hH⟩) (fun H hH => ⟨_, rfl, hH⟩) (fun hs tb oo h1 h2 => ?_)
    exact tlE C te_25 ⟨show cells + 1 ≤ 601024 by omega, show slots + 6 ≤ 7293034 by omega⟩ (by decide) (g_wid (k := cells + 30) (n := slots + 300) (by omega) (by omega) (K d0 _ _ _ _ _ _ _ _ _ hd0 (by rw [h1, h2]; exact I)))
  refine sg2 C hi (RR := fun hs => ∀ j9 : Int, 0 ≤ j9 → j9 < 24 → (fun i g => g = sp i) j9 (hs j9)) (PM := fun g => g = on) hd_25 (m_L_spansWithGap l hlt E s.heap.size hj sp se al ta n pg ((xs (iz + 1).toNat).toInt) ((xs (iz + 2).toNat).toInt) ao fo (by first | assumption | omega) I.hn I.hpg I.hsp (by first | assumption | omega) hao) (vx_cwSW 4 S.2.2.2.2 gL_law_L_spansWithGap rfl rfl rfl (by decide +kernel) ⟨Nat.le_of_ble_eq_true rfl, Nat.le_of_ble_eq_true rfl⟩) (m_X2_spansWithGap l E hjm th pg n on se al sp ((xs (iz + 1).toNat).toInt) ((xs (iz + 2).toNat).toInt) (by first | assumption | omega) I.hn (by first | assumption | omega) I.hpg I.hrl I.hsp I.hon) (cwV 2 S.2.2.2.2 gL_law_X2_spansWithGap rfl rfl rfl (by decide +kernel) ⟨Nat.le_of_ble_eq_true rfl, Nat.le_of_ble_eq_true rfl⟩) ⟨show cells + 0 ≤ 601024 by omega, show slots + 0 ≤ 7293034 by omega⟩ (fun H hH => by obtain ⟨hs, t9, h1, h2⟩ := hH; exact ⟨(hs, t9), h1, h2⟩) (fun H hH => ⟨_, rfl, hH⟩) (fun hs tb oo h1 h2 => ?_)
  exact tlI C te_25 ti_25 ⟨show cells + 0 ≤ 601024 by omega, show slots + 0 ≤ 7293034 by omega⟩ (by rw [upI_s]) (g_wid (k := cells + 30) (n := slots + 300) (by omega) (by omega) (K d0 _ _ _ _ _ _ _ _ _ hd0 (by rw [h2]; exact inv_same I h1)))
set_option maxHeartbeats 4000000 in
set_option maxRecDepth 100000 in
/-- commonPages -/
theorem ca_26 (C : lqC p l s m c E ad am ao b L xs) (hd0 : s.drawn.sameBut d0 lw_cs) (hi : 0 ≤ iz ∧ iz + 3 < L) (I : INV sp se al n pg on) (hcs : cells + 30 ≤ 601024 ∧ slots + 300 ≤ 7293034)
    (K : lqK p l e s m b below meth c Q E ad am ao iz cells slots) : lqG p l e s m b below meth c d0 cells slots Q 1520 (lvL iz b ao am ad) [] (lqB E ad am ao fo sp se al ta n pg th on) := by
  obtain ⟨CS, hK, hX, hN, hlt, ⟨hj, hjm, hd⟩, ⟨hao, ham⟩, hXs, hbl, hL⟩ := id C
  have S := CS d0
  have r0 := iI_r (xs (iz + 1).toNat)
  have r1 := iI_r (xs (iz + 2).toNat)
  have hn0 := I.hn
  have hpg0 := I.hpg
  by_cases cX : (xs (iz + 1).toNat).toInt < 0 ∨ n ≤ (xs (iz + 1).toNat).toInt
  · skip
    refine sg2 C hi (RR := fun g => g = sp) (PM := fun g => g = on) hd_26 (m_L_commonPagesX l hlt E s.heap.size hj sp se al ta n pg ((xs (iz + 1).toNat).toInt) ((xs (iz + 2).toNat).toInt) ao fo (by first | assumption | omega) (by first | assumption | omega) I.hn hao) (vx_cwSW 4 S.2.2.2.2 gL_law_L_commonPages rfl rfl rfl (by decide +kernel) ⟨Nat.le_of_ble_eq_true rfl, Nat.le_of_ble_eq_true rfl⟩) (m_X2_commonPagesE l E hjm th pg n on se al ((xs (iz + 1).toNat).toInt) ((xs (iz + 2).toNat).toInt) (by first | assumption | omega) (by first | assumption | omega) I.hn) (cwV 2 S.2.2.2.2 gL_law_X2_commonPages rfl rfl rfl (by decide +kernel) ⟨Nat.le_of_ble_eq_true rfl, Nat.le_of_ble_eq_true rfl⟩) ⟨show cells + 1 ≤ 601024 by omega, show slots + 6 ≤ 7293034 by omega⟩ (fun H hH => ⟨(sp, ta), rfl, hH⟩) (fun H hH => ⟨_, rfl, hH⟩) (fun hs tb oo h1 h2 => ?_)
    exact tlE C te_26 ⟨show cells + 1 ≤ 601024 by omega, show slots + 6 ≤ 7293034 by omega⟩ (by decide) (g_wid (k := cells + 30) (n := slots + 300) (by omega) (by omega) (K d0 _ _ _ _ _ _ _ _ _ hd0 (by rw [h1, h2]; exact I)))
  by_cases cY : (xs (iz + 2).toNat).toInt < 0 ∨ n ≤ (xs (iz + 2).toNat).toInt
  · skip
    refine sg2 C hi (RR := fun g => g = sp) (PM := fun g => g = on) hd_26 (m_L_commonPagesY l hlt E s.heap.size hj sp se al ta n pg ((xs (iz + 1).toNat).toInt) ((xs (iz + 2).toNat).toInt) ao fo (by first | assumption | omega) I.hn (by first | assumption | omega) (by first | assumption | omega) hao) (vx_cwSW 4 S.2.2.2.2 gL_law_L_commonPages rfl rfl rfl (by decide +kernel) ⟨Nat.le_of_ble_eq_true rfl, Nat.le_of_ble_eq_true rfl⟩) (m_X2_commonPagesF l E hjm th pg n on se al ((xs (iz + 1).toNat).toInt) ((xs (iz + 2).toNat).toInt) (by first | assumption | omega) I.hn (by first | assumption | omega) (by first | assumption | omega)) (cwV 2 S.2.2.2.2 gL_law_X2_commonPages rfl rfl rfl (by decide +kernel) ⟨Nat.le_of_ble_eq_true rfl, Nat.le_of_ble_eq_true rfl⟩) ⟨show cells + 1 ≤ 601024 by omega, show slots + 6 ≤ 7293034 by omega⟩ (fun H hH => ⟨(sp, ta), rfl, hH⟩) (fun H hH => ⟨_, rfl, hH⟩) (fun hs tb oo h1 h2 => ?_)
    exact tlE C te_26 ⟨show cells + 1 ≤ 601024 by omega, show slots + 6 ≤ 7293034 by omega⟩ (by decide) (g_wid (k := cells + 30) (n := slots + 300) (by omega) (by omega) (K d0 _ _ _ _ _ _ _ _ _ hd0 (by rw [h1, h2]; exact I)))
  refine sg2 C hi (RR := fun g => g = sp) (PM := fun g => g = on) hd_26 (m_L_commonPages l hlt E s.heap.size hj sp se al ta n pg ((xs (iz + 1).toNat).toInt) ((xs (iz + 2).toNat).toInt) ao fo (by first | assumption | omega) I.hn (by first | assumption | omega) I.hpg I.hsp hao) (vx_cwSW 4 S.2.2.2.2 gL_law_L_commonPages rfl rfl rfl (by decide +kernel) ⟨Nat.le_of_ble_eq_true rfl, Nat.le_of_ble_eq_true rfl⟩) (m_X2_commonPages l E hjm th pg n on se al sp ((xs (iz + 1).toNat).toInt) ((xs (iz + 2).toNat).toInt) (by first | assumption | omega) I.hn (by first | assumption | omega) I.hpg I.hrl I.hsp I.hon) (cwV 2 S.2.2.2.2 gL_law_X2_commonPages rfl rfl rfl (by decide +kernel) ⟨Nat.le_of_ble_eq_true rfl, Nat.le_of_ble_eq_true rfl⟩) ⟨show cells + 0 ≤ 601024 by omega, show slots + 0 ≤ 7293034 by omega⟩ (fun H hH => ⟨(sp, ta), rfl, hH⟩) (fun H hH => ⟨_, rfl, hH⟩) (fun hs tb oo h1 h2 => ?_)
  exact tlI C te_26 ti_26 ⟨show cells + 0 ≤ 601024 by omega, show slots + 0 ≤ 7293034 by omega⟩ (by rw [upI_s]) (g_wid (k := cells + 30) (n := slots + 300) (by omega) (by omega) (K d0 _ _ _ _ _ _ _ _ _ hd0 (by rw [h1, h2]; exact I)))
set_option maxHeartbeats 4000000 in
set_option maxRecDepth 100000 in
/-- nearest -/
theorem ca_27 (C : lqC p l s m c E ad am ao b L xs) (hd0 : s.drawn.sameBut d0 lw_cs) (hi : 0 ≤ iz ∧ iz + 3 < L) (I : INV sp se al n pg on) (hcs : cells + 30 ≤ 601024 ∧ slots + 300 ≤ 7293034)
    (K : lqK p l e s m b below meth c Q E ad am ao iz cells slots) : lqG p l e s m b below meth c d0 cells slots Q 1588 (lvL iz b ao am ad) [] (lqB E ad am ao fo sp se al ta n pg th on) := by
  obtain ⟨CS, hK, hX, hN, hlt, ⟨hj, hjm, hd⟩, ⟨hao, ham⟩, hXs, hbl, hL⟩ := id C
  have S := CS d0
  have r0 := iI_r (xs (iz + 1).toNat)
  have hn0 := I.hn
  have hpg0 := I.hpg
  by_cases cX : (xs (iz + 1).toNat).toInt < 0 ∨ n ≤ (xs (iz + 1).toNat).toInt
  · skip
    refine sg1 C hi (RR := fun g => g = sp) (PM := fun g => g = on) hd_27 (m_L_nearestX l hlt E s.heap.size hj sp se al ta n pg ((xs (iz + 1).toNat).toInt) ao fo (by first | assumption | omega) (by first | assumption | omega) I.hn hao) (vx_cwSW 3 S.2.2.2.2 gL_law_L_nearest rfl rfl rfl (by decide +kernel) ⟨Nat.le_of_ble_eq_true rfl, Nat.le_of_ble_eq_true rfl⟩) (m_X2_nearestE l E hjm th pg n on se al ((xs (iz + 1).toNat).toInt) (by first | assumption | omega) (by first | assumption | omega) I.hn) (cwV 1 S.2.2.2.2 gL_law_X2_nearest rfl rfl rfl (by decide +kernel) ⟨Nat.le_of_ble_eq_true rfl, Nat.le_of_ble_eq_true rfl⟩) ⟨show cells + 1 ≤ 601024 by omega, show slots + 6 ≤ 7293034 by omega⟩ (fun H hH => ⟨(sp, ta), rfl, hH⟩) (fun H hH => ⟨_, rfl, hH⟩) (fun hs tb oo h1 h2 => ?_)
    exact tlE C te_27 ⟨show cells + 1 ≤ 601024 by omega, show slots + 6 ≤ 7293034 by omega⟩ (by decide) (g_wid (k := cells + 30) (n := slots + 300) (by omega) (by omega) (K d0 _ _ _ _ _ _ _ _ _ hd0 (by rw [h1, h2]; exact I)))
  refine sg1 C hi (RR := fun g => g = sp) (PM := fun g => g = on) hd_27 (m_L_nearest l hlt E s.heap.size hj sp se al ta n pg ((xs (iz + 1).toNat).toInt) ao fo (by first | assumption | omega) I.hn I.hpg I.hsp hao) (vx_cwSW 3 S.2.2.2.2 gL_law_L_nearest rfl rfl rfl (by decide +kernel) ⟨Nat.le_of_ble_eq_true rfl, Nat.le_of_ble_eq_true rfl⟩) (m_X2_nearest l E hjm th pg n on se al sp ((xs (iz + 1).toNat).toInt) (by first | assumption | omega) I.hn I.hpg I.hrl I.hsp I.hon) (cwV 1 S.2.2.2.2 gL_law_X2_nearest rfl rfl rfl (by decide +kernel) ⟨Nat.le_of_ble_eq_true rfl, Nat.le_of_ble_eq_true rfl⟩) ⟨show cells + 0 ≤ 601024 by omega, show slots + 0 ≤ 7293034 by omega⟩ (fun H hH => ⟨(sp, ta), rfl, hH⟩) (fun H hH => ⟨_, rfl, hH⟩) (fun hs tb oo h1 h2 => ?_)
  exact tlI C te_27 ti_27 ⟨show cells + 0 ≤ 601024 by omega, show slots + 0 ≤ 7293034 by omega⟩ (by rw [upI_s]) (g_wid (k := cells + 30) (n := slots + 300) (by omega) (by omega) (K d0 _ _ _ _ _ _ _ _ _ hd0 (by rw [h1, h2]; exact I)))
set_option maxHeartbeats 4000000 in
set_option maxRecDepth 100000 in
/-- spansTogether -/
theorem ca_28 (C : lqC p l s m c E ad am ao b L xs) (hd0 : s.drawn.sameBut d0 lw_cs) (hi : 0 ≤ iz ∧ iz + 3 < L) (I : INV sp se al n pg on) (hcs : cells + 30 ≤ 601024 ∧ slots + 300 ≤ 7293034)
    (K : lqK p l e s m b below meth c Q E ad am ao iz cells slots) : lqG p l e s m b below meth c d0 cells slots Q 1644 (lvL iz b ao am ad) [] (lqB E ad am ao fo sp se al ta n pg th on) := by
  obtain ⟨CS, hK, hX, hN, hlt, ⟨hj, hjm, hd⟩, ⟨hao, ham⟩, hXs, hbl, hL⟩ := id C
  have S := CS d0
  have r0 := iI_r (xs (iz + 1).toNat)
  have r1 := iI_r (xs (iz + 2).toNat)
  have hn0 := I.hn
  have hpg0 := I.hpg
  by_cases cX : (xs (iz + 1).toNat).toInt < 0 ∨ n ≤ (xs (iz + 1).toNat).toInt
  · skip
    refine sg2 C hi (RR := fun g => g = sp) (PM := fun g => g = on) hd_28 (m_L_spansTogetherX l hlt E s.heap.size hj sp se al ta n pg ((xs (iz + 1).toNat).toInt) ((xs (iz + 2).toNat).toInt) ao fo (by first | assumption | omega) (by first | assumption | omega) I.hn hao) (vx_cwSW 4 S.2.2.2.2 gL_law_L_spansTogether rfl rfl rfl (by decide +kernel) ⟨Nat.le_of_ble_eq_true rfl, Nat.le_of_ble_eq_true rfl⟩) (m_X2_spansTogetherE l E hjm th pg n on se al ((xs (iz + 1).toNat).toInt) ((xs (iz + 2).toNat).toInt) (by first | assumption | omega) (by first | assumption | omega) I.hn) (cwV 2 S.2.2.2.2 gL_law_X2_spansTogether rfl rfl rfl (by decide +kernel) ⟨Nat.le_of_ble_eq_true rfl, Nat.le_of_ble_eq_true rfl⟩) ⟨show cells + 1 ≤ 601024 by omega, show slots + 6 ≤ 7293034 by omega⟩ (fun H hH => ⟨(sp, ta), rfl, hH⟩) (fun H hH => ⟨_, rfl, hH⟩) (fun hs tb oo h1 h2 => ?_)
    exact tlE C te_28 ⟨show cells + 1 ≤ 601024 by omega, show slots + 6 ≤ 7293034 by omega⟩ (by decide) (g_wid (k := cells + 30) (n := slots + 300) (by omega) (by omega) (K d0 _ _ _ _ _ _ _ _ _ hd0 (by rw [h1, h2]; exact I)))
  by_cases cY : (xs (iz + 2).toNat).toInt < 0 ∨ n ≤ (xs (iz + 2).toNat).toInt
  · skip
    refine sg2 C hi (RR := fun g => g = sp) (PM := fun g => g = on) hd_28 (m_L_spansTogetherY l hlt E s.heap.size hj sp se al ta n pg ((xs (iz + 1).toNat).toInt) ((xs (iz + 2).toNat).toInt) ao fo (by first | assumption | omega) I.hn (by first | assumption | omega) (by first | assumption | omega) hao) (vx_cwSW 4 S.2.2.2.2 gL_law_L_spansTogether rfl rfl rfl (by decide +kernel) ⟨Nat.le_of_ble_eq_true rfl, Nat.le_of_ble_eq_true rfl⟩) (m_X2_spansTogetherF l E hjm th pg n on se al ((xs (iz + 1).toNat).toInt) ((xs (iz + 2).toNat).toInt) (by first | assumption | omega) I.hn (by first | assumption | omega) (by first | assumption | omega)) (cwV 2 S.2.2.2.2 gL_law_X2_spansTogether rfl rfl rfl (by decide +kernel) ⟨Nat.le_of_ble_eq_true rfl, Nat.le_of_ble_eq_true rfl⟩) ⟨show cells + 1 ≤ 601024 by omega, show slots + 6 ≤ 7293034 by omega⟩ (fun H hH => ⟨(sp, ta), rfl, hH⟩) (fun H hH => ⟨_, rfl, hH⟩) (fun hs tb oo h1 h2 => ?_)
    exact tlE C te_28 ⟨show cells + 1 ≤ 601024 by omega, show slots + 6 ≤ 7293034 by omega⟩ (by decide) (g_wid (k := cells + 30) (n := slots + 300) (by omega) (by omega) (K d0 _ _ _ _ _ _ _ _ _ hd0 (by rw [h1, h2]; exact I)))
  refine sg2 C hi (RR := fun hs => ∀ j9 : Int, 0 ≤ j9 → j9 < 24 → (fun i g => g = sp i) j9 (hs j9)) (PM := fun g => g = on) hd_28 (m_L_spansTogether l hlt E s.heap.size hj sp se al ta n pg ((xs (iz + 1).toNat).toInt) ((xs (iz + 2).toNat).toInt) ao fo (by first | assumption | omega) I.hn (by first | assumption | omega) I.hpg I.hsp hao) (vx_cwSW 4 S.2.2.2.2 gL_law_L_spansTogether rfl rfl rfl (by decide +kernel) ⟨Nat.le_of_ble_eq_true rfl, Nat.le_of_ble_eq_true rfl⟩) (m_X2_spansTogether l E hjm th pg n on se al sp ((xs (iz + 1).toNat).toInt) ((xs (iz + 2).toNat).toInt) (by first | assumption | omega) I.hn (by first | assumption | omega) I.hpg I.hrl I.hsp I.hon) (cwV 2 S.2.2.2.2 gL_law_X2_spansTogether rfl rfl rfl (by decide +kernel) ⟨Nat.le_of_ble_eq_true rfl, Nat.le_of_ble_eq_true rfl⟩) ⟨show cells + 0 ≤ 601024 by omega, show slots + 0 ≤ 7293034 by omega⟩ (fun H hH => by obtain ⟨hs, t9, h1, h2⟩ := hH; exact ⟨(hs, t9), h1, h2⟩) (fun H hH => ⟨_, rfl, hH⟩) (fun hs tb oo h1 h2 => ?_)
  exact tlI C te_28 ti_28 ⟨show cells + 0 ≤ 601024 by omega, show slots + 0 ≤ 7293034 by omega⟩ (by rw [upI_s]) (g_wid (k := cells + 30) (n := slots + 300) (by omega) (by omega) (K d0 _ _ _ _ _ _ _ _ _ hd0 (by rw [h2]; exact inv_same I h1)))
end CAS
