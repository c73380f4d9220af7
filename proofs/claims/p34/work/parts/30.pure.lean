/-! the arrays by hand: what is put in another's place -/
def SD (S S1 : SA) : Prop := s3 S1 = s3 S ∧ s1 S1 = s1 S ∧ s2 S1 = s2 S ∧ sD S1 = sD S ∧ sM S1 = sM S ∧ sV S1 = sV S
theorem SD.rf (S : SA) : SD S S := ⟨rfl, rfl, rfl, rfl, rfl, rfl⟩
theorem SD.tr {S S1 S2 : SA} (h : SD S S1) (h2 : SD S1 S2) : SD S S2 := ⟨h2.1.trans h.1, h2.2.1.trans h.2.1, h2.2.2.1.trans h.2.2.1, h2.2.2.2.1.trans h.2.2.2.1, h2.2.2.2.2.1.trans h.2.2.2.2.1, h2.2.2.2.2.2.trans h.2.2.2.2.2⟩
theorem TG.rge {zc sm : Nat} {S : SA} {sp : Int → SpT} {n : Int} (h : TG zc sm S sp n) {u k : Int} (hu : 0 ≤ u ∧ u < n) (hk : 0 ≤ k ∧ k < (sp u).1) : zc ≤ sR S u k := h.ge (by rw [(h.2.2.2.2.2 u hu.1 hu.2).2.2.2 k hk.1 hk.2]; omega)
theorem TG.ner {zc sm : Nat} {S : SA} {sp : Int → SpT} {n : Int} (h : TG zc sm S sp n) {u k : Int} (hu : 0 ≤ u ∧ u < n) (hk : 0 ≤ k ∧ k < (sp u).1) : sm ≠ sR S u k := fun e => by
  have w := (h.2.2.2.2.2 u hu.1 hu.2).2.2.2 k hk.1 hk.2
  rw [← e, h.2.1] at w
  omega
theorem TG.g3 {zc sm : Nat} {S : SA} {sp : Int → SpT} {n : Int} (h : TG zc sm S sp n) : zc ≤ s3 S := h.ge (by rw [h.2.2.1]; decide)
theorem TG.g1 {zc sm : Nat} {S : SA} {sp : Int → SpT} {n : Int} (h : TG zc sm S sp n) : zc ≤ s1 S := h.ge (by rw [h.2.2.2.1]; decide)
theorem TG.g2 {zc sm : Nat} {S : SA} {sp : Int → SpT} {n : Int} (h : TG zc sm S sp n) : zc ≤ s2 S := h.ge (by rw [h.2.2.2.2.1]; decide)
/-- all its cells were there -/
def LTS (z : Nat) (S : SA) (sp : Int → SpT) (n : Int) : Prop := s3 S < z ∧ s1 S < z ∧ s2 S < z ∧ ∀ u : Int, 0 ≤ u → u < n → sB S u < z ∧ sD S u < z ∧ ∀ k : Int, 0 ≤ k → k < (sp u).1 → sR S u k < z
theorem SX.lts {E : EN} {zc sm : Nat} {S : SA} {sp : Int → SpT} {se : Int → Int} {n : Int} {z : Nat} {H : Heap} (hF : FZ z (SX E zc sm S sp se n) H) : LTS z S sp n := by
  obtain ⟨H0, h0, h, -, -⟩ := hF
  subst h0
  exact ⟨h.1.lt, h.2.1.lt, h.2.2.1.lt, fun u h0 h1 => ⟨(h.2.2.2.1 u h0 h1).1.1.lt, (h.2.2.2.1 u h0 h1).2.lt, fun k k0 k1 => ((h.2.2.2.1 u h0 h1).1.2 k k0 k1).lt⟩⟩
noncomputable def nmR (u : Int) (G : SpT) (rr : Int → Nat) (q : Nat) : Int := @dite Int (∃ k : Int, (0 ≤ k ∧ k < G.1) ∧ rr k = q) (Classical.propDecidable _) (fun w => 1000 * u + 2 + Classical.choose w) (fun _ => -9)
theorem nmR_k {u : Int} {G : SpT} {rr : Int → Nat} {k : Int} (hk : 0 ≤ k ∧ k < G.1) (hi : ∀ j k : Int, 0 ≤ j → j < k → k < G.1 → rr j < rr k) : nmR u G rr (rr k) = 1000 * u + 2 + k := by
  have w : ∃ j : Int, (0 ≤ j ∧ j < G.1) ∧ rr j = rr k := ⟨k, hk, rfl⟩
  unfold nmR
  rw [dif_pos w]
  have s := Classical.choose_spec w
  have e : Classical.choose w = k := by
    rcases Int.lt_trichotomy (Classical.choose w) k with c | c | c
    · have := hi _ _ s.1.1 c hk.2; omega
    · exact c
    · have := hi _ _ hk.1 c s.1.2; omega
  rw [e]
noncomputable def nmO (z : Nat) (O : Nat → Int) (c : Nat) (u : Int) (G : SpT) (rr : Int → Nat) (q : Nat) : Int := if q < z then O q else if q = c then 1000 * u else nmR u G rr q
theorem SX.setSp {E : EN} {zc sm : Nat} {S : SA} {sp : Int → SpT} {se : Int → Int} {n : Int} {z c : Nat} {u : Int} {G : SpT} {rr : Int → Nat} {H H1 : Heap} (hF : FZ z (SX E zc sm S sp se n) H) (hm : MR E z c G rr H) (hz : zc ≤ z ∧ sm < z) (hu : 0 ≤ u ∧ u < n) (h16 : G.1 ≤ 16) (hv : vR E 4 (s3 S) n (upI (sB S) u c) H1) (oq : ∀ q : Nat, q ≠ s3 S → H1[q]? = H[q]?) : ∃ S1 : SA, SD S S1 ∧ SX E zc sm S1 (upI sp u G) se n H1 := by
  have h := hF.out (LW.st SX.lw)
  have hl := SX.lts hF
  have ht := h.tg
  have e0 : ∀ y : Nat, y < z → nmO z (sO S) c u G rr y = sO S y := fun y hy => if_pos hy
  have ec : nmO z (sO S) c u G rr c = 1000 * u := by
    have := hm.2.1.2
    unfold nmO
    rw [if_neg (by omega), if_pos rfl]
  have er : ∀ k : Int, 0 ≤ k → k < G.1 → nmO z (sO S) c u G rr (rr k) = 1000 * u + 2 + k := by
    intro k k0 k1
    have w := hm.2.2.1 k k0 k1
    unfold nmO
    rw [if_neg (by omega), if_neg (by omega)]
    exact nmR_k ⟨k0, k1⟩ hm.2.2.2
  have hne : ∀ y : Nat, sO S y ≠ -2 → H1[y]? = H[y]? := fun y h1 => oq y (fun e => h1 (by rw [e]; exact ht.2.2.1))
  refine ⟨(nmO z (sO S) c u G rr, S.2.1, upI (sB S) u c, sD S, upI (sR S) u rr, sM S, sV S), ⟨rfl, rfl, rfl, rfl, rfl, rfl⟩, hv, h.2.1.kept (hne _ ?_), h.2.2.1.kept (hne _ ?_), fun j j0 j1 => ⟨?_, (h.2.2.2.1 j j0 j1).2.kept (hne _ ?_)⟩, fun q hq => ?_, ?_, ?_, ?_, ?_, fun j j0 j1 => ?_⟩
  · show sO S (s1 S) ≠ _; rw [ht.2.2.2.1]; decide
  · show sO S (s2 S) ≠ _; rw [ht.2.2.2.2.1]; decide
  · show RW E (upI (sB S) u c j) (upI sp u G j) (upI (sR S) u rr j) H1
    by_cases e : j = u
    · subst e
      rw [upI_s, upI_s, upI_s]
      have q3 := hl.1
      refine ⟨hm.1.1.kept (oq _ ?_), fun k k0 k1 => (hm.1.2 k k0 k1).kept (oq _ ?_)⟩
      · have := hm.2.1.2; show c ≠ s3 S; omega
      · have := hm.2.2.1 k k0 k1; show rr k ≠ s3 S; omega
    · rw [upI_n _ _ e, upI_n _ _ e, upI_n _ _ e]
      refine ⟨(h.2.2.2.1 j j0 j1).1.1.kept (hne _ ?_), fun k k0 k1 => ((h.2.2.2.1 j j0 j1).1.2 k k0 k1).kept (hne _ ?_)⟩
      · show sO S (sB S j) ≠ _; rw [(ht.2.2.2.2.2 j j0 j1).1.1]; omega
      · show sO S (sR S j k) ≠ _; rw [(ht.2.2.2.2.2 j j0 j1).2.2.2 k k0 k1]; omega
  · show sO S (sD S j) ≠ _; rw [(ht.2.2.2.2.2 j j0 j1).1.2]; omega
  · show nmO z (sO S) c u G rr q = -9; rw [e0 q (by omega)]; exact ht.1 q hq
  · show nmO z (sO S) c u G rr sm = -1; rw [e0 _ hz.2]; exact ht.2.1
  · show nmO z (sO S) c u G rr (s3 S) = -2; rw [e0 _ hl.1]; exact ht.2.2.1
  · show nmO z (sO S) c u G rr (s1 S) = -3; rw [e0 _ hl.2.1]; exact ht.2.2.2.1
  · show nmO z (sO S) c u G rr (s2 S) = -4; rw [e0 _ hl.2.2.1]; exact ht.2.2.2.2.1
  · show (nmO z (sO S) c u G rr (upI (sB S) u c j) = 1000 * j ∧ nmO z (sO S) c u G rr (sD S j) = 1000 * j + 1) ∧ ((upI sp u G j).1 ≤ 16 ∧ 0 ≤ (upI sp u G j).1) ∧ 0 ≤ sM S j ∧ ∀ k : Int, 0 ≤ k → k < (upI sp u G j).1 → nmO z (sO S) c u G rr (upI (sR S) u rr j k) = 1000 * j + 2 + k
    have w := ht.2.2.2.2.2 j j0 j1
    have wl := hl.2.2.2 j j0 j1
    by_cases e : j = u
    · subst e
      rw [upI_s, upI_s, upI_s]
      exact ⟨⟨ec, by rw [e0 _ wl.2.1]; exact w.1.2⟩, ⟨h16, hm.2.1.1⟩, w.2.2.1, er⟩
    · rw [upI_n _ _ e, upI_n _ _ e, upI_n _ _ e]
      exact ⟨⟨by rw [e0 _ wl.1]; exact w.1.1, by rw [e0 _ wl.2.1]; exact w.1.2⟩, w.2.1, w.2.2.1, fun k k0 k1 => by rw [e0 _ (wl.2.2 k k0 k1)]; exact w.2.2.2 k k0 k1⟩
/-- a row of see alsos put in another's place -/
theorem SX.setAl {E : EN} {zc sm : Nat} {S : SA} {sp : Int → SpT} {se : Int → Int} {n : Int} {z c : Nat} {u m1 : Int} {v1 : Int → Int} {H H1 : Heap} (hF : FZ z (SX E zc sm S sp se n) H) (hm : vI E c m1 v1 H) (hc : z ≤ c ∧ 0 ≤ m1) (hz : zc ≤ z ∧ sm < z) (hu : 0 ≤ u ∧ u < n) (hv : vR E 3 (s2 S) n (upI (sD S) u c) H1) (oq : ∀ q : Nat, q ≠ s2 S → H1[q]? = H[q]?) : ∃ S1 : SA, (s3 S1 = s3 S ∧ s1 S1 = s1 S ∧ s2 S1 = s2 S ∧ sM S1 = upI (sM S) u m1 ∧ sV S1 = upI (sV S) u v1) ∧ SX E zc sm S1 sp se n H1 := by
  have h := hF.out (LW.st SX.lw)
  have hl := SX.lts hF
  have ht := h.tg
  obtain ⟨O, hO⟩ : ∃ O : Nat → Int, O = fun q => if q < z then sO S q else 1000 * u + 1 := ⟨_, rfl⟩
  have e0 : ∀ y : Nat, y < z → O y = sO S y := fun y hy => by rw [hO]; exact if_pos hy
  have ec : O c = 1000 * u + 1 := by rw [hO]; exact if_neg (by omega)
  have hne : ∀ y : Nat, sO S y ≠ -4 → H1[y]? = H[y]? := fun y h1 => oq y (fun e => h1 (by rw [e]; exact ht.2.2.2.2.1))
  refine ⟨(O, S.2.1, sB S, upI (sD S) u c, sR S, upI (sM S) u m1, upI (sV S) u v1), ⟨rfl, rfl, rfl, rfl, rfl⟩, h.1.kept (hne _ ?_), h.2.1.kept (hne _ ?_), hv, fun j j0 j1 => ⟨⟨(h.2.2.2.1 j j0 j1).1.1.kept (hne _ ?_), fun k k0 k1 => ((h.2.2.2.1 j j0 j1).1.2 k k0 k1).kept (hne _ ?_)⟩, ?_⟩, fun q hq => ?_, ?_, ?_, ?_, ?_, fun j j0 j1 => ?_⟩
  · show sO S (s3 S) ≠ _; rw [ht.2.2.1]; decide
  · show sO S (s1 S) ≠ _; rw [ht.2.2.2.1]; decide
  · show sO S (sB S j) ≠ _; rw [(ht.2.2.2.2.2 j j0 j1).1.1]; omega
  · show sO S (sR S j k) ≠ _; rw [(ht.2.2.2.2.2 j j0 j1).2.2.2 k k0 k1]; omega
  · show vI E (upI (sD S) u c j) (upI (sM S) u m1 j) (upI (sV S) u v1 j) H1
    by_cases e : j = u
    · subst e
      rw [upI_s, upI_s, upI_s]
      have q3 := hl.2.2.1
      exact hm.kept (oq _ (by show c ≠ s2 S; omega))
    · rw [upI_n _ _ e, upI_n _ _ e, upI_n _ _ e]
      refine (h.2.2.2.1 j j0 j1).2.kept (hne _ ?_)
      show sO S (sD S j) ≠ _; rw [(ht.2.2.2.2.2 j j0 j1).1.2]; omega
  · show O q = -9; rw [e0 q (by omega)]; exact ht.1 q hq
  · show O sm = -1; rw [e0 _ hz.2]; exact ht.2.1
  · show O (s3 S) = -2; rw [e0 _ hl.1]; exact ht.2.2.1
  · show O (s1 S) = -3; rw [e0 _ hl.2.1]; exact ht.2.2.2.1
  · show O (s2 S) = -4; rw [e0 _ hl.2.2.1]; exact ht.2.2.2.2.1
  · show (O (sB S j) = 1000 * j ∧ O (upI (sD S) u c j) = 1000 * j + 1) ∧ ((sp j).1 ≤ 16 ∧ 0 ≤ (sp j).1) ∧ 0 ≤ upI (sM S) u m1 j ∧ ∀ k : Int, 0 ≤ k → k < (sp j).1 → O (sR S j k) = 1000 * j + 2 + k
    have w := ht.2.2.2.2.2 j j0 j1
    have wl := hl.2.2.2 j j0 j1
    refine ⟨⟨by rw [e0 _ wl.1]; exact w.1.1, ?_⟩, w.2.1, ?_, fun k k0 k1 => by rw [e0 _ (wl.2.2 k k0 k1)]; exact w.2.2.2 k k0 k1⟩
    · by_cases e : j = u
      · subst e; rw [upI_s]; exact ec
      · rw [upI_n _ _ e, e0 _ wl.2.1]; exact w.1.2
    · by_cases e : j = u
      · subst e; rw [upI_s]; exact hc.2
      · rw [upI_n _ _ e]; exact w.2.2.1
/-- a heading more -/
theorem SX.add {E : EN} {zc sm : Nat} {S : SA} {sp : Int → SpT} {se : Int → Int} {n : Int} {z a3 cb a1 cd a2 : Nat} {bb dd rb : Int → Nat} {ve : Int → Int} {H : Heap} (h : SX E zc sm S sp se n H) (hl : LTS z S sp n) (hz : zc ≤ z ∧ sm < z) (hn : 0 ≤ n) (h0 : (sp n).1 = 0)
    (ha : z ≤ a3 ∧ a3 < cb ∧ cb < a1 ∧ a1 < cd ∧ cd < a2) (x3 : vR E 4 a3 (n + 1) bb H) (hb : bb n = cb ∧ ∀ j : Int, 0 ≤ j → j < n → bb j = sB S j) (xb : vR E 3 cb 0 rb H) (x1 : vI E a1 (n + 1) (upI se n (-1)) H) (xd : vI E cd 0 ve H) (x2 : vR E 3 a2 (n + 1) dd H) (hd : dd n = cd ∧ ∀ j : Int, 0 ≤ j → j < n → dd j = sD S j) :
    ∃ S1 : SA, (s3 S1 = a3 ∧ s1 S1 = a1 ∧ s2 S1 = a2 ∧ sM S1 = upI (sM S) n 0 ∧ sV S1 = upI (sV S) n ve) ∧ SX E zc sm S1 sp (upI se n (-1)) (n + 1) H := by
  have ht := h.tg
  obtain ⟨O, hO⟩ : ∃ O : Nat → Int, O = fun q => if q < z then sO S q else if q = a3 then -2 else if q = a1 then -3 else if q = a2 then -4 else if q = cb then 1000 * n else 1000 * n + 1 := ⟨_, rfl⟩
  have e0 : ∀ y : Nat, y < z → O y = sO S y := fun y hy => by rw [hO]; exact if_pos hy
  have f3 : O a3 = -2 := by rw [hO]; show ite _ _ _ = _; rw [if_neg (by omega), if_pos rfl]
  have f1 : O a1 = -3 := by rw [hO]; show ite _ _ _ = _; rw [if_neg (by omega), if_neg (by omega), if_pos rfl]
  have f2 : O a2 = -4 := by rw [hO]; show ite _ _ _ = _; rw [if_neg (by omega), if_neg (by omega), if_neg (by omega), if_pos rfl]
  have fb : O cb = 1000 * n := by rw [hO]; show ite _ _ _ = _; rw [if_neg (by omega), if_neg (by omega), if_neg (by omega), if_neg (by omega), if_pos rfl]
  have fd : O cd = 1000 * n + 1 := by rw [hO]; show ite _ _ _ = _; rw [if_neg (by omega), if_neg (by omega), if_neg (by omega), if_neg (by omega), if_neg (by omega)]
  refine ⟨(O, (a3, a1, a2), bb, dd, upI (sR S) n rb, upI (sM S) n 0, upI (sV S) n ve), ⟨rfl, rfl, rfl, rfl, rfl⟩, x3, x1, x2, fun j j0 j1 => ⟨⟨?_, fun k k0 k1 => ?_⟩, ?_⟩, fun q hq => ?_, ?_, f3, f1, f2, fun j j0 j1 => ?_⟩
  · show vR E 3 (bb j) (sp j).1 (upI (sR S) n rb j) H
    by_cases e : j = n
    · subst e; rw [hb.1, h0, upI_s]; exact xb
    · rw [hb.2 j j0 (by omega), upI_n _ _ e]; exact (h.2.2.2.1 j j0 (by omega)).1.1
  · show vI E (upI (sR S) n rb j k) 2 (pr ((sp j).2.1 k) ((sp j).2.2 k)) H
    by_cases e : j = n
    · subst e; omega
    · rw [upI_n _ _ e]; exact (h.2.2.2.1 j j0 (by omega)).1.2 k k0 k1
  · show vI E (dd j) (upI (sM S) n 0 j) (upI (sV S) n ve j) H
    by_cases e : j = n
    · subst e; rw [hd.1, upI_s, upI_s]; exact xd
    · rw [hd.2 j j0 (by omega), upI_n _ _ e, upI_n _ _ e]; exact (h.2.2.2.1 j j0 (by omega)).2
  · show O q = -9; rw [e0 q (by omega)]; exact ht.1 q hq
  · show O sm = -1; rw [e0 _ hz.2]; exact ht.2.1
  · show (O (bb j) = 1000 * j ∧ O (dd j) = 1000 * j + 1) ∧ ((sp j).1 ≤ 16 ∧ 0 ≤ (sp j).1) ∧ 0 ≤ upI (sM S) n 0 j ∧ ∀ k : Int, 0 ≤ k → k < (sp j).1 → O (upI (sR S) n rb j k) = 1000 * j + 2 + k
    by_cases e : j = n
    · subst e
      rw [hb.1, hd.1, upI_s, upI_s, h0]
      exact ⟨⟨fb, fd⟩, ⟨by decide, by decide⟩, Int.le_refl _, fun k k0 k1 => by omega⟩
    · have w := ht.2.2.2.2.2 j j0 (by omega)
      have wl := hl.2.2.2 j j0 (by omega)
      rw [hb.2 j j0 (by omega), hd.2 j j0 (by omega), upI_n _ _ e, upI_n _ _ e]
      exact ⟨⟨by rw [e0 _ wl.1]; exact w.1.1, by rw [e0 _ wl.2.1]; exact w.1.2⟩, w.2.1, w.2.2.1, fun k k0 k1 => by rw [e0 _ (wl.2.2 k k0 k1)]; exact w.2.2.2 k k0 k1⟩
/-- no headings -/
theorem SX.none {E : EN} {zc sm a3 a1 a2 : Nat} {f3' f2' : Int → Nat} {se F : Int → Int} {sp : Int → SpT} {H : Heap} (ha : zc ≤ sm ∧ sm < a3 ∧ a3 < a1 ∧ a1 < a2) (x3 : vR E 4 a3 0 f3' H) (x1 : vI E a1 0 F H) (x2 : vR E 3 a2 0 f2' H) :
    ∃ S1 : SA, (s3 S1 = a3 ∧ s1 S1 = a1 ∧ s2 S1 = a2) ∧ SX E zc sm S1 sp se 0 H := by
  obtain ⟨O, hO⟩ : ∃ O : Nat → Int, O = fun q => if q < zc then -9 else if q = sm then -1 else if q = a3 then -2 else if q = a1 then -3 else -4 := ⟨_, rfl⟩
  have f0 : ∀ q : Nat, q < zc → O q = -9 := fun q hq => by rw [hO]; exact if_pos hq
  have fs : O sm = -1 := by rw [hO]; show ite _ _ _ = _; rw [if_neg (by omega), if_pos rfl]
  have f3 : O a3 = -2 := by rw [hO]; show ite _ _ _ = _; rw [if_neg (by omega), if_neg (by omega), if_pos rfl]
  have f1 : O a1 = -3 := by rw [hO]; show ite _ _ _ = _; rw [if_neg (by omega), if_neg (by omega), if_neg (by omega), if_pos rfl]
  have f2 : O a2 = -4 := by rw [hO]; show ite _ _ _ = _; rw [if_neg (by omega), if_neg (by omega), if_neg (by omega), if_neg (by omega)]
  exact ⟨(O, (a3, a1, a2), f3', f2', fun _ _ => 0, fun _ => 0, fun _ _ => 0), ⟨rfl, rfl, rfl⟩, x3, x1.eq (fun j j0 j1 => by omega), x2, fun j j0 j1 => by omega, f0, fs, f3, f1, f2, fun j j0 j1 => by omega⟩
/-! rows moved, one after the other -/
theorem mv_l1 {g x : SpT} {p m j : Int} (hj : 0 ≤ j) (hx : x = mvd g p m j) (c : p ≤ g.2.2 j) : (x.1, upI x.2.1 j (x.2.1 j), upI x.2.2 j (x.2.2 j + m)) = (g.1, (mvd g p m j).2.1, (mvd g p m (j + 1)).2.2) := by
  subst hx
  rw [upI_x _ rfl, mvd_l, mvd_L hj c]; rfl
theorem mv_l0 {g x : SpT} {p m j : Int} (hx : x = mvd g p m j) (c : g.2.2 j < p) : x = (g.1, (mvd g p m j).2.1, (mvd g p m (j + 1)).2.2) := by
  subst hx
  rw [← mvd_L0 c]; rfl
theorem mv_f1 {g x : SpT} {p m j : Int} (hj : 0 ≤ j) (hx : x = (g.1, (mvd g p m j).2.1, (mvd g p m (j + 1)).2.2)) (c : p ≤ g.2.1 j) : (x.1, upI x.2.1 j (x.2.1 j + m), upI x.2.2 j (x.2.2 j)) = mvd g p m (j + 1) := by
  subst hx
  show (g.1, upI (mvd g p m j).2.1 j ((mvd g p m j).2.1 j + m), upI (mvd g p m (j + 1)).2.2 j ((mvd g p m (j + 1)).2.2 j)) = _
  rw [upI_x _ rfl, mvd_f, mvd_F hj c]; rfl
theorem mv_f0 {g x : SpT} {p m j : Int} (hx : x = (g.1, (mvd g p m j).2.1, (mvd g p m (j + 1)).2.2)) (c : g.2.1 j < p) : x = mvd g p m (j + 1) := by
  subst hx
  rw [mvd_F0 c]; rfl
theorem mw_f1 {g x : SpT} {p j : Int} (hj : 0 ≤ j) (hx : x = mvd g p (-1) j) (c : p ≤ g.2.1 j) : (x.1, upI x.2.1 j (x.2.1 j - 1), upI x.2.2 j (x.2.2 j)) = (g.1, (mvd g p (-1) (j + 1)).2.1, (mvd g p (-1) j).2.2) := by
  subst hx
  rw [upI_x _ rfl, mvd_f, show g.2.1 j - 1 = g.2.1 j + -1 by omega, mvd_F hj c]; rfl
theorem mw_f0 {g x : SpT} {p j : Int} (hx : x = mvd g p (-1) j) (c : g.2.1 j < p) : x = (g.1, (mvd g p (-1) (j + 1)).2.1, (mvd g p (-1) j).2.2) := by
  subst hx
  rw [← mvd_F0 c]; rfl
theorem mw_l1 {g x : SpT} {p j : Int} (hj : 0 ≤ j) (hx : x = (g.1, (mvd g p (-1) (j + 1)).2.1, (mvd g p (-1) j).2.2)) (c : p ≤ g.2.2 j) : (x.1, upI x.2.1 j (x.2.1 j), upI x.2.2 j (x.2.2 j - 1)) = mvd g p (-1) (j + 1) := by
  subst hx
  show (g.1, upI (mvd g p (-1) (j + 1)).2.1 j ((mvd g p (-1) (j + 1)).2.1 j), upI (mvd g p (-1) j).2.2 j ((mvd g p (-1) j).2.2 j - 1)) = _
  rw [upI_x _ rfl, mvd_l, show g.2.2 j - 1 = g.2.2 j + -1 by omega, mvd_L hj c]; rfl
theorem mw_l0 {g x : SpT} {p j : Int} (hx : x = (g.1, (mvd g p (-1) (j + 1)).2.1, (mvd g p (-1) j).2.2)) (c : g.2.2 j < p) : x = mvd g p (-1) (j + 1) := by
  subst hx
  rw [mvd_L0 c]; rfl
/-- rows that don't hold page q, those behind it a page nearer -/
theorem out_rows {g : SpT} {pg q : Int} (hv : VL g pg) (hq : 1 ≤ q ∧ q ≤ pg) (hn : ¬ cov g q) : (∀ k : Int, 0 ≤ k → k < (mvd g (q + 1) (-1) g.1).1 → 1 ≤ (mvd g (q + 1) (-1) g.1).2.1 k ∧ (mvd g (q + 1) (-1) g.1).2.1 k ≤ (mvd g (q + 1) (-1) g.1).2.2 k ∧ (mvd g (q + 1) (-1) g.1).2.2 k ≤ pg - 1) ∧ ∀ r, cov (mvd g (q + 1) (-1) g.1) r ↔ cov g (if r < q then r else r + 1) := by
  have hF : ∀ k : Int, 0 ≤ k → k < g.1 → (mvd g (q + 1) (-1) g.1).2.1 k = if q < g.2.1 k then g.2.1 k - 1 else g.2.1 k := by
    intro k k0 k1
    show (if 0 ≤ k ∧ k < g.1 ∧ q + 1 ≤ g.2.1 k then g.2.1 k + -1 else g.2.1 k) = _
    by_cases c : q < g.2.1 k
    · rw [if_pos c, if_pos (by omega)]; omega
    · rw [if_neg c, if_neg (by omega)]
  have hL : ∀ k : Int, 0 ≤ k → k < g.1 → (mvd g (q + 1) (-1) g.1).2.2 k = if q < g.2.2 k then g.2.2 k - 1 else g.2.2 k := by
    intro k k0 k1
    show (if 0 ≤ k ∧ k < g.1 ∧ q + 1 ≤ g.2.2 k then g.2.2 k + -1 else g.2.2 k) = _
    by_cases c : q < g.2.2 k
    · rw [if_pos c, if_pos (by omega)]; omega
    · rw [if_neg c, if_neg (by omega)]
  have hs : ∀ k : Int, 0 ≤ k → k < g.1 → g.2.2 k < q ∨ q < g.2.1 k := fun k k0 k1 => Classical.byContradiction fun c => hn ⟨k, k0, k1, by omega, by omega⟩
  refine ⟨fun k k0 k1 => ?_, fun r => ⟨fun ⟨k, k0, k1, k2, k3⟩ => ?_, fun ⟨k, k0, k1, k2, k3⟩ => ?_⟩⟩
  · have k1 : k < g.1 := k1
    have w := hv.2.2.1 k k0 k1
    have w2 := hs k k0 k1
    rw [hF k k0 k1, hL k k0 k1]
    by_cases c : q < g.2.1 k
    · rw [if_pos c, if_pos (by omega)]; omega
    · rw [if_neg c, if_neg (by omega)]; omega
  · have k1 : k < g.1 := k1
    have w := hv.2.2.1 k k0 k1
    have w2 := hs k k0 k1
    rw [hF k k0 k1] at k2
    rw [hL k k0 k1] at k3
    refine ⟨k, k0, k1, ?_⟩
    by_cases c : q < g.2.1 k
    · rw [if_pos c] at k2
      rw [if_pos (by omega)] at k3
      by_cases c2 : r < q
      · rw [if_pos c2]; omega
      · rw [if_neg c2]; omega
    · rw [if_neg c] at k2
      rw [if_neg (by omega)] at k3
      rw [if_pos (by omega)]; omega
  · have w := hv.2.2.1 k k0 k1
    have w2 := hs k k0 k1
    refine ⟨k, k0, k1, ?_, ?_⟩
    · rw [hF k k0 k1]
      by_cases c : q < g.2.1 k
      · rw [if_pos c]
        by_cases c2 : r < q
        · rw [if_pos c2] at k2; omega
        · rw [if_neg c2] at k2; omega
      · rw [if_neg c]
        by_cases c2 : r < q
        · rw [if_pos c2] at k2; omega
        · rw [if_neg c2] at k2 k3; omega
    · rw [hL k k0 k1]
      by_cases c : q < g.2.2 k
      · rw [if_pos c]
        by_cases c2 : r < q
        · rw [if_pos c2] at k2 k3; omega
        · rw [if_neg c2] at k3; omega
      · rw [if_neg c]
        by_cases c2 : r < q
        · rw [if_pos c2] at k3; exact k3
        · rw [if_neg c2] at k2 k3; omega
theorem FZ.imp {z : Nat} {W V : Heap → Prop} {H : Heap} (h : FZ z W H) (hi : ∀ H, H.size = z → W H → V H) : FZ z V H := by
  obtain ⟨H0, h0, h1, h2, h3⟩ := h
  exact ⟨H0, h0, hi H0 h0 h1, h2, h3⟩
