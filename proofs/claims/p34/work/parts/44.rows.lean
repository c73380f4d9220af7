/-! law: what its values say -/
theorem or_pI {P Q R : Prop} {v : Int} (hv : v = pI Q) (h : R ↔ P ∨ Q) : iI (pI P) ||| iI v = iI (pI R) := by
  subst hv
  by_cases a : P
  · by_cases b : Q
    · rw [pI_t a, pI_t b, pI_t (h.mpr (Or.inl a))]; rfl
    · rw [pI_t a, pI_f b, pI_t (h.mpr (Or.inl a))]; rfl
  · by_cases b : Q
    · rw [pI_f a, pI_t b, pI_t (h.mpr (Or.inr b))]; rfl
    · rw [pI_f a, pI_f b, pI_f (fun z => (h.mp z).elim a b)]; rfl
def RGB (se : Int → Int) (al : Int → Nat) (n a b : Int) : Prop := ∃ c : Int, 0 ≤ c ∧ c < b ∧ STP se al a c ∧ 0 ≤ FAR se al n c a
section LW3
variable {sp : Int → SpT} {se : Int → Int} {al : Int → Nat} {n pg a b : Int} {S : SA}
theorem rgb_0 : ¬ RGB se al n a 0 := fun ⟨c, c0, c1, _⟩ => by omega
theorem rgb_s (hb : 0 ≤ b) : RGB se al n a (b + 1) ↔ RGB se al n a b ∨ (STP se al a b ∧ 0 ≤ FAR se al n b a) := by
  constructor
  · rintro ⟨u, u0, u1, u2⟩
    by_cases e : u = b
    · subst e; exact Or.inr u2
    · exact Or.inl ⟨u, u0, by omega, u2⟩
  · rintro (⟨u, u0, u1, u2⟩ | u2)
    · exact ⟨u, u0, by omega, u2⟩
    · exact ⟨b, hb, by omega, u2⟩
theorem stp_al2 (hal : AL2 S al n) (ha : 0 ≤ a ∧ a < n) (hb : 0 ≤ b) : ((∃ k : Int, 0 ≤ k ∧ k < sM S a ∧ sV S a k = b) ∨ se a = b) ↔ STP se al a b := by
  unfold STP
  rw [(hal a ha.1 ha.2).2.2.2 b hb]
  exact or_comm
theorem stp_rg (J : JV sp se al n pg) (hal : AL2 S al n) (ha : 0 ≤ a ∧ a < n) : (0 ≤ sM S a ∧ sM S a ≤ 24) ∧ (∀ k : Int, 0 ≤ k → k < sM S a → -2147483648 ≤ sV S a k ∧ sV S a k ≤ 2147483647) ∧ (-2147483648 ≤ se a ∧ se a ≤ 2147483647) := by
  have w := hal a ha.1 ha.2
  have v := J.hp4 a ha.1 ha.2
  have q := J.hgr.1 a ha.1 ha.2
  have hn := J.hn
  refine ⟨?_, fun k k0 k1 => ?_, by omega⟩
  · have w1 := w.1
    omega
  · have z := w.2.2.1 k k0 k1
    omega
theorem rch_r : 0 ≤ RCH se al n a ∧ RCH se al n a ≤ 24 := by
  have w := pop_le (itS se al n 24 (2 ^ a.toNat)) 24
  show (0 : Int) ≤ ((pop (itS se al n 24 (2 ^ a.toNat)) 24 : Nat) : Int) ∧ ((pop (itS se al n 24 (2 ^ a.toNat)) 24 : Nat) : Int) ≤ 24
  omega
theorem tog_r (hp : 0 ≤ pg) : 0 ≤ TOG sp pg a b ∧ TOG sp pg a b ≤ pg := by
  have w := spS_b (fun q => cov (sp a) q ∨ cov (sp b) q) 0 pg.toNat
  show 0 ≤ (spS (fun q => cov (sp a) q ∨ cov (sp b) q) 0 pg.toNat).1 ∧ (spS (fun q => cov (sp a) q ∨ cov (sp b) q) 0 pg.toNat).1 ≤ pg
  omega
theorem lea_f (hg : GR se al n) (hn : 0 ≤ n ∧ n ≤ 24) {c le : Int} (h : LEA se al n a b c le) (hc : c = n) (ha : 0 ≤ a ∧ a < n) (hb : 0 ≤ b ∧ b < n) (hab : a ≠ b) : (le = 99 ∧ FAR se al n a b = -1) ∨ (le ≠ 99 ∧ FAR se al n a b = le) := by
  rw [hc] at h
  have w := lea_e hg hn h ha hb hab
  by_cases e : le = 99
  · rw [if_pos e] at w; exact Or.inl ⟨e, w⟩
  · rw [if_neg e] at w; exact Or.inr ⟨e, w⟩
theorem unl_r : UNL se al n ≤ n ∧ n - 24 ≤ UNL se al n := by
  have w := pop_le (stS se al (2 ^ n.toNat - 1) n.toNat) 24
  show n - ((pop (stS se al (2 ^ n.toNat - 1) n.toNat) 24 : Nat) : Int) ≤ n ∧ n - 24 ≤ n - ((pop (stS se al (2 ^ n.toNat - 1) n.toNat) 24 : Nat) : Int)
  omega
theorem see_pgs (J : JV sp se al n pg) (ha : 0 ≤ a ∧ a < n) : se a < 0 ∨ PGS (sp a) = 0 := by
  have q := J.hgr.1 a ha.1 ha.2
  by_cases c : se a = -1
  · exact Or.inl (by omega)
  · exact Or.inr ((pgs_0 (J.hsp a ha.1 ha.2).1).mpr ((J.hno a ha.1 ha.2).2.2 c))
end LW3
