/-! MORE INSTRUCTIONS -/
section GM
variable {p : Program} {l : Launch} {e : Env} {R : Room} {s : State} {m : MethodId} {args : Array Value} {below : List Frame} {meth : Method} {c : Code} {nL : Nat} {A : Nat → Prop} {cells slots : Nat} {Q : State → Prop}
variable {cc : ByteArray} {Ts : List Cond} {own : String} {pc : Nat} {lv lv' : List (Nat × Value)} {st : List Value} {Wp Wp' : Heap → Prop} {E : EN}
theorem g_ldc (S : CallFix p m c cc nL s args Ts own) {ix : Nat} {n : Int} {v : Int32} (hv : v = iI n) (hc : (Cond.constant own ix v).before args s = true) (hd : decode cc pc = .ok (.ldc ix, 2)) (k : G p l e R s m args below meth c nL A cells slots Q (pc + 2) lv (.int (iI n) :: st) Wp) : G p l e R s m args below meth c nL A cells slots Q pc lv st Wp :=
  fun H locs ls hl hw hS => lv_ldc S.1 S.2.1 S.2.2.2.1 (hv ▸ hc) hd (k H locs ls hl hw hS)
theorem g_irem (S : CallFix p m c cc nL s args Ts own) {x y z : Int32} (hd : decode cc pc = .ok (.irem, 1)) (hne : ¬ y = 0) (hz : x - x / y * y = z) (kk : G p l e R s m args below meth c nL A cells slots Q (pc + 1) lv (.int z :: st) Wp) : G p l e R s m args below meth c nL A cells slots Q pc lv (.int y :: .int x :: st) Wp :=
  fun H locs ls hl hw hS => lv_irem S.1 S.2.1 hd hne (by rw [hz]; exact kk H locs ls hl hw hS)
theorem g_ifnull (S : CallFix p m c cc nL s args Ts own) {x : Nat} {off : Int} (hd : decode cc pc = .ok (.ifnull off, 3)) (kk : G p l e R s m args below meth c nL A cells slots Q (pc + 3) lv st Wp) : G p l e R s m args below meth c nL A cells slots Q pc lv (.ref x :: st) Wp :=
  fun H locs ls hl hw hS => lv_ifnull S.1 S.2.1 hd (kk H locs ls hl hw hS)
theorem g_ifnullN (S : CallFix p m c cc nL s args Ts own) {off : Int} {tgt : Nat} (hd : decode cc pc = .ok (.ifnull off, 3)) (ht : (pc : Int) + off = (tgt : Int)) (kk : G p l e R s m args below meth c nL A cells slots Q tgt lv st Wp) : G p l e R s m args below meth c nL A cells slots Q pc lv (.null :: st) Wp :=
  fun H locs ls hl hw hS => lv_ifnullN S.1 S.2.1 hd ht (kk H locs ls hl hw hS)
theorem g_aloadN (S : CallFix p m c cc nL s args Ts own) {i : Nat} (hd : decode cc pc = .ok (.aload i, 2)) (j : Nat) (h : lv[j]? = some (i, .null)) (kk : G p l e R s m args below meth c nL A cells slots Q (pc + 2) lv (.null :: st) Wp) : G p l e R s m args below meth c nL A cells slots Q pc lv st Wp :=
  fun H locs ls hl hw hS => lv_aloadN S.1 S.2.1 hd (lv_at hl j h) (kk H locs ls hl hw hS)
theorem g_astoreN (S : CallFix p m c cc nL s args Ts own) {i : Nat} (hd : decode cc pc = .ok (.astore i, 2)) (hn : i < nL) (hl' : (i, Value.null) :: lv.filter (fun q => !(q.1 == i) && !(q.1 + 1 == i && q.2.category == 2)) = lv') (kk : G p l e R s m args below meth c nL A cells slots Q (pc + 2) lv' st Wp) : G p l e R s m args below meth c nL A cells slots Q pc lv (.null :: st) Wp :=
  fun H locs ls hl hw hS => lv_astoreN S.1 S.2.1 hd hl hn hl' (fun ls' h' => kk H locs ls' h' hw hS)
theorem lg_cmp_self (x : Int64) : lg_cmp x x = 0 := by
  unfold lg_cmp
  simp
/-- two longs that are the same -/
theorem g_lcmpE (S : CallFix p m c cc nL s args Ts own) {x y : Int64} (hxy : x = y) (hd : decode cc pc = .ok (.lcmp, 1)) (kk : G p l e R s m args below meth c nL A cells slots Q (pc + 1) lv (.int (iI 0) :: st) Wp) : G p l e R s m args below meth c nL A cells slots Q pc lv (.long y :: .long x :: st) Wp := by
  intro H locs ls hl hw hS
  refine W.lcmp S.1 S.2.1 hd ?_
  rw [hxy, lg_cmp_self]
  exact kk H locs ls hl hw hS
end GM
/-! THE LAW'S NUMBERS -/
def bA (v : Int) : Int := (iI v &&& iI 2147483647).toInt
def blw (v n : Int) : Int := bA v % n
def shI (x k : Int) : Int := (iI x >>> (iI k &&& 31)).toInt
theorem bA_r (v : Int) : 0 ≤ bA v ∧ bA v ≤ 2147483647 := by
  refine ⟨?_, (iI_r _).2⟩
  unfold bA
  generalize iI v = x
  show 0 ≤ (x.toBitVec &&& (iI 2147483647).toBitVec).toInt
  have hm : (x.toBitVec &&& (iI 2147483647).toBitVec).msb = false := by
    rw [BitVec.msb_and, show (iI 2147483647).toBitVec.msb = false by decide, Bool.and_false]
  rw [BitVec.toInt_eq_toNat_of_msb hm]
  exact Int.natCast_nonneg _
theorem blw_r {v n : Int} (hn : 0 < n) : 0 ≤ blw v n ∧ blw v n < n := ⟨Int.emod_nonneg _ (by omega), Int.emod_lt_of_pos _ hn⟩
theorem blw_rem {v n : Int} (hn : 1 ≤ n ∧ n ≤ 100000) : iI (bA v) - iI (bA v) / iI n * iI n = iI (blw v n) := by
  have hr := bA_r v
  have hk0 : 0 ≤ bA v / n := Int.ediv_nonneg hr.1 (by omega)
  have hk1 : bA v / n ≤ bA v := Int.ediv_le_self _ hr.1
  have hd : iI (bA v) / iI n = iI (bA v / n) := by
    apply Int32.toInt_inj.mp
    rw [Int32.toInt_div, iI_t (by omega), iI_t (by omega), iI_t (by omega), Int.tdiv_eq_ediv_of_nonneg hr.1]
    exact Int.bmod_eq_of_le (by omega) (by omega)
  rw [hd, iI_mul, iI_sub]
  congr 1
  unfold blw
  rw [Int.emod_def, Int.mul_comm]
theorem iI_ne0 {n : Int} (hn : 1 ≤ n ∧ n ≤ 100000) : ¬ iI n = 0 := by
  rw [← iI_0, iI_eq (by omega)]
  omega
