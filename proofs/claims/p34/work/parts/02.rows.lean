/-! NUMBERS: every int of the walk is iI of a whole number -/
def iI (z : Int) : Int32 := Int32.ofInt z
theorem iI_add (a b : Int) : iI a + iI b = iI (a + b) := (Int32.ofInt_add a b).symm
theorem iI_sub (a b : Int) : iI a - iI b = iI (a - b) := (Int32.ofInt_sub a b).symm
theorem iI_mul (a b : Int) : iI a * iI b = iI (a * b) := (Int32.ofInt_mul a b).symm
theorem iI_t {z : Int} (h : -2147483648 ≤ z ∧ z ≤ 2147483647) : (iI z).toInt = z :=
  Int32.toInt_ofInt_of_le (by have : (2 : Int) ^ 31 = 2147483648 := rfl; omega) (by have : (2 : Int) ^ 31 = 2147483648 := rfl; omega)
theorem iI_of (x : Int32) : iI x.toInt = x := Int32.ofInt_toInt x
theorem iI_r (x : Int32) : -2147483648 ≤ x.toInt ∧ x.toInt ≤ 2147483647 := by
  have h1 := x.toInt_lt
  have h2 := x.le_toInt
  have : (2 : Int) ^ 31 = 2147483648 := rfl
  omega
theorem iI_lt {a b : Int} (h : -2147483648 ≤ a ∧ a ≤ 2147483647 ∧ -2147483648 ≤ b ∧ b ≤ 2147483647) : iI a < iI b ↔ a < b := by
  rw [Int32.lt_iff_toInt_lt, iI_t (by omega), iI_t (by omega)]
theorem iI_le {a b : Int} (h : -2147483648 ≤ a ∧ a ≤ 2147483647 ∧ -2147483648 ≤ b ∧ b ≤ 2147483647) : iI a ≤ iI b ↔ a ≤ b := by
  rw [Int32.le_iff_toInt_le, iI_t (by omega), iI_t (by omega)]
theorem iI_eq {a b : Int} (h : -2147483648 ≤ a ∧ a ≤ 2147483647 ∧ -2147483648 ≤ b ∧ b ≤ 2147483647) : iI a = iI b ↔ a = b := by
  rw [← Int32.toInt_inj, iI_t (by omega), iI_t (by omega)]
theorem iI_nat (n : Nat) : iI (n : Int) = nI n := Int32.ofInt_eq_ofNat
theorem iI_0 : iI 0 = 0 := rfl
theorem iI_cl {z : Int} (h0 : 0 ≤ z) (h1 : z ≤ 2147483647) : (iI z).toNatClampNeg = z.toNat :=
  Int32.toNatClampNeg_ofInt_of_le (by have : (2 : Int) ^ 31 = 2147483648 := rfl; omega) (by have : (2 : Int) ^ 31 = 2147483648 := rfl; omega)
theorem iI_clz {z : Int} (h0 : 0 ≤ z) (h1 : z ≤ 2147483647) : (((iI z).toNatClampNeg : Nat) : Int) = z := by
  rw [iI_cl h0 h1]; omega
theorem iI_in {z : Int} {n : Nat} (h : 0 ≤ z ∧ z < n) (hn : n ≤ 2147483647) : vp_in (iI z) n := by
  unfold vp_in
  rw [iI_cl (by omega) (by omega), ← iI_0, iI_lt (by omega)]
  omega
def bI (b : Bool) : Int := if b then 1 else 0
theorem bI_t {b : Bool} (h : b = true) : bI b = 1 := by rw [h]; rfl
theorem bI_f {b : Bool} (h : b = false) : bI b = 0 := by rw [h]; rfl
theorem bI_r (b : Bool) : 0 ≤ bI b ∧ bI b ≤ 1 := by cases b <;> decide
def upI {α : Type} (f : Int → α) (k : Int) (v : α) : Int → α := fun j => if j = k then v else f j
theorem upI_s {α : Type} (f : Int → α) (k : Int) (v : α) : upI f k v k = v := if_pos rfl
theorem upI_n {α : Type} (f : Int → α) {k j : Int} (v : α) (h : j ≠ k) : upI f k v j = f j := if_neg h
/-! CONTRACTS: the answer ov, the heap behind it by Wp, what may be written by A -/
abbrev vwCl : List vw_C := [(RX0, TX0, 3), (RX1, TX1, 9), (RX2, TX2, 4)]
abbrev EN : Type := va_G × (Nat → ClassId)
abbrev tyL (E : EN) : List (ClassId × FieldType) := [(E.2 0, .int), (E.2 1, .object RX0), (E.2 2, .boolean), (E.2 3, .array .int), (E.2 4, .array (.array .int))]
def KC (E : EN) (U : State) : Prop := va_K E.1 vwCl (tyL E) U
def CI (E : EN) (As : List Value) (Wp : Heap → Prop) : Array Value → State → Prop := va_Pc As (fun U => KC E U ∧ Wp U.heap)
def QW (ov : Option Value) (Wp : Heap → Prop) (A : Nat → Prop) : Array Value → State → Outcome → State → Prop := fun _ s0 oc t => oc = .returned ov ∧ Wp t.heap ∧ va_F A s0 t
theorem va1 {D : va_G} {cl : List vw_C} {q : Nat × va_E} {H : Heap} (h : va_at D cl q H) : va_P D cl [q] H := by
  intro k z hz
  match k, hz with
  | 0, hz => cases hz; exact h
  | k + 1, hz => simp at hz
theorem CI_blind {E : EN} {As : List Value} {Wp : Heap → Prop} : FrameBlind (CI E As Wp) := by
  intro a U g mk h
  obtain ⟨h0, h1, h2⟩ := h
  exact ⟨h0, va_K.moved (u := U) (U := U.calling g mk a) (Vm.Alike.refl U.vm) h1, h2⟩
section GR
variable {p : Program} {l : Launch} {e : Env} {R : Room} {s : State} {m : MethodId} {args : Array Value} {below : List Frame} {meth : Method} {c : Code} {nL : Nat} {A : Nat → Prop} {cells slots : Nat} {Q : State → Prop}
variable {cc : ByteArray} {Ts : List Cond} {own : String} {pc : Nat} {lv lv' : List (Nat × Value)} {st : List Value} {Wp Wp' : Heap → Prop} {E : EN}
def G (p : Program) (l : Launch) (e : Env) (R : Room) (s : State) (m : MethodId) (args : Array Value) (below : List Frame) (meth : Method) (c : Code) (nL : Nat) (A : Nat → Prop) (cells slots : Nat) (Q : State → Prop) (pc : Nat) (lv : List (Nat × Value)) (st : List Value) (Wp : Heap → Prop) : Prop :=
  ∀ (H : Heap) (locs : List Loc) (ls : Array Slot), lv_has ls nL lv → Wp H → va_S A s.heap H locs → W p l e R s m args below meth c H locs cells slots Q (F0 m pc ls st)
theorem g_w (hw : ∀ H, Wp H → Wp' H) (k : G p l e R s m args below meth c nL A cells slots Q pc lv st Wp') : G p l e R s m args below meth c nL A cells slots Q pc lv st Wp :=
  fun H locs ls hl h hS => k H locs ls hl (hw H h) hS
theorem g_lv (is : List Nat) (h : lv_pick lv is = lv') (k : G p l e R s m args below meth c nL A cells slots Q pc lv' st Wp) : G p l e R s m args below meth c nL A cells slots Q pc lv st Wp :=
  fun H locs ls hl hw hS => k H locs ls (lv_sub hl is h) hw hS
theorem g_wid {k n : Nat} (h1 : cells ≤ k) (h2 : slots ≤ n) (kk : G p l e R s m args below meth c nL A k n Q pc lv st Wp) : G p l e R s m args below meth c nL A cells slots Q pc lv st Wp :=
  fun H locs ls hl hw hS => W.widen h1 h2 (kk H locs ls hl hw hS)
/-- a fact of the world, taken out of it -/
theorem g_ex {P : Prop} (hw : ∀ H, Wp H → P) (k : P → G p l e R s m args below meth c nL A cells slots Q pc lv st Wp) : G p l e R s m args below meth c nL A cells slots Q pc lv st Wp :=
  fun H locs ls hl h hS => k (hw H h) H locs ls hl h hS
theorem g_iconst (S : CallFix p m c cc nL s args Ts own) {n : Int} (hd : decode cc pc = .ok (.iconst n, 1)) (k : G p l e R s m args below meth c nL A cells slots Q (pc + 1) lv (.int (iI n) :: st) Wp) : G p l e R s m args below meth c nL A cells slots Q pc lv st Wp :=
  fun H locs ls hl hw hS => lv_iconst S.1 S.2.1 hd rfl (k H locs ls hl hw hS)
theorem g_bipush (S : CallFix p m c cc nL s args Ts own) {n : Int} (hd : decode cc pc = .ok (.bipush n, 2)) (hv : (Int8.ofInt n).toInt32 = iI n) (k : G p l e R s m args below meth c nL A cells slots Q (pc + 2) lv (.int (iI n) :: st) Wp) : G p l e R s m args below meth c nL A cells slots Q pc lv st Wp :=
  fun H locs ls hl hw hS => lv_bipush S.1 S.2.1 hd hv (k H locs ls hl hw hS)
theorem g_sipush (S : CallFix p m c cc nL s args Ts own) {n : Int} (hd : decode cc pc = .ok (.sipush n, 3)) (hv : (Int16.ofInt n).toInt32 = iI n) (k : G p l e R s m args below meth c nL A cells slots Q (pc + 3) lv (.int (iI n) :: st) Wp) : G p l e R s m args below meth c nL A cells slots Q pc lv st Wp :=
  fun H locs ls hl hw hS => lv_sipush S.1 S.2.1 hd hv (k H locs ls hl hw hS)
theorem g_lconst (S : CallFix p m c cc nL s args Ts own) {n : Fin 2} {v : Int64} (hd : decode cc pc = .ok (.lconst n, 1)) (hv : Int64.ofNat (n : Nat) = v) (k : G p l e R s m args below meth c nL A cells slots Q (pc + 1) lv (.long v :: st) Wp) : G p l e R s m args below meth c nL A cells slots Q pc lv st Wp :=
  fun H locs ls hl hw hS => lv_lconst S.1 S.2.1 hd hv (k H locs ls hl hw hS)
theorem g_ldc2 (S : CallFix p m c cc nL s args Ts own) {ix : Nat} {v : Int64} (hc : (Cond.constantLong own ix v).before args s = true) (hd : decode cc pc = .ok (.ldc2_w ix, 3)) (k : G p l e R s m args below meth c nL A cells slots Q (pc + 3) lv (.long v :: st) Wp) : G p l e R s m args below meth c nL A cells slots Q pc lv st Wp :=
  fun H locs ls hl hw hS => lv_ldc2 S.1 S.2.1 S.2.2.2.1 hc hd (k H locs ls hl hw hS)
theorem g_dconst0 (S : CallFix p m c cc nL s args Ts own) (hd : decode cc pc = .ok (.dconst 0, 1)) (k : G p l e R s m args below meth c nL A cells slots Q (pc + 1) lv (.double 0 :: st) Wp) : G p l e R s m args below meth c nL A cells slots Q pc lv st Wp :=
  fun H locs ls hl hw hS => lv_dconst0 S.1 S.2.1 hd (k H locs ls hl hw hS)
theorem g_iload_n (S : CallFix p m c cc nL s args Ts own) {k : Fin 4} {i : Nat} {x : Int32} (hd : decode cc pc = .ok (.iload_n k, 1)) (hi : (k : Nat) = i) (j : Nat) (h : lv[j]? = some (i, .int x)) (kk : G p l e R s m args below meth c nL A cells slots Q (pc + 1) lv (.int x :: st) Wp) : G p l e R s m args below meth c nL A cells slots Q pc lv st Wp :=
  fun H locs ls hl hw hS => lv_iload_n S.1 S.2.1 hd hi (lv_at hl j h) (kk H locs ls hl hw hS)
theorem g_iload (S : CallFix p m c cc nL s args Ts own) {i : Nat} {x : Int32} (hd : decode cc pc = .ok (.iload i, 2)) (j : Nat) (h : lv[j]? = some (i, .int x)) (kk : G p l e R s m args below meth c nL A cells slots Q (pc + 2) lv (.int x :: st) Wp) : G p l e R s m args below meth c nL A cells slots Q pc lv st Wp :=
  fun H locs ls hl hw hS => lv_iload S.1 S.2.1 hd (lv_at hl j h) (kk H locs ls hl hw hS)
theorem g_lload_n (S : CallFix p m c cc nL s args Ts own) {k : Fin 4} {i : Nat} {x : Int64} (hd : decode cc pc = .ok (.lload_n k, 1)) (hi : (k : Nat) = i) (j : Nat) (h : lv[j]? = some (i, .long x)) (kk : G p l e R s m args below meth c nL A cells slots Q (pc + 1) lv (.long x :: st) Wp) : G p l e R s m args below meth c nL A cells slots Q pc lv st Wp :=
  fun H locs ls hl hw hS => lv_lload_n S.1 S.2.1 hd hi (lv_at hl j h) (kk H locs ls hl hw hS)
theorem g_lload (S : CallFix p m c cc nL s args Ts own) {i : Nat} {x : Int64} (hd : decode cc pc = .ok (.lload i, 2)) (j : Nat) (h : lv[j]? = some (i, .long x)) (kk : G p l e R s m args below meth c nL A cells slots Q (pc + 2) lv (.long x :: st) Wp) : G p l e R s m args below meth c nL A cells slots Q pc lv st Wp :=
  fun H locs ls hl hw hS => lv_lload S.1 S.2.1 hd (lv_at hl j h) (kk H locs ls hl hw hS)
theorem g_aload_n (S : CallFix p m c cc nL s args Ts own) {k : Fin 4} {i x : Nat} (hd : decode cc pc = .ok (.aload_n k, 1)) (hi : (k : Nat) = i) (j : Nat) (h : lv[j]? = some (i, .ref x)) (kk : G p l e R s m args below meth c nL A cells slots Q (pc + 1) lv (.ref x :: st) Wp) : G p l e R s m args below meth c nL A cells slots Q pc lv st Wp :=
  fun H locs ls hl hw hS => lv_aload_n S.1 S.2.1 hd hi (lv_at hl j h) (kk H locs ls hl hw hS)
theorem g_aload (S : CallFix p m c cc nL s args Ts own) {i x : Nat} (hd : decode cc pc = .ok (.aload i, 2)) (j : Nat) (h : lv[j]? = some (i, .ref x)) (kk : G p l e R s m args below meth c nL A cells slots Q (pc + 2) lv (.ref x :: st) Wp) : G p l e R s m args below meth c nL A cells slots Q pc lv st Wp :=
  fun H locs ls hl hw hS => lv_aload S.1 S.2.1 hd (lv_at hl j h) (kk H locs ls hl hw hS)
theorem g_aload_nN (S : CallFix p m c cc nL s args Ts own) {k : Fin 4} {i : Nat} (hd : decode cc pc = .ok (.aload_n k, 1)) (hi : (k : Nat) = i) (j : Nat) (h : lv[j]? = some (i, .null)) (kk : G p l e R s m args below meth c nL A cells slots Q (pc + 1) lv (.null :: st) Wp) : G p l e R s m args below meth c nL A cells slots Q pc lv st Wp :=
  fun H locs ls hl hw hS => lv_aload_nN S.1 S.2.1 hd hi (lv_at hl j h) (kk H locs ls hl hw hS)
theorem g_istore_n (S : CallFix p m c cc nL s args Ts own) {k : Fin 4} {i : Nat} {x : Int32} (hd : decode cc pc = .ok (.istore_n k, 1)) (hi : (k : Nat) = i) (hn : i < nL) (hl' : (i, Value.int x) :: lv.filter (fun q => !(q.1 == i) && !(q.1 + 1 == i && q.2.category == 2)) = lv') (kk : G p l e R s m args below meth c nL A cells slots Q (pc + 1) lv' st Wp) : G p l e R s m args below meth c nL A cells slots Q pc lv (.int x :: st) Wp :=
  fun H locs ls hl hw hS => lv_istore_n S.1 S.2.1 hd hi hl hn hl' (fun ls' h' => kk H locs ls' h' hw hS)
theorem g_istore (S : CallFix p m c cc nL s args Ts own) {i : Nat} {x : Int32} (hd : decode cc pc = .ok (.istore i, 2)) (hn : i < nL) (hl' : (i, Value.int x) :: lv.filter (fun q => !(q.1 == i) && !(q.1 + 1 == i && q.2.category == 2)) = lv') (kk : G p l e R s m args below meth c nL A cells slots Q (pc + 2) lv' st Wp) : G p l e R s m args below meth c nL A cells slots Q pc lv (.int x :: st) Wp :=
  fun H locs ls hl hw hS => lv_istore S.1 S.2.1 hd hl hn hl' (fun ls' h' => kk H locs ls' h' hw hS)
theorem g_lstore_n (S : CallFix p m c cc nL s args Ts own) {k : Fin 4} {i : Nat} {x : Int64} (hd : decode cc pc = .ok (.lstore_n k, 1)) (hi : (k : Nat) = i) (hn : i + 1 < nL) (hl' : (i, Value.long x) :: lv.filter (fun q => !(q.1 == i) && (!(q.1 == i + 1) && !(q.1 + 1 == i && q.2.category == 2))) = lv') (kk : G p l e R s m args below meth c nL A cells slots Q (pc + 1) lv' st Wp) : G p l e R s m args below meth c nL A cells slots Q pc lv (.long x :: st) Wp :=
  fun H locs ls hl hw hS => lv_lstore_n S.1 S.2.1 hd hi hl hn hl' (fun ls' h' => kk H locs ls' h' hw hS)
theorem g_lstore (S : CallFix p m c cc nL s args Ts own) {i : Nat} {x : Int64} (hd : decode cc pc = .ok (.lstore i, 2)) (hn : i + 1 < nL) (hl' : (i, Value.long x) :: lv.filter (fun q => !(q.1 == i) && (!(q.1 == i + 1) && !(q.1 + 1 == i && q.2.category == 2))) = lv') (kk : G p l e R s m args below meth c nL A cells slots Q (pc + 2) lv' st Wp) : G p l e R s m args below meth c nL A cells slots Q pc lv (.long x :: st) Wp :=
  fun H locs ls hl hw hS => lv_lstore S.1 S.2.1 hd hl hn hl' (fun ls' h' => kk H locs ls' h' hw hS)
theorem g_astore_n (S : CallFix p m c cc nL s args Ts own) {k : Fin 4} {i x : Nat} (hd : decode cc pc = .ok (.astore_n k, 1)) (hi : (k : Nat) = i) (hn : i < nL) (hl' : (i, Value.ref x) :: lv.filter (fun q => !(q.1 == i) && !(q.1 + 1 == i && q.2.category == 2)) = lv') (kk : G p l e R s m args below meth c nL A cells slots Q (pc + 1) lv' st Wp) : G p l e R s m args below meth c nL A cells slots Q pc lv (.ref x :: st) Wp :=
  fun H locs ls hl hw hS => lv_astore_n S.1 S.2.1 hd hi hl hn hl' (fun ls' h' => kk H locs ls' h' hw hS)
theorem g_astore (S : CallFix p m c cc nL s args Ts own) {i x : Nat} (hd : decode cc pc = .ok (.astore i, 2)) (hn : i < nL) (hl' : (i, Value.ref x) :: lv.filter (fun q => !(q.1 == i) && !(q.1 + 1 == i && q.2.category == 2)) = lv') (kk : G p l e R s m args below meth c nL A cells slots Q (pc + 2) lv' st Wp) : G p l e R s m args below meth c nL A cells slots Q pc lv (.ref x :: st) Wp :=
  fun H locs ls hl hw hS => lv_astore S.1 S.2.1 hd hl hn hl' (fun ls' h' => kk H locs ls' h' hw hS)
theorem g_astore_nN (S : CallFix p m c cc nL s args Ts own) {k : Fin 4} {i : Nat} (hd : decode cc pc = .ok (.astore_n k, 1)) (hi : (k : Nat) = i) (hn : i < nL) (hl' : (i, Value.null) :: lv.filter (fun q => !(q.1 == i) && !(q.1 + 1 == i && q.2.category == 2)) = lv') (kk : G p l e R s m args below meth c nL A cells slots Q (pc + 1) lv' st Wp) : G p l e R s m args below meth c nL A cells slots Q pc lv (.null :: st) Wp :=
  fun H locs ls hl hw hS => lv_astore_nN S.1 S.2.1 hd hi hl hn hl' (fun ls' h' => kk H locs ls' h' hw hS)
theorem g_iinc (S : CallFix p m c cc nL s args Ts own) {i : Nat} {n x : Int} (hd : decode cc pc = .ok (.iinc i n, 3)) (j : Nat) (h : lv[j]? = some (i, .int (iI x))) (hn : i < nL) (hl' : (i, Value.int (iI (x + n))) :: lv.filter (fun q => !(q.1 == i) && !(q.1 + 1 == i && q.2.category == 2)) = lv') (kk : G p l e R s m args below meth c nL A cells slots Q (pc + 3) lv' st Wp) : G p l e R s m args below meth c nL A cells slots Q pc lv st Wp :=
  fun H locs ls hl hw hS => lv_iinc S.1 S.2.1 hd hl h (iI_add x n) hn hl' (fun ls' h' => kk H locs ls' h' hw hS)
theorem g_iadd (S : CallFix p m c cc nL s args Ts own) {a b : Int} (hd : decode cc pc = .ok (.iadd, 1)) (kk : G p l e R s m args below meth c nL A cells slots Q (pc + 1) lv (.int (iI (a + b)) :: st) Wp) : G p l e R s m args below meth c nL A cells slots Q pc lv (.int (iI b) :: .int (iI a) :: st) Wp :=
  fun H locs ls hl hw hS => lv_iadd S.1 S.2.1 hd (by rw [iI_add]; exact kk H locs ls hl hw hS)
theorem g_isub (S : CallFix p m c cc nL s args Ts own) {a b : Int} (hd : decode cc pc = .ok (.isub, 1)) (kk : G p l e R s m args below meth c nL A cells slots Q (pc + 1) lv (.int (iI (a - b)) :: st) Wp) : G p l e R s m args below meth c nL A cells slots Q pc lv (.int (iI b) :: .int (iI a) :: st) Wp :=
  fun H locs ls hl hw hS => lv_isub S.1 S.2.1 hd (by rw [iI_sub]; exact kk H locs ls hl hw hS)
theorem g_imul (S : CallFix p m c cc nL s args Ts own) {a b : Int} (hd : decode cc pc = .ok (.imul, 1)) (kk : G p l e R s m args below meth c nL A cells slots Q (pc + 1) lv (.int (iI (a * b)) :: st) Wp) : G p l e R s m args below meth c nL A cells slots Q pc lv (.int (iI b) :: .int (iI a) :: st) Wp :=
  fun H locs ls hl hw hS => lv_imul S.1 S.2.1 hd (by rw [iI_mul]; exact kk H locs ls hl hw hS)
theorem g_iand (S : CallFix p m c cc nL s args Ts own) {x y z : Int32} (hd : decode cc pc = .ok (.iand, 1)) (hz : x &&& y = z) (kk : G p l e R s m args below meth c nL A cells slots Q (pc + 1) lv (.int z :: st) Wp) : G p l e R s m args below meth c nL A cells slots Q pc lv (.int y :: .int x :: st) Wp :=
  fun H locs ls hl hw hS => lv_iand S.1 S.2.1 hd (by rw [hz]; exact kk H locs ls hl hw hS)
theorem g_ior (S : CallFix p m c cc nL s args Ts own) {x y z : Int32} (hd : decode cc pc = .ok (.ior, 1)) (hz : x ||| y = z) (kk : G p l e R s m args below meth c nL A cells slots Q (pc + 1) lv (.int z :: st) Wp) : G p l e R s m args below meth c nL A cells slots Q pc lv (.int y :: .int x :: st) Wp :=
  fun H locs ls hl hw hS => lv_ior S.1 S.2.1 hd (by rw [hz]; exact kk H locs ls hl hw hS)
theorem g_ixor (S : CallFix p m c cc nL s args Ts own) {x y z : Int32} (hd : decode cc pc = .ok (.ixor, 1)) (hz : x ^^^ y = z) (kk : G p l e R s m args below meth c nL A cells slots Q (pc + 1) lv (.int z :: st) Wp) : G p l e R s m args below meth c nL A cells slots Q pc lv (.int y :: .int x :: st) Wp :=
  fun H locs ls hl hw hS => lv_ixor S.1 S.2.1 hd (by rw [hz]; exact kk H locs ls hl hw hS)
theorem g_ishl (S : CallFix p m c cc nL s args Ts own) {x y z : Int32} (hd : decode cc pc = .ok (.ishl, 1)) (hz : x <<< (y &&& 31) = z) (kk : G p l e R s m args below meth c nL A cells slots Q (pc + 1) lv (.int z :: st) Wp) : G p l e R s m args below meth c nL A cells slots Q pc lv (.int y :: .int x :: st) Wp :=
  fun H locs ls hl hw hS => lv_ishl S.1 S.2.1 hd (by rw [hz]; exact kk H locs ls hl hw hS)
theorem g_ishr (S : CallFix p m c cc nL s args Ts own) {x y z : Int32} (hd : decode cc pc = .ok (.ishr, 1)) (hz : x >>> (y &&& 31) = z) (kk : G p l e R s m args below meth c nL A cells slots Q (pc + 1) lv (.int z :: st) Wp) : G p l e R s m args below meth c nL A cells slots Q pc lv (.int y :: .int x :: st) Wp :=
  fun H locs ls hl hw hS => lv_ishr S.1 S.2.1 hd (by rw [hz]; exact kk H locs ls hl hw hS)
theorem g_i2l (S : CallFix p m c cc nL s args Ts own) {x : Int32} (hd : decode cc pc = .ok (.i2l, 1)) (kk : G p l e R s m args below meth c nL A cells slots Q (pc + 1) lv (.long x.toInt64 :: st) Wp) : G p l e R s m args below meth c nL A cells slots Q pc lv (.int x :: st) Wp :=
  fun H locs ls hl hw hS => lv_i2l S.1 S.2.1 hd rfl (kk H locs ls hl hw hS)
theorem g_ladd (S : CallFix p m c cc nL s args Ts own) {x y : Int64} (hd : decode cc pc = .ok (.ladd, 1)) (kk : G p l e R s m args below meth c nL A cells slots Q (pc + 1) lv (.long (x + y) :: st) Wp) : G p l e R s m args below meth c nL A cells slots Q pc lv (.long y :: .long x :: st) Wp :=
  fun H locs ls hl hw hS => lv_ladd S.1 S.2.1 hd (kk H locs ls hl hw hS)
theorem g_lmul (S : CallFix p m c cc nL s args Ts own) {x y : Int64} (hd : decode cc pc = .ok (.lmul, 1)) (kk : G p l e R s m args below meth c nL A cells slots Q (pc + 1) lv (.long (x * y) :: st) Wp) : G p l e R s m args below meth c nL A cells slots Q pc lv (.long y :: .long x :: st) Wp :=
  fun H locs ls hl hw hS => lv_lmul S.1 S.2.1 hd (kk H locs ls hl hw hS)
theorem g_dup (S : CallFix p m c cc nL s args Ts own) {v : Value} (hd : decode cc pc = .ok (.dup, 1)) (hv : v.category = 1) (kk : G p l e R s m args below meth c nL A cells slots Q (pc + 1) lv (v :: v :: st) Wp) : G p l e R s m args below meth c nL A cells slots Q pc lv (v :: st) Wp :=
  fun H locs ls hl hw hS => lv_dup S.1 S.2.1 hd hv (kk H locs ls hl hw hS)
theorem g_dup2 (S : CallFix p m c cc nL s args Ts own) {v w : Value} (hd : decode cc pc = .ok (.dup2, 1)) (hv : v.category = 1) (hw9 : w.category = 1) (kk : G p l e R s m args below meth c nL A cells slots Q (pc + 1) lv (v :: w :: v :: w :: st) Wp) : G p l e R s m args below meth c nL A cells slots Q pc lv (v :: w :: st) Wp :=
  fun H locs ls hl hw hS => lv_dup2_11 S.1 S.2.1 hd hv hw9 (kk H locs ls hl hw hS)
theorem g_dup_x1 (S : CallFix p m c cc nL s args Ts own) {v w : Value} (hd : decode cc pc = .ok (.dup_x1, 1)) (hv : v.category = 1) (hw9 : w.category = 1) (kk : G p l e R s m args below meth c nL A cells slots Q (pc + 1) lv (v :: w :: v :: st) Wp) : G p l e R s m args below meth c nL A cells slots Q pc lv (v :: w :: st) Wp :=
  fun H locs ls hl hw hS => lv_dup_x1 S.1 S.2.1 hd hv hw9 (kk H locs ls hl hw hS)
theorem g_dup_x2 (S : CallFix p m c cc nL s args Ts own) {v w u : Value} (hd : decode cc pc = .ok (.dup_x2, 1)) (hv : v.category = 1) (hw9 : w.category = 1) (hu9 : u.category = 1) (kk : G p l e R s m args below meth c nL A cells slots Q (pc + 1) lv (v :: w :: u :: v :: st) Wp) : G p l e R s m args below meth c nL A cells slots Q pc lv (v :: w :: u :: st) Wp :=
  fun H locs ls hl hw hS => lv_dup_x2 S.1 S.2.1 hd hv hw9 hu9 (kk H locs ls hl hw hS)
theorem g_pop (S : CallFix p m c cc nL s args Ts own) {v : Value} (hd : decode cc pc = .ok (.pop, 1)) (hv : v.category = 1) (kk : G p l e R s m args below meth c nL A cells slots Q (pc + 1) lv st Wp) : G p l e R s m args below meth c nL A cells slots Q pc lv (v :: st) Wp :=
  fun H locs ls hl hw hS => lv_pop S.1 S.2.1 hd hv (kk H locs ls hl hw hS)
theorem g_goto (S : CallFix p m c cc nL s args Ts own) {off : Int} {tgt : Nat} (hd : decode cc pc = .ok (.goto off, 3)) (ht : (pc : Int) + off = (tgt : Int)) (kk : G p l e R s m args below meth c nL A cells slots Q tgt lv st Wp) : G p l e R s m args below meth c nL A cells slots Q pc lv st Wp :=
  fun H locs ls hl hw hS => lv_goto S.1 S.2.1 hd ht (kk H locs ls hl hw hS)
theorem g_null (S : CallFix p m c cc nL s args Ts own) (hd : decode cc pc = .ok (.aconst_null, 1)) (kk : G p l e R s m args below meth c nL A cells slots Q (pc + 1) lv (.null :: st) Wp) : G p l e R s m args below meth c nL A cells slots Q pc lv st Wp :=
  fun H locs ls hl hw hS => lv_null S.1 S.2.1 hd (kk H locs ls hl hw hS)
theorem g_ifnonnull (S : CallFix p m c cc nL s args Ts own) {x : Nat} {off : Int} {tgt : Nat} (hd : decode cc pc = .ok (.ifnonnull off, 3)) (ht : (pc : Int) + off = (tgt : Int)) (kk : G p l e R s m args below meth c nL A cells slots Q tgt lv st Wp) : G p l e R s m args below meth c nL A cells slots Q pc lv (.ref x :: st) Wp :=
  fun H locs ls hl hw hS => lv_ifnonnull S.1 S.2.1 hd ht (kk H locs ls hl hw hS)
theorem g_ifnonnullN (S : CallFix p m c cc nL s args Ts own) {off : Int} (hd : decode cc pc = .ok (.ifnonnull off, 3)) (kk : G p l e R s m args below meth c nL A cells slots Q (pc + 3) lv st Wp) : G p l e R s m args below meth c nL A cells slots Q pc lv (.null :: st) Wp :=
  fun H locs ls hl hw hS => lv_ifnonnullN S.1 S.2.1 hd (kk H locs ls hl hw hS)
theorem g_icmp_eq (S : CallFix p m c cc nL s args Ts own) {a b off : Int} {tgt : Nat} (hd : decode cc pc = .ok (.if_icmp .eq off, 3)) (ht : (pc : Int) + off = (tgt : Int)) (h : -2147483648 ≤ a ∧ a ≤ 2147483647 ∧ -2147483648 ≤ b ∧ b ≤ 2147483647) (kt : a = b → G p l e R s m args below meth c nL A cells slots Q tgt lv st Wp) (kf : a ≠ b → G p l e R s m args below meth c nL A cells slots Q (pc + 3) lv st Wp) : G p l e R s m args below meth c nL A cells slots Q pc lv (.int (iI b) :: .int (iI a) :: st) Wp :=
  fun H locs ls hl hw hS => lv_icmp_eq S.1 S.2.1 hd ht (fun q => kt ((iI_eq h).mp q) H locs ls hl hw hS) (fun q => kf (fun z => q ((iI_eq h).mpr z)) H locs ls hl hw hS)
theorem g_icmp_ne (S : CallFix p m c cc nL s args Ts own) {a b off : Int} {tgt : Nat} (hd : decode cc pc = .ok (.if_icmp .ne off, 3)) (ht : (pc : Int) + off = (tgt : Int)) (h : -2147483648 ≤ a ∧ a ≤ 2147483647 ∧ -2147483648 ≤ b ∧ b ≤ 2147483647) (kt : a ≠ b → G p l e R s m args below meth c nL A cells slots Q tgt lv st Wp) (kf : a = b → G p l e R s m args below meth c nL A cells slots Q (pc + 3) lv st Wp) : G p l e R s m args below meth c nL A cells slots Q pc lv (.int (iI b) :: .int (iI a) :: st) Wp :=
  fun H locs ls hl hw hS => lv_icmp_ne S.1 S.2.1 hd ht (fun q => kt (fun z => q ((iI_eq h).mpr z)) H locs ls hl hw hS) (fun q => kf ((iI_eq h).mp q) H locs ls hl hw hS)
theorem g_icmp_lt (S : CallFix p m c cc nL s args Ts own) {a b off : Int} {tgt : Nat} (hd : decode cc pc = .ok (.if_icmp .lt off, 3)) (ht : (pc : Int) + off = (tgt : Int)) (h : -2147483648 ≤ a ∧ a ≤ 2147483647 ∧ -2147483648 ≤ b ∧ b ≤ 2147483647) (kt : a < b → G p l e R s m args below meth c nL A cells slots Q tgt lv st Wp) (kf : b ≤ a → G p l e R s m args below meth c nL A cells slots Q (pc + 3) lv st Wp) : G p l e R s m args below meth c nL A cells slots Q pc lv (.int (iI b) :: .int (iI a) :: st) Wp :=
  fun H locs ls hl hw hS => lv_icmp_lt S.1 S.2.1 hd ht (fun q => kt ((iI_lt h).mp q) H locs ls hl hw hS) (fun q => kf (Int.not_lt.mp (fun z => q ((iI_lt h).mpr z))) H locs ls hl hw hS)
theorem g_icmp_ge (S : CallFix p m c cc nL s args Ts own) {a b off : Int} {tgt : Nat} (hd : decode cc pc = .ok (.if_icmp .ge off, 3)) (ht : (pc : Int) + off = (tgt : Int)) (h : -2147483648 ≤ a ∧ a ≤ 2147483647 ∧ -2147483648 ≤ b ∧ b ≤ 2147483647) (kt : b ≤ a → G p l e R s m args below meth c nL A cells slots Q tgt lv st Wp) (kf : a < b → G p l e R s m args below meth c nL A cells slots Q (pc + 3) lv st Wp) : G p l e R s m args below meth c nL A cells slots Q pc lv (.int (iI b) :: .int (iI a) :: st) Wp :=
  fun H locs ls hl hw hS => lv_icmp_ge S.1 S.2.1 hd ht (fun q => kt ((iI_le (a := b) (b := a) ⟨h.2.2.1, h.2.2.2, h.1, h.2.1⟩).mp q) H locs ls hl hw hS) (fun q => kf (Int.not_le.mp (fun z => q ((iI_le (a := b) (b := a) ⟨h.2.2.1, h.2.2.2, h.1, h.2.1⟩).mpr z))) H locs ls hl hw hS)
theorem g_icmp_gt (S : CallFix p m c cc nL s args Ts own) {a b off : Int} {tgt : Nat} (hd : decode cc pc = .ok (.if_icmp .gt off, 3)) (ht : (pc : Int) + off = (tgt : Int)) (h : -2147483648 ≤ a ∧ a ≤ 2147483647 ∧ -2147483648 ≤ b ∧ b ≤ 2147483647) (kt : b < a → G p l e R s m args below meth c nL A cells slots Q tgt lv st Wp) (kf : a ≤ b → G p l e R s m args below meth c nL A cells slots Q (pc + 3) lv st Wp) : G p l e R s m args below meth c nL A cells slots Q pc lv (.int (iI b) :: .int (iI a) :: st) Wp :=
  fun H locs ls hl hw hS => lv_icmp_gt S.1 S.2.1 hd ht (fun q => kt ((iI_lt (a := b) (b := a) ⟨h.2.2.1, h.2.2.2, h.1, h.2.1⟩).mp q) H locs ls hl hw hS) (fun q => kf (Int.not_lt.mp (fun z => q ((iI_lt (a := b) (b := a) ⟨h.2.2.1, h.2.2.2, h.1, h.2.1⟩).mpr z))) H locs ls hl hw hS)
theorem g_icmp_le (S : CallFix p m c cc nL s args Ts own) {a b off : Int} {tgt : Nat} (hd : decode cc pc = .ok (.if_icmp .le off, 3)) (ht : (pc : Int) + off = (tgt : Int)) (h : -2147483648 ≤ a ∧ a ≤ 2147483647 ∧ -2147483648 ≤ b ∧ b ≤ 2147483647) (kt : a ≤ b → G p l e R s m args below meth c nL A cells slots Q tgt lv st Wp) (kf : b < a → G p l e R s m args below meth c nL A cells slots Q (pc + 3) lv st Wp) : G p l e R s m args below meth c nL A cells slots Q pc lv (.int (iI b) :: .int (iI a) :: st) Wp :=
  fun H locs ls hl hw hS => lv_icmp_le S.1 S.2.1 hd ht (fun q => kt ((iI_le h).mp q) H locs ls hl hw hS) (fun q => kf (Int.not_le.mp (fun z => q ((iI_le h).mpr z))) H locs ls hl hw hS)
theorem g_if_eq (S : CallFix p m c cc nL s args Ts own) {a off : Int} {tgt : Nat} (hd : decode cc pc = .ok (.ifCond .eq off, 3)) (ht : (pc : Int) + off = (tgt : Int)) (h9 : -2147483648 ≤ a ∧ a ≤ 2147483647) (kt : a = 0 → G p l e R s m args below meth c nL A cells slots Q tgt lv st Wp) (kf : a ≠ 0 → G p l e R s m args below meth c nL A cells slots Q (pc + 3) lv st Wp) : G p l e R s m args below meth c nL A cells slots Q pc lv (.int (iI a) :: st) Wp := by
  have h : -2147483648 ≤ a ∧ a ≤ 2147483647 ∧ -2147483648 ≤ (0 : Int) ∧ (0 : Int) ≤ 2147483647 := by omega
  exact fun H locs ls hl hw hS => lv_if_eq S.1 S.2.1 hd ht (fun q => kt ((iI_eq h).mp q) H locs ls hl hw hS) (fun q => kf (fun z => q ((iI_eq h).mpr z)) H locs ls hl hw hS)
theorem g_if_ne (S : CallFix p m c cc nL s args Ts own) {a off : Int} {tgt : Nat} (hd : decode cc pc = .ok (.ifCond .ne off, 3)) (ht : (pc : Int) + off = (tgt : Int)) (h9 : -2147483648 ≤ a ∧ a ≤ 2147483647) (kt : a ≠ 0 → G p l e R s m args below meth c nL A cells slots Q tgt lv st Wp) (kf : a = 0 → G p l e R s m args below meth c nL A cells slots Q (pc + 3) lv st Wp) : G p l e R s m args below meth c nL A cells slots Q pc lv (.int (iI a) :: st) Wp := by
  have h : -2147483648 ≤ a ∧ a ≤ 2147483647 ∧ -2147483648 ≤ (0 : Int) ∧ (0 : Int) ≤ 2147483647 := by omega
  exact fun H locs ls hl hw hS => lv_if_ne S.1 S.2.1 hd ht (fun q => kt (fun z => q ((iI_eq h).mpr z)) H locs ls hl hw hS) (fun q => kf ((iI_eq h).mp q) H locs ls hl hw hS)
theorem g_if_lt (S : CallFix p m c cc nL s args Ts own) {a off : Int} {tgt : Nat} (hd : decode cc pc = .ok (.ifCond .lt off, 3)) (ht : (pc : Int) + off = (tgt : Int)) (h9 : -2147483648 ≤ a ∧ a ≤ 2147483647) (kt : a < 0 → G p l e R s m args below meth c nL A cells slots Q tgt lv st Wp) (kf : 0 ≤ a → G p l e R s m args below meth c nL A cells slots Q (pc + 3) lv st Wp) : G p l e R s m args below meth c nL A cells slots Q pc lv (.int (iI a) :: st) Wp := by
  have h : -2147483648 ≤ a ∧ a ≤ 2147483647 ∧ -2147483648 ≤ (0 : Int) ∧ (0 : Int) ≤ 2147483647 := by omega
  exact fun H locs ls hl hw hS => lv_if_lt S.1 S.2.1 hd ht (fun q => kt ((iI_lt h).mp q) H locs ls hl hw hS) (fun q => kf (Int.not_lt.mp (fun z => q ((iI_lt h).mpr z))) H locs ls hl hw hS)
theorem g_if_ge (S : CallFix p m c cc nL s args Ts own) {a off : Int} {tgt : Nat} (hd : decode cc pc = .ok (.ifCond .ge off, 3)) (ht : (pc : Int) + off = (tgt : Int)) (h9 : -2147483648 ≤ a ∧ a ≤ 2147483647) (kt : 0 ≤ a → G p l e R s m args below meth c nL A cells slots Q tgt lv st Wp) (kf : a < 0 → G p l e R s m args below meth c nL A cells slots Q (pc + 3) lv st Wp) : G p l e R s m args below meth c nL A cells slots Q pc lv (.int (iI a) :: st) Wp := by
  have h : -2147483648 ≤ a ∧ a ≤ 2147483647 ∧ -2147483648 ≤ (0 : Int) ∧ (0 : Int) ≤ 2147483647 := by omega
  exact fun H locs ls hl hw hS => lv_if_ge S.1 S.2.1 hd ht (fun q => kt ((iI_le (a := 0) (b := a) ⟨h.2.2.1, h.2.2.2, h.1, h.2.1⟩).mp q) H locs ls hl hw hS) (fun q => kf (Int.not_le.mp (fun z => q ((iI_le (a := 0) (b := a) ⟨h.2.2.1, h.2.2.2, h.1, h.2.1⟩).mpr z))) H locs ls hl hw hS)
theorem g_if_gt (S : CallFix p m c cc nL s args Ts own) {a off : Int} {tgt : Nat} (hd : decode cc pc = .ok (.ifCond .gt off, 3)) (ht : (pc : Int) + off = (tgt : Int)) (h9 : -2147483648 ≤ a ∧ a ≤ 2147483647) (kt : 0 < a → G p l e R s m args below meth c nL A cells slots Q tgt lv st Wp) (kf : a ≤ 0 → G p l e R s m args below meth c nL A cells slots Q (pc + 3) lv st Wp) : G p l e R s m args below meth c nL A cells slots Q pc lv (.int (iI a) :: st) Wp := by
  have h : -2147483648 ≤ a ∧ a ≤ 2147483647 ∧ -2147483648 ≤ (0 : Int) ∧ (0 : Int) ≤ 2147483647 := by omega
  exact fun H locs ls hl hw hS => lv_if_gt S.1 S.2.1 hd ht (fun q => kt ((iI_lt (a := 0) (b := a) ⟨h.2.2.1, h.2.2.2, h.1, h.2.1⟩).mp q) H locs ls hl hw hS) (fun q => kf (Int.not_lt.mp (fun z => q ((iI_lt (a := 0) (b := a) ⟨h.2.2.1, h.2.2.2, h.1, h.2.1⟩).mpr z))) H locs ls hl hw hS)
theorem g_if_le (S : CallFix p m c cc nL s args Ts own) {a off : Int} {tgt : Nat} (hd : decode cc pc = .ok (.ifCond .le off, 3)) (ht : (pc : Int) + off = (tgt : Int)) (h9 : -2147483648 ≤ a ∧ a ≤ 2147483647) (kt : a ≤ 0 → G p l e R s m args below meth c nL A cells slots Q tgt lv st Wp) (kf : 0 < a → G p l e R s m args below meth c nL A cells slots Q (pc + 3) lv st Wp) : G p l e R s m args below meth c nL A cells slots Q pc lv (.int (iI a) :: st) Wp := by
  have h : -2147483648 ≤ a ∧ a ≤ 2147483647 ∧ -2147483648 ≤ (0 : Int) ∧ (0 : Int) ≤ 2147483647 := by omega
  exact fun H locs ls hl hw hS => lv_if_le S.1 S.2.1 hd ht (fun q => kt ((iI_le h).mp q) H locs ls hl hw hS) (fun q => kf (Int.not_le.mp (fun z => q ((iI_le h).mpr z))) H locs ls hl hw hS)
theorem g_mmax (S : CallFix p m c cc nL s args Ts own) {index : Nat} {a b : Int} (hlink : (Cond.methodLink own index Lib.Math.max.name).before args s = true) (hstat : (Cond.static Lib.Math.max.name).before args s = true) (hini : (Cond.initialized "java/lang/Math").before args s = true) (hcode : (Cond.code Lib.Math.max.name Lib.Math.max.code 2 (some .int)).before args s = true) (hframes : 1 ≤ R.frames) (hlocals : (st.map fun v => v.category).sum + 13 ≤ R.locals) (hc : cells ≤ R.cells ∧ slots ≤ R.slots) (hd : decode cc pc = .ok (.invokestatic index, 3)) (h : -2147483648 ≤ a ∧ a ≤ 2147483647 ∧ -2147483648 ≤ b ∧ b ≤ 2147483647) (kk : G p l e R s m args below meth c nL A cells slots Q (pc + 3) lv (.int (iI (max a b)) :: st) Wp) : G p l e R s m args below meth c nL A cells slots Q pc lv (.int (iI b) :: .int (iI a) :: st) Wp := by
  intro H locs ls hl hw hS
  have hmx : (if iI a < iI b then iI b else iI a) = iI (max a b) := by
    by_cases q : a < b
    · rw [if_pos ((iI_lt h).mpr q), Int.max_def, if_pos (by omega)]
    · rw [if_neg (fun z => q ((iI_lt h).mp z)), Int.max_def]
      by_cases q2 : a ≤ b
      · rw [if_pos q2, show a = b by omega]
      · rw [if_neg q2]
  refine va_mmax S.1 S.2.1 (S.2.2.1.trans hl.1.symm) S.2.2.2.1 hlink hstat hini hcode hframes hlocals hc.1 hc.2 hd ?_
  rw [hmx]
  exact kk H locs ls hl hw hS
theorem g_mmin (S : CallFix p m c cc nL s args Ts own) {index : Nat} {a b : Int} (hlink : (Cond.methodLink own index Lib.Math.min.name).before args s = true) (hstat : (Cond.static Lib.Math.min.name).before args s = true) (hini : (Cond.initialized "java/lang/Math").before args s = true) (hcode : (Cond.code Lib.Math.min.name Lib.Math.min.code 2 (some .int)).before args s = true) (hframes : 1 ≤ R.frames) (hlocals : (st.map fun v => v.category).sum + 13 ≤ R.locals) (hc : cells ≤ R.cells ∧ slots ≤ R.slots) (hd : decode cc pc = .ok (.invokestatic index, 3)) (h : -2147483648 ≤ a ∧ a ≤ 2147483647 ∧ -2147483648 ≤ b ∧ b ≤ 2147483647) (kk : G p l e R s m args below meth c nL A cells slots Q (pc + 3) lv (.int (iI (min a b)) :: st) Wp) : G p l e R s m args below meth c nL A cells slots Q pc lv (.int (iI b) :: .int (iI a) :: st) Wp := by
  intro H locs ls hl hw hS
  have hmx : (if iI b < iI a then iI b else iI a) = iI (min a b) := by
    by_cases q : b < a
    · rw [if_pos ((iI_lt (a := b) (b := a) ⟨h.2.2.1, h.2.2.2, h.1, h.2.1⟩).mpr q), Int.min_def, if_neg (by omega)]
    · rw [if_neg (fun z => q ((iI_lt (a := b) (b := a) ⟨h.2.2.1, h.2.2.2, h.1, h.2.1⟩).mp z)), Int.min_def, if_pos (by omega)]
  refine va_mmin S.1 S.2.1 (S.2.2.1.trans hl.1.symm) S.2.2.2.1 hlink hstat hini hcode hframes hlocals hc.1 hc.2 hd ?_
  rw [hmx]
  exact kk H locs ls hl hw hS
theorem g_get (S : CallFix p m c cc nL s args Ts own) (hK : KC E s) {ref C : String} {T : u_T} {N ci index a : Nat} {fs : List Value} {v : Value} (hin : ∀ w ∈ u_ws C T N, w ∈ Ts) (k : Nat) (hk : k < N) (hc : vwCl[ci]? = some (C, T, N)) (hlink : (Cond.fieldLink own index ref (T k).2.1 (T k).2.2.1).before args s = true) (hsame : ∀ x, s.fieldFound? (T k).1 (T k).2.1 (T k).2.2.1 = some x → s.fieldFound? ref (T k).2.1 (T k).2.2.1 = some x) (hw : ∀ H, Wp H → va_at E.1 vwCl (a, .inr (ci, fs)) H) (hv : fs[k]? = some v) (hd : decode cc pc = .ok (.getfield index, 3)) (kk : G p l e R s m args below meth c nL A cells slots Q (pc + 3) lv (v :: st) Wp) : G p l e R s m args below meth c nL A cells slots Q pc lv (.ref a :: st) Wp :=
  fun H locs ls hl h hS => va_get S.1 S.2.1 S.2.2.2.2 hin S.2.2.2.1 hK (va1 (hw H h)) 0 rfl hc k hk hlink hsame hv hd (kk H locs ls hl h hS)
theorem g_put (S : CallFix p m c cc nL s args Ts own) (hK : KC E s) {ref C : String} {T : u_T} {N ci index a : Nat} {fs : List Value} {v : Value} {ty : FieldType} (hin : ∀ w ∈ u_ws C T N, w ∈ Ts) (ty0 : Nat → FieldType) (hty : ∀ k, k < N → parseFieldDescriptor (T k).2.2.1 = some (ty0 k)) (hnm : ∀ a, a < N → ∀ b, b < N → a ≠ b → (T a).2.1 ≠ (T b).2.1) (k : Nat) (hk : k < N) (hc : vwCl[ci]? = some (C, T, N)) (hlink : (Cond.fieldLink own index ref (T k).2.1 (T k).2.2.1).before args s = true) (hsame : ∀ x, s.fieldFound? (T k).1 (T k).2.1 (T k).2.2.1 = some x → s.fieldFound? ref (T k).2.1 (T k).2.2.1 = some x) (hfin : (T k).2.2.2 = false) (hdp : parseFieldDescriptor (T k).2.2.1 = some ty) (hn : narrow ty v = v) (hfit : fits ty v = true) (hw : ∀ H, Wp H → va_at E.1 vwCl (a, .inr (ci, fs)) H) (hl9 : k < fs.length) (hA : A a) (hW : ∀ H H', Wp H → va_at E.1 vwCl (a, .inr (ci, fs.set k v)) H' → H'.size = H.size → (∀ q : Nat, q ≠ a → H'[q]? = H[q]?) → Wp' H') (hd : decode cc pc = .ok (.putfield index, 3)) (kk : G p l e R s m args below meth c nL A cells slots Q (pc + 3) lv st Wp') : G p l e R s m args below meth c nL A cells slots Q pc lv (v :: .ref a :: st) Wp := by
  intro H locs ls hl h hS
  obtain ⟨r, h1, cell, q1, q2, q3, q4⟩ := hw H h
  have hr : r = (C, T, N) := Option.some.inj (h1.symm.trans hc)
  subst hr
  obtain ⟨hSl, hfc, kC, hkC, hkind⟩ := hK.1 ci _ hc
  obtain ⟨cf, kf, fi, f, hi, hsl⟩ := hSl k hk
  have hap := va_apart (own := own) S.2.2.2.2 hin ty0 hty hnm hK hc
  have hlay := S.2.2.2.2 _ (hin _ (u_in_lay hk))
  unfold u_lay at hlay
  rw [if_neg (by rw [hfin]; decide)] at hlay
  have hst := (u_facts hfc hkC (u_lays S.2.2.2.2 hin hk) hi).1
  have h6 := u_store hfc hkC hkind hlay hi hdp hn hfit
  refine W.putK S.1 S.2.1 (f := f) ⟨S.2.2.2.1, hlink, ⟨_, _, _, hsame _ hi⟩, hst⟩ (by rw [q2]; exact h6) q1 q3 (by rw [hsl]; exact k2_hasslot (q4 k hk)) rfl rfl hd fun H' e1 e2 e3 => ?_
  rw [hsl] at e1 ⊢
  exact kk H' _ ls hl (hW H H' h ⟨_, hc, t_OB.to (V := updV (vp_V fs) k v) ⟨_, e1, q2, q3, t_set q4 hap hk v⟩ (fun j _ => vp_updV_set hl9 v j)⟩ e2 e3) (hS.put e2 e3 hA)
theorem g_putF (S : CallFix p m c cc nL s args Ts own) (hK : KC E s) {ref C : String} {T : u_T} {N ci index a : Nat} {fs : List Value} {v : Value} {ty : FieldType} (hin : ∀ w ∈ u_ws C T N, w ∈ Ts) (ty0 : Nat → FieldType) (hty : ∀ k, k < N → parseFieldDescriptor (T k).2.2.1 = some (ty0 k)) (hnm : ∀ a, a < N → ∀ b, b < N → a ≠ b → (T a).2.1 ≠ (T b).2.1) (k : Nat) (hk : k < N) (hc : vwCl[ci]? = some (C, T, N)) (hlink : (Cond.fieldLink own index ref (T k).2.1 (T k).2.2.1).before args s = true) (hsame : ∀ x, s.fieldFound? (T k).1 (T k).2.1 (T k).2.2.1 = some x → s.fieldFound? ref (T k).2.1 (T k).2.2.1 = some x) (hfin : (T k).2.2.2 = true) (hin2 : meth.name = "<init>") (hdecl : (T k).1 = own) (hdp : parseFieldDescriptor (T k).2.2.1 = some ty) (hn : narrow ty v = v) (hfit : fits ty v = true) (hw : ∀ H, Wp H → va_at E.1 vwCl (a, .inr (ci, fs)) H) (hl9 : k < fs.length) (hA : A a) (hW : ∀ H H', Wp H → va_at E.1 vwCl (a, .inr (ci, fs.set k v)) H' → H'.size = H.size → (∀ q : Nat, q ≠ a → H'[q]? = H[q]?) → Wp' H') (hd : decode cc pc = .ok (.putfield index, 3)) (kk : G p l e R s m args below meth c nL A cells slots Q (pc + 3) lv st Wp') : G p l e R s m args below meth c nL A cells slots Q pc lv (v :: .ref a :: st) Wp := by
  intro H locs ls hl h hS
  obtain ⟨r, h1, cell, q1, q2, q3, q4⟩ := hw H h
  have hr : r = (C, T, N) := Option.some.inj (h1.symm.trans hc)
  subst hr
  obtain ⟨hSl, hfc, kC, hkC, hkind⟩ := hK.1 ci _ hc
  obtain ⟨cf, kf, fi, f, hi, hsl⟩ := hSl k hk
  have hap := va_apart (own := own) S.2.2.2.2 hin ty0 hty hnm hK hc
  have hlay := S.2.2.2.2 _ (hin _ (u_in_lay hk))
  unfold u_lay at hlay
  rw [if_pos hfin] at hlay
  have hst := (u_facts hfc hkC (u_lays S.2.2.2.2 hin hk) hi).1
  have hcf : m.cls = cf := by
    obtain ⟨_, _, c', _, _, _, -, -, hf', -, -, -, hown2, -⟩ := Cond.laysFinal_spec hlay
    have e1 : c' = cf := by have := hi.symm.trans hf'; simp at this; exact this.1.symm
    rw [hdecl] at hown2
    rw [← e1]; exact Option.some.inj (S.2.2.2.1.symm.trans hown2)
  have h6 := u_fits hfc hkC hkind (Or.inr hlay) hi hdp hn hfit
  refine W.putFinK S.1 S.2.1 S.2.2.2.1 hlink (hsame _ hi) hst hcf hin2 (by rw [q2]; exact h6) q1 q3 (by rw [hsl]; exact k2_hasslot (q4 k hk)) rfl rfl hd fun H' e1 e2 e3 => ?_
  rw [hsl] at e1 ⊢
  exact kk H' _ ls hl (hW H H' h ⟨_, hc, t_OB.to (V := updV (vp_V fs) k v) ⟨_, e1, q2, q3, t_set q4 hap hk v⟩ (fun j _ => vp_updV_set hl9 v j)⟩ e2 e3) (hS.put e2 e3 hA)
abbrev aI (cA : ClassId) (n : Nat) (F : Int → Int) : va_E := .inl (cA, n, .inl (fun k : Nat => iI (F k)))
abbrev aR (cA : ClassId) (n : Nat) (f : Int → Nat) : va_E := .inl (cA, n, .inr (.inr (.inr (.inr (fun k : Nat => some (f k))))))
abbrev aL (cA : ClassId) (n : Nat) (f : Int → Int64) : va_E := .inl (cA, n, .inr (.inl (fun k : Nat => f k)))
theorem aI_set {cA : ClassId} {n : Nat} {F : Int → Int} {z x : Int} (h0 : 0 ≤ z) (h1 : z ≤ 2147483647) : (vp_cell cA (n, .inl (fun k : Nat => iI (F k)))).setSlot (iI z).toNatClampNeg (.int (iI x)) = vp_cell cA (n, .inl (fun k : Nat => iI (upI F z x k))) := by
  rw [vp_cell_i, vp_cell_i, arrV_store]
  congr 1
  funext q
  rw [iI_cl h0 h1]
  by_cases hq : q = z.toNat
  · subst hq
    simp only [updV, if_true, upI]
    rw [if_pos (by omega)]
  · simp only [updV, if_neg hq, upI]
    rw [if_neg (by omega)]
theorem aL_set {cA : ClassId} {n : Nat} {F : Int → Int64} {z : Int} {x : Int64} (h0 : 0 ≤ z) (h1 : z ≤ 2147483647) : (vp_cell cA (n, .inr (.inl (fun k : Nat => F k)))).setSlot (iI z).toNatClampNeg (.long x) = vp_cell cA (n, .inr (.inl (fun k : Nat => upI F z x k))) := by
  rw [vp_cell_l, vp_cell_l, arrV_store]
  congr 1
  funext q
  rw [iI_cl h0 h1]
  by_cases hq : q = z.toNat
  · subst hq
    simp only [updV, if_true, upI]
    rw [if_pos (by omega)]
  · simp only [updV, if_neg hq, upI]
    rw [if_neg (by omega)]
theorem g_iald (S : CallFix p m c cc nL s args Ts own) (hK : KC E s) {a n : Nat} {F : Int → Int} {z : Int} (hw : ∀ H, Wp H → va_at E.1 vwCl (a, aI (E.2 0) n F) H) (hz : 0 ≤ z ∧ z < n) (hn : n ≤ 2147483647) (hd : decode cc pc = .ok (.iaload, 1)) (kk : G p l e R s m args below meth c nL A cells slots Q (pc + 1) lv (.int (iI (F z)) :: st) Wp) : G p l e R s m args below meth c nL A cells slots Q pc lv (.int (iI z) :: .ref a :: st) Wp := by
  intro H locs ls hl h hS
  refine va_iald (f := fun k : Nat => iI (F k)) S.1 S.2.1 hK (va1 (hw H h)) 0 0 rfl rfl (iI_in hz hn) hd ?_
  rw [iI_clz hz.1 (by omega)]
  exact kk H locs ls hl h hS
theorem g_zald (S : CallFix p m c cc nL s args Ts own) (hK : KC E s) {a n : Nat} {F : Int → Int} {z : Int} (hw : ∀ H, Wp H → va_at E.1 vwCl (a, aI (E.2 2) n F) H) (hz : 0 ≤ z ∧ z < n) (hn : n ≤ 2147483647) (hd : decode cc pc = .ok (.baload, 1)) (kk : G p l e R s m args below meth c nL A cells slots Q (pc + 1) lv (.int (iI (F z)) :: st) Wp) : G p l e R s m args below meth c nL A cells slots Q pc lv (.int (iI z) :: .ref a :: st) Wp := by
  intro H locs ls hl h hS
  refine va_zald (f := fun k : Nat => iI (F k)) S.1 S.2.1 hK (va1 (hw H h)) 0 2 rfl rfl (iI_in hz hn) hd ?_
  rw [iI_clz hz.1 (by omega)]
  exact kk H locs ls hl h hS
theorem g_aald (S : CallFix p m c cc nL s args Ts own) (hK : KC E s) {a n : Nat} {f : Int → Nat} {z : Int} (hw : ∀ H, Wp H → va_at E.1 vwCl (a, aR (E.2 1) n f) H) (hz : 0 ≤ z ∧ z < n) (hn : n ≤ 2147483647) (hd : decode cc pc = .ok (.aaload, 1)) (kk : G p l e R s m args below meth c nL A cells slots Q (pc + 1) lv (.ref (f z) :: st) Wp) : G p l e R s m args below meth c nL A cells slots Q pc lv (.int (iI z) :: .ref a :: st) Wp := by
  intro H locs ls hl h hS
  refine va_aldq (C := RX0) (f := fun k : Nat => some (f k)) S.1 S.2.1 hK (va1 (hw H h)) 0 1 rfl rfl (iI_in hz hn) hd ?_
  have e : va_rf ((fun k : Nat => some (f k)) (iI z).toNatClampNeg) = .ref (f z) := by
    show Value.ref (f _) = _
    rw [iI_clz hz.1 (by omega)]
  rw [e]
  exact kk H locs ls hl h hS
theorem g_alen (S : CallFix p m c cc nL s args Ts own) (hK : KC E s) {a n : Nat} {cA : ClassId} {ty : FieldType} {x : Nat} (t0 : Nat) {r : (Nat → Int32) ⊕ (Nat → Int64) ⊕ (Nat → UInt32) ⊕ (Nat → UInt64) ⊕ (Nat → Option Nat)} (ht : (tyL E)[t0]? = some (cA, ty)) (hw : ∀ H, Wp H → va_at E.1 vwCl (a, .inl (cA, n, r)) H) (hd : decode cc pc = .ok (.arraylength, 1)) (kk : G p l e R s m args below meth c nL A cells slots Q (pc + 1) lv (.int (iI n) :: st) Wp) : G p l e R s m args below meth c nL A cells slots Q pc lv (.ref a :: st) Wp := by
  intro H locs ls hl h hS
  exact va_alen S.1 S.2.1 hK (va1 (hw H h)) 0 t0 rfl ht (v := iI n) (iI_nat n).symm hd (kk H locs ls hl h hS)
theorem g_iast (S : CallFix p m c cc nL s args Ts own) (hK : KC E s) {a n : Nat} {F : Int → Int} {z x : Int} (hw : ∀ H, Wp H → va_at E.1 vwCl (a, aI (E.2 0) n F) H) (hz : 0 ≤ z ∧ z < n) (hn : n ≤ 2147483647) (hA : A a) (hW : ∀ H H', Wp H → va_at E.1 vwCl (a, aI (E.2 0) n (upI F z x)) H' → H'.size = H.size → (∀ q : Nat, q ≠ a → H'[q]? = H[q]?) → Wp' H') (hd : decode cc pc = .ok (.iastore, 1)) (kk : G p l e R s m args below meth c nL A cells slots Q (pc + 1) lv st Wp') : G p l e R s m args below meth c nL A cells slots Q pc lv (.int (iI x) :: .int (iI z) :: .ref a :: st) Wp := by
  intro H locs ls hl h hS
  refine W.iast S.1 S.2.1 (hw H h) ((hK.2 0 _ rfl).1 n (fun j => .int (iI (F j)))) (fun q => by cases q) (by show ¬ (_ ∨ (arrV _ _ _).slots.size ≤ _); rw [arrV_size]; exact iI_in hz hn) rfl rfl hd fun H1 e z1 oq => ?_
  refine kk H1 _ ls hl (hW H H1 h ?_ z1 oq) (hS.put z1 oq hA)
  show H1[a]? = some (vp_cell _ _)
  rw [e]
  exact congrArg some (aI_set hz.1 (by omega))
theorem g_zast (S : CallFix p m c cc nL s args Ts own) (hK : KC E s) {a n : Nat} {F : Int → Int} {z x : Int} (hx01 : x = 0 ∨ x = 1) (hw : ∀ H, Wp H → va_at E.1 vwCl (a, aI (E.2 2) n F) H) (hz : 0 ≤ z ∧ z < n) (hn : n ≤ 2147483647) (hA : A a) (hW : ∀ H H', Wp H → va_at E.1 vwCl (a, aI (E.2 2) n (upI F z x)) H' → H'.size = H.size → (∀ q : Nat, q ≠ a → H'[q]? = H[q]?) → Wp' H') (hd : decode cc pc = .ok (.bastore, 1)) (kk : G p l e R s m args below meth c nL A cells slots Q (pc + 1) lv st Wp') : G p l e R s m args below meth c nL A cells slots Q pc lv (.int (iI x) :: .int (iI z) :: .ref a :: st) Wp := by
  intro H locs ls hl h hS
  refine W.zast S.1 S.2.1 (hw H h) ((hK.2 2 _ rfl).1 n (fun j => .int (iI (F j)))) (fun q => by cases q) (by show ¬ (_ ∨ (arrV _ _ _).slots.size ≤ _); rw [arrV_size]; exact iI_in hz hn) rfl rfl hd fun H1 e z1 oq => ?_
  refine kk H1 _ ls hl (hW H H1 h ?_ z1 oq) (hS.put z1 oq hA)
  show H1[a]? = some (vp_cell _ _)
  have en : narrow .boolean (.int (iI x)) = .int (iI x) := by rcases hx01 with rfl | rfl <;> decide
  rw [e, en]
  exact congrArg some (aI_set hz.1 (by omega))
/-! ENDS -/
theorem g_iret {x : Int32} (S : CallFix p m c cc nL s args Ts own) (hr : meth.sig.returnType = some .int) (hlocks : meth.locks = false) (hd : decode cc pc = .ok (.ireturn, 1)) (hW : ∀ H, Wp H → Wp' H) : G p l e R s m args below meth c nL A cells slots (MQ below (QW (some (.int x)) Wp' A) args s cells slots A) pc lv [.int x] Wp :=
  fun H locs ls hl h hS => W.iret S.1 S.2.1 hr (fun t ht _ => ⟨rfl, ht ▸ hW H h, hS.F ht⟩) hS.2.2 hd hlocks
theorem g_zret {x : Int} (S : CallFix p m c cc nL s args Ts own) (hr : meth.sig.returnType = some .boolean) (hlocks : meth.locks = false) (hx01 : x = 0 ∨ x = 1) (hd : decode cc pc = .ok (.ireturn, 1)) (hW : ∀ H, Wp H → Wp' H) : G p l e R s m args below meth c nL A cells slots (MQ below (QW (some (.int (iI x))) Wp' A) args s cells slots A) pc lv [.int (iI x)] Wp :=
  fun H locs ls hl h hS => W.zret S.1 S.2.1 hr (by rcases hx01 with rfl | rfl <;> decide) (fun t ht _ => ⟨rfl, ht ▸ hW H h, hS.F ht⟩) hS.2.2 hd hlocks
theorem g_lret {x : Int64} (S : CallFix p m c cc nL s args Ts own) (hr : meth.sig.returnType = some .long) (hlocks : meth.locks = false) (hd : decode cc pc = .ok (.lreturn, 1)) (hW : ∀ H, Wp H → Wp' H) : G p l e R s m args below meth c nL A cells slots (MQ below (QW (some (.long x)) Wp' A) args s cells slots A) pc lv [.long x] Wp :=
  fun H locs ls hl h hS => W.lret S.1 S.2.1 hr (fun t ht _ => ⟨rfl, ht ▸ hW H h, hS.F ht⟩) hS.2.2 hd hlocks
theorem g_aret {x : Nat} {C : String} (S : CallFix p m c cc nL s args Ts own) (hr : meth.sig.returnType = some (.object C)) (hlocks : meth.locks = false) (hd : decode cc pc = .ok (.areturn, 1)) (hW : ∀ H, Wp H → Wp' H) : G p l e R s m args below meth c nL A cells slots (MQ below (QW (some (.ref x)) Wp' A) args s cells slots A) pc lv [.ref x] Wp :=
  fun H locs ls hl h hS => W.aret S.1 S.2.1 hr (Or.inl ⟨_, rfl⟩) (Or.inr ⟨_, rfl⟩) (fun t ht _ => ⟨rfl, ht ▸ hW H h, hS.F ht⟩) hS.2.2 hd hlocks
theorem g_vret (S : CallFix p m c cc nL s args Ts own) (hr : meth.sig.returnType = none) (hlocks : meth.locks = false) (hd : decode cc pc = .ok (.return_, 1)) (hW : ∀ H, Wp H → Wp' H) : G p l e R s m args below meth c nL A cells slots (MQ below (QW none Wp' A) args s cells slots A) pc lv [] Wp :=
  fun H locs ls hl h hS => W.vret S.1 S.2.1 hr (fun t ht _ => ⟨rfl, ht ▸ hW H h, hS.F ht⟩) hS.2.2 hd hlocks
/-! CALLS -/
variable {y : MethodName} {bytes : ByteArray} {maxL n index mc ms : Nat} {ret : Option FieldType} {ws : List Cond} {rm : Room} {As stk stk' : List Value} {b ci : Nat} {fs : List Value} {r : vw_C} {ov : Option Value} {W1 W2 : Heap → Prop} {A1 : Nat → Prop}
theorem g_after {Qa : Array Value} {stk stk' : List Value} (hr : ∀ (H : Heap) (locs : List Loc) (ls : Array Slot), lv_has ls nL lv → Wp H → va_Run p l e R s m args below meth c H locs cells slots mc ms (F0 m pc ls stk) st (QW ov W2 A1 Qa) A1) (hA : ∀ q, A1 q → A q) (hW2 : ∀ H H', Wp H → W2 H' → H.size ≤ H'.size → (∀ q : Nat, q < H.size → ¬ A1 q → H'[q]? = H[q]?) → Wp' H') (hst2 : ov.toList ++ st = stk') (kk : G p l e R s m args below meth c nL A (cells + mc) (slots + ms) Q (pc + 3) lv stk' Wp') : G p l e R s m args below meth c nL A cells slots Q pc lv stk Wp := by
  intro H locs ls hl h hS T hT X
  obtain ⟨v, st₀, t, T', L, h0, X', hL, e1, e2, ⟨hv, hw2, hF⟩, stp⟩ := hr H locs ls hl h T hT X
  cases hv
  obtain ⟨k1, k2, k3⟩ := vx_keep h0 e1 hS (fun q _ hq => hA q hq) hA hL hF
  obtain ⟨t2, a1, b1⟩ := kk T'.heap (locs ++ L) ls hl (hW2 H T'.heap h (e1 ▸ hw2) k1 k2) k3 T' rfl X'
  refine ⟨t2, stp t2 ?_, b1⟩
  rw [← hst2] at a1
  exact a1
theorem g_callV (S : CallFix p m c cc nL s args Ts own) (hK : KC E s) (hM : Met l y ws rm (CI E (.ref b :: As) W1) (QW ov W2 A1) mc ms A1) (cw : CallW R s args own r.1 index y bytes maxL ret ws rm mc ms n) (hc : vwCl[ci]? = some r) (hst : stk = As.reverse ++ .ref b :: st) (hst2 : ov.toList ++ st = stk') (hn : As.length = n) (hrm : (st.map fun v => v.category).sum ≤ 8) (hcs : cells + mc ≤ R.cells ∧ slots + ms ≤ R.slots) (hA : ∀ q, A1 q → A q) (hb : ∀ H, Wp H → va_at E.1 vwCl (b, .inr (ci, fs)) H) (hW : ∀ H, Wp H → W1 H) (hW2 : ∀ H H', Wp H → W2 H' → H.size ≤ H'.size → (∀ q : Nat, q < H.size → ¬ A1 q → H'[q]? = H[q]?) → Wp' H') (hd : decode cc pc = .ok (.invokevirtual index, 3)) (kk : G p l e R s m args below meth c nL A (cells + mc) (slots + ms) Q (pc + 3) lv stk' Wp') : G p l e R s m args below meth c nL A cells slots Q pc lv stk Wp :=
  g_after (Qa := (Value.ref b :: As).toArray) (fun H locs ls hl h => va_runV S hM cw ⟨CI_blind, va_recv hK (va1 (hb H h)) (q0 := 0) hc rfl, fun U hU hWm => ⟨rfl, va_K.moved hWm.alike hK, by rw [hU]; exact hW H h⟩⟩ rfl hn hl.1 hst (lv_room hrm) hd hcs) hA hW2 hst2 kk
theorem g_callS (S : CallFix p m c cc nL s args Ts own) (hK : KC E s) (hM : Met l y ws rm (CI E As W1) (QW ov W2 A1) mc ms A1) (cw : CallB R s args own index y bytes maxL ret ws rm mc ms n ∧ (Cond.static y).before args s = true) (hst : stk = As.reverse ++ st) (hst2 : ov.toList ++ st = stk') (hn : As.length = n) (hrm : (st.map fun v => v.category).sum ≤ 8) (hcs : cells + mc ≤ R.cells ∧ slots + ms ≤ R.slots) (hA : ∀ q, A1 q → A q) (hW : ∀ H, Wp H → W1 H) (hW2 : ∀ H H', Wp H → W2 H' → H.size ≤ H'.size → (∀ q : Nat, q < H.size → ¬ A1 q → H'[q]? = H[q]?) → Wp' H') (hd : decode cc pc = .ok (.invokestatic index, 3)) (kk : G p l e R s m args below meth c nL A (cells + mc) (slots + ms) Q (pc + 3) lv stk' Wp') : G p l e R s m args below meth c nL A cells slots Q pc lv stk Wp :=
  g_after (Qa := As.toArray) (fun H locs ls hl h => va_runS S hM cw ⟨CI_blind, fun U hU hWm => ⟨rfl, va_K.moved hWm.alike hK, by rw [hU]; exact hW H h⟩⟩ rfl hn hl.1 hst (lv_room hrm) hd hcs) hA hW2 hst2 kk
theorem g_callI (S : CallFix p m c cc nL s args Ts own) (hK : KC E s) (hM : Met l y ws rm (CI E (.ref b :: As) W1) (QW none W2 A1) mc ms A1) (cw : CallB R s args own index y bytes maxL none ws rm mc ms n ∧ y.name = "<init>" ∧ (Cond.instanceMethod y).before args s = true) (hst : stk = As.reverse ++ .ref b :: st) (hn : As.length = n) (hrm : (st.map fun v => v.category).sum ≤ 8) (hcs : cells + mc ≤ R.cells ∧ slots + ms ≤ R.slots) (hA : ∀ q, A1 q → A q) (hW : ∀ H, Wp H → W1 H) (hW2 : ∀ H H', Wp H → W2 H' → H.size ≤ H'.size → (∀ q : Nat, q < H.size → ¬ A1 q → H'[q]? = H[q]?) → Wp' H') (hd : decode cc pc = .ok (.invokespecial index, 3)) (kk : G p l e R s m args below meth c nL A (cells + mc) (slots + ms) Q (pc + 3) lv st Wp') : G p l e R s m args below meth c nL A cells slots Q pc lv stk Wp :=
  g_after (ov := none) (Qa := (Value.ref b :: As).toArray) (fun H locs ls hl h => va_runI S hM cw ⟨CI_blind, fun U hU hWm => ⟨rfl, va_K.moved hWm.alike hK, by rw [hU]; exact hW H h⟩⟩ rfl hn hl.1 hst (lv_room hrm) hd hcs) hA hW2 rfl kk
end GR
/-- a contract out of a walk -/
theorem g_met {l : Launch} {y : MethodName} {ws ws' : List Cond} {rm : Room} {E : EN} {As : List Value} {W1 W2 : Heap → Prop} {ov : Option Value} {mc ms : Nat} {A : Nat → Prop} {cc : ByteArray} {maxL : Nat} {ret : Option FieldType} {lv : List (Nat × Value)}
    (hy : plainName y.cls = true) (hw : ws = Cond.code y cc maxL ret :: ws') (hlen : (lg_sl As).length ≤ maxL) (hlv : lv_args 0 As = lv)
    (body : ∀ (p : Program) (e : Env) (s : State) (m : MethodId) (args : Array Value) (below : List Frame) (meth : Method) (c : Code), CallFix p m c cc maxL s args ws y.cls → KC E s → meth.sig.returnType = ret → meth.locks = false → (y.name = "<init>" → meth.name = "<init>") → G p l e rm s m args below meth c maxL A 0 0 (MQ below (QW ov W2 A) args s mc ms A) 0 lv [] W1) :
    Met l y ws rm (CI E As W1) (QW ov W2 A) mc ms A := by
  refine Met.ofW (cc := cc) (maxL := maxL) (ret := ret) hy hw ?_
  intro p e s m args below meth c s₁ B hml hv
  obtain ⟨rfl, hK, hW1⟩ := hv
  have hl := lv_entry As hlen
  rw [lg_entry_eq]
  subst hlv
  exact body p e s m _ below meth c ⟨B.exec, B.bytes, hml, findClass_of_methodNamed B.named, atoms_spec (ws := ws) B.pre⟩ hK B.returns B.notSynchronized (fun hn => (name_of_methodNamed B.named B.method).1.trans hn) s.heap [] _ hl hW1 va_S.rf
