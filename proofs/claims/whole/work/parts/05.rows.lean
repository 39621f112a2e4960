abbrev Kx : Type := (Program × Launch × Env × Room × State) × (MethodId × Array Value × List Frame × Method × Code) × va_G × (Nat → ClassId) × (Nat → Prop) × (State → Prop) × Nat × (Nat → Nat) × Nat × Nat × Option Nat
def kp (κ : Kx) : Program := κ.1.1
def kl (κ : Kx) : Launch := κ.1.2.1
def ke (κ : Kx) : Env := κ.1.2.2.1
def kR (κ : Kx) : Room := κ.1.2.2.2.1
def ks (κ : Kx) : State := κ.1.2.2.2.2
def km (κ : Kx) : MethodId := κ.2.1.1
def ka (κ : Kx) : Array Value := κ.2.1.2.1
def kb (κ : Kx) : List Frame := κ.2.1.2.2.1
def kh (κ : Kx) : Method := κ.2.1.2.2.2.1
def kc (κ : Kx) : Code := κ.2.1.2.2.2.2
def kD (κ : Kx) : va_G := κ.2.2.1
def k4 (κ : Kx) : Nat → ClassId := κ.2.2.2.1
def kA (κ : Kx) : Nat → Prop := κ.2.2.2.2.1
def kQ (κ : Kx) : State → Prop := κ.2.2.2.2.2.1
def kn (κ : Kx) : Nat := κ.2.2.2.2.2.2.1
def kd (κ : Kx) : Nat → Nat := κ.2.2.2.2.2.2.2.1
def kmc (κ : Kx) : Nat := κ.2.2.2.2.2.2.2.2.1
def kms (κ : Kx) : Nat := κ.2.2.2.2.2.2.2.2.2.1
def kx (κ : Kx) : Option Nat := κ.2.2.2.2.2.2.2.2.2.2
/-- the kinds of the places that are there from the beginning; a row of N has kind 100 + 4 * N + 0 (int), 1 (boolean), 2 (long), 3 (reference) -/
def K0 : Nat → Nat := fun p => match p with | 0 => 7 | 1 => 5 | 2 => 1060 | 3 => 1 | 4 => 183 | 5 => 3 | 6 => 124 | 7 => 124 | 8 => 125 | 9 => 0 | 10 => 160 | 11 => 161 | 12 => 111 | 13 => 108 | 14 => 142 | 15 => 164 | 16 => 4 | 17 => 140 | 18 => 140 | 19 => 140 | 20 => 4 | 21 => 140 | 22 => 140 | 23 => 140 | 24 => 2 | 25 => 8 | 26 => 140 | 27 => 140 | 28 => 140 | 29 => 116 | 30 => 1060 | 31 => 140 | 32 => 140 | 33 => 140 | 34 => 420 | 35 => 142 | 36 => 124 | 37 => 124 | 38 => 125 | 39 => 164 | 40 => 160 | 41 => 160 | 42 => 140 | _ => 109
def isF : Value → Bool := fun v => match v with | .float _ => true | _ => false
def isLg : Value → Bool := fun v => match v with | .long _ => true | .double _ => true | _ => false
/-- what is known of the words of a frame, by their numbers; a float is a word of which nothing is known -/
def lh (ad : Nat → Nat) (lsA : Array Slot) (nL : Nat) (ls : List Value) : Prop := lsA.size = nL ∧ lv_wf lsA ∧ ls.length ≤ nL ∧ ∀ (i : Nat) (v : Value), ls[i]? = some v → isF v = false → lsA[i]? = some (.val (cv ad v))
/-- the world at a point -/
def Wd (κ : Kx) (rc rs : Nat) (S : Mem) (ad : Nat → Nat) (H : Heap) (locs : List Loc) (cells slots : Nat) : Prop :=
  va_P (kD κ) CL (wl (k4 κ) ad S) H ∧ va_D (kA κ) (wl (k4 κ) ad S) ∧ va_S (kA κ) (ks κ).heap H locs ∧ mwf S ∧ (∀ k, k < kn κ → ad k = kd κ k) ∧ kn κ ≤ mN S ∧ (∀ p, p < mN S → p < 44 → mK S p = K0 p) ∧ cells + rc ≤ kmc κ ∧ slots + rs ≤ kms κ
def Lo (κ : Kx) (S : Mem) (ad : Nat → Nat) (lsA : Array Slot) (ls : List Value) : Prop := lh ad lsA (kc κ).maxLocals ls ∧ (∀ v ∈ ls, rb (mN S) v) ∧ ∀ b, kx κ = some b → lsA[0]? = some (.val (.ref b))
abbrev WW (κ : Kx) (H : Heap) (locs : List Loc) (cells slots : Nat) (g : JFrame) : Prop := W (kp κ) (kl κ) (ke κ) (kR κ) (ks κ) (km κ) (ka κ) (kb κ) (kh κ) (kc κ) H locs cells slots (kQ κ) g
def G (κ : Kx) (rc rs : Nat) (S : Mem) (pc : Nat) (ls st : List Value) : Prop := ∀ (ad : Nat → Nat) (H : Heap) (locs : List Loc) (lsA : Array Slot) (cells slots : Nat), Wd κ rc rs S ad H locs cells slots → Lo κ S ad lsA ls → (∀ v ∈ st, rb (mN S) v) → WW κ H locs cells slots (F0 (km κ) pc lsA (st.map (cv ad)))
def rtOk (ret : Option FieldType) (r : Option Value) (ins : Instr) : Prop := (ret = none ∧ r = none ∧ ins = .return_) ∨ (ret = some .int ∧ (∃ v, r = some (.int v)) ∧ ins = .ireturn) ∨ (ret = some .boolean ∧ (∃ v, r = some (.int v) ∧ (v = 0 ∨ v = 1)) ∧ ins = .ireturn) ∨ ((∃ n, ret = some (.object n)) ∧ (∃ q : Option Nat, r = some (va_rf q)) ∧ ins = .areturn)
def RH (cc : ByteArray) (ret : Option FieldType) (Φ : Option Value → Mem → Prop) (κ : Kx) : Prop := ∀ (r : Option Value) (S : Mem) (ad : Nat → Nat) (H : Heap) (locs : List Loc) (lsA : Array Slot) (cells slots pc : Nat) (ins : Instr), Wd κ 0 0 S ad H locs cells slots → (∀ v ∈ r.toList, rb (mN S) v) → Φ r S → rtOk ret r ins → decode cc pc = .ok (ins, 1) → WW κ H locs cells slots (F0 (km κ) pc lsA (r.toList.map (cv ad)))
/-- what stands over a whole method -/
def Cx (own : String) (cc : ByteArray) (nL : Nat) (ret : Option FieldType) (d : Nat) (ini : Bool) (Φ : Option Value → Mem → Prop) (κ : Kx) : Prop :=
  CallFix (kp κ) (km κ) (kc κ) cc nL (ks κ) (ka κ) UT own ∧ (va_K (kD κ) CL (tys4 (k4 κ)) (ks κ) ∧ (∀ q ∈ NW, va_Nw (.methodLinkNest q.1 q.2.1 q.2.2.1 q.2.2.2) (ks κ)) ∧ va_AO RX2 (ks κ)) ∧ ((∀ q, (ks κ).heap.size ≤ q → kA κ q) ∧ kmc κ ≤ (kR κ).cells ∧ kms κ ≤ (kR κ).slots) ∧ (d ≤ (kR κ).frames ∧ 40 * d ≤ (kR κ).locals) ∧ (ini = true → (kh κ).name = "<init>") ∧ RH cc ret Φ κ
theorem rb_t {n : Nat} {a : Value} {st : List Value} (h : ∀ v ∈ a :: st, rb n v) : ∀ v ∈ st, rb n v := fun v hv => h v (List.mem_cons_of_mem _ hv)
theorem rb_i {n : Nat} {x : Int32} {st : List Value} (h : ∀ v ∈ st, rb n v) : ∀ v ∈ .int x :: st, rb n v := fun v hv => by
  rcases List.mem_cons.mp hv with rfl | q
  · trivial
  · exact h v q
theorem rb_l {n : Nat} {x : Int64} {st : List Value} (h : ∀ v ∈ st, rb n v) : ∀ v ∈ .long x :: st, rb n v := fun v hv => by
  rcases List.mem_cons.mp hv with rfl | q
  · trivial
  · exact h v q
theorem rb_c {n : Nat} {a : Value} {st : List Value} (ha : rb n a) (h : ∀ v ∈ st, rb n v) : ∀ v ∈ a :: st, rb n v := fun v hv => by
  rcases List.mem_cons.mp hv with rfl | q
  · exact ha
  · exact h v q
theorem rb_h {n : Nat} {a : Value} {st : List Value} (h : ∀ v ∈ a :: st, rb n v) : rb n a := h a List.mem_cons_self
section ROWS
variable {own : String} {cc : ByteArray} {nL : Nat} {ret : Option FieldType} {d : Nat} {ini : Bool} {Φ : Option Value → Mem → Prop} {κ : Kx} {rc rs : Nat} {S : Mem} {pc q : Nat} {ls st : List Value}

theorem g_iconst (C : Cx own cc nL ret d ini Φ κ) {n : Int} {v : Int32} (hd : decode cc pc = .ok (.iconst n, 1)) (hq : pc + 1 = q) (hv : Int32.ofInt n = v) (k : G κ rc rs S q ls (.int v :: st)) : G κ rc rs S pc ls (st) := by
  subst hq
  intro ad H locs lsA cells slots hw hl hs
  exact lv_iconst C.1.1 C.1.2.1 hd hv (k ad H locs lsA cells slots hw hl (rb_i hs))
theorem g_bipush (C : Cx own cc nL ret d ini Φ κ) {n : Int} {v : Int32} (hd : decode cc pc = .ok (.bipush n, 2)) (hq : pc + 2 = q) (hv : (Int8.ofInt n).toInt32 = v) (k : G κ rc rs S q ls (.int v :: st)) : G κ rc rs S pc ls (st) := by
  subst hq
  intro ad H locs lsA cells slots hw hl hs
  exact lv_bipush C.1.1 C.1.2.1 hd hv (k ad H locs lsA cells slots hw hl (rb_i hs))
theorem g_sipush (C : Cx own cc nL ret d ini Φ κ) {n : Int} {v : Int32} (hd : decode cc pc = .ok (.sipush n, 3)) (hq : pc + 3 = q) (hv : (Int16.ofInt n).toInt32 = v) (k : G κ rc rs S q ls (.int v :: st)) : G κ rc rs S pc ls (st) := by
  subst hq
  intro ad H locs lsA cells slots hw hl hs
  exact lv_sipush C.1.1 C.1.2.1 hd hv (k ad H locs lsA cells slots hw hl (rb_i hs))
theorem g_lconst (C : Cx own cc nL ret d ini Φ κ) {n : Fin 2} {v : Int64} (hd : decode cc pc = .ok (.lconst n, 1)) (hq : pc + 1 = q) (hv : Int64.ofNat (n : Nat) = v) (k : G κ rc rs S q ls (.long v :: st)) : G κ rc rs S pc ls (st) := by
  subst hq
  intro ad H locs lsA cells slots hw hl hs
  exact lv_lconst C.1.1 C.1.2.1 hd hv (k ad H locs lsA cells slots hw hl (rb_l hs))
theorem g_null (C : Cx own cc nL ret d ini Φ κ)  (hd : decode cc pc = .ok (.aconst_null, 1)) (hq : pc + 1 = q)  (k : G κ rc rs S q ls (.null :: st)) : G κ rc rs S pc ls (st) := by
  subst hq
  intro ad H locs lsA cells slots hw hl hs
  exact lv_null C.1.1 C.1.2.1 hd (k ad H locs lsA cells slots hw hl (rb_c trivial hs))
theorem g_ldc (C : Cx own cc nL ret d ini Φ κ) {index : Nat} {v : Int32} (hd : decode cc pc = .ok (.ldc index, 2)) (hq : pc + 2 = q) (hu : Cond.constant own index v ∈ UT) (k : G κ rc rs S q ls (.int v :: st)) : G κ rc rs S pc ls (st) := by
  subst hq
  intro ad H locs lsA cells slots hw hl hs
  exact lv_ldc C.1.1 C.1.2.1 C.1.2.2.2.1 (C.1.2.2.2.2 _ hu) hd (k ad H locs lsA cells slots hw hl (rb_i hs))
theorem g_ldcw (C : Cx own cc nL ret d ini Φ κ) {index : Nat} {v : Int32} (hd : decode cc pc = .ok (.ldc_w index, 3)) (hq : pc + 3 = q) (hu : Cond.constant own index v ∈ UT) (k : G κ rc rs S q ls (.int v :: st)) : G κ rc rs S pc ls (st) := by
  subst hq
  intro ad H locs lsA cells slots hw hl hs
  exact lv_ldcw C.1.1 C.1.2.1 C.1.2.2.2.1 (C.1.2.2.2.2 _ hu) hd (k ad H locs lsA cells slots hw hl (rb_i hs))
theorem g_ldc2 (C : Cx own cc nL ret d ini Φ κ) {index : Nat} {v : Int64} (hd : decode cc pc = .ok (.ldc2_w index, 3)) (hq : pc + 3 = q) (hu : Cond.constantLong own index v ∈ UT) (k : G κ rc rs S q ls (.long v :: st)) : G κ rc rs S pc ls (st) := by
  subst hq
  intro ad H locs lsA cells slots hw hl hs
  exact lv_ldc2 C.1.1 C.1.2.1 C.1.2.2.2.1 (C.1.2.2.2.2 _ hu) hd (k ad H locs lsA cells slots hw hl (rb_l hs))
theorem g_iadd (C : Cx own cc nL ret d ini Φ κ) {x y : Int32} (hd : decode cc pc = .ok (.iadd, 1)) (hq : pc + 1 = q)  (k : G κ rc rs S q ls (.int (x + y) :: st)) : G κ rc rs S pc ls (.int y :: .int x :: st) := by
  subst hq
  intro ad H locs lsA cells slots hw hl hs
  exact lv_iadd C.1.1 C.1.2.1 hd (k ad H locs lsA cells slots hw hl (rb_i (rb_t (rb_t hs))))
theorem g_isub (C : Cx own cc nL ret d ini Φ κ) {x y : Int32} (hd : decode cc pc = .ok (.isub, 1)) (hq : pc + 1 = q)  (k : G κ rc rs S q ls (.int (x - y) :: st)) : G κ rc rs S pc ls (.int y :: .int x :: st) := by
  subst hq
  intro ad H locs lsA cells slots hw hl hs
  exact lv_isub C.1.1 C.1.2.1 hd (k ad H locs lsA cells slots hw hl (rb_i (rb_t (rb_t hs))))
theorem g_imul (C : Cx own cc nL ret d ini Φ κ) {x y : Int32} (hd : decode cc pc = .ok (.imul, 1)) (hq : pc + 1 = q)  (k : G κ rc rs S q ls (.int (x * y) :: st)) : G κ rc rs S pc ls (.int y :: .int x :: st) := by
  subst hq
  intro ad H locs lsA cells slots hw hl hs
  exact lv_imul C.1.1 C.1.2.1 hd (k ad H locs lsA cells slots hw hl (rb_i (rb_t (rb_t hs))))
theorem g_iand (C : Cx own cc nL ret d ini Φ κ) {x y : Int32} (hd : decode cc pc = .ok (.iand, 1)) (hq : pc + 1 = q)  (k : G κ rc rs S q ls (.int (x &&& y) :: st)) : G κ rc rs S pc ls (.int y :: .int x :: st) := by
  subst hq
  intro ad H locs lsA cells slots hw hl hs
  exact lv_iand C.1.1 C.1.2.1 hd (k ad H locs lsA cells slots hw hl (rb_i (rb_t (rb_t hs))))
theorem g_ior (C : Cx own cc nL ret d ini Φ κ) {x y : Int32} (hd : decode cc pc = .ok (.ior, 1)) (hq : pc + 1 = q)  (k : G κ rc rs S q ls (.int (x ||| y) :: st)) : G κ rc rs S pc ls (.int y :: .int x :: st) := by
  subst hq
  intro ad H locs lsA cells slots hw hl hs
  exact lv_ior C.1.1 C.1.2.1 hd (k ad H locs lsA cells slots hw hl (rb_i (rb_t (rb_t hs))))
theorem g_ixor (C : Cx own cc nL ret d ini Φ κ) {x y : Int32} (hd : decode cc pc = .ok (.ixor, 1)) (hq : pc + 1 = q)  (k : G κ rc rs S q ls (.int (x ^^^ y) :: st)) : G κ rc rs S pc ls (.int y :: .int x :: st) := by
  subst hq
  intro ad H locs lsA cells slots hw hl hs
  exact lv_ixor C.1.1 C.1.2.1 hd (k ad H locs lsA cells slots hw hl (rb_i (rb_t (rb_t hs))))
theorem g_ishl (C : Cx own cc nL ret d ini Φ κ) {x y : Int32} (hd : decode cc pc = .ok (.ishl, 1)) (hq : pc + 1 = q)  (k : G κ rc rs S q ls (.int (x <<< (y &&& 31)) :: st)) : G κ rc rs S pc ls (.int y :: .int x :: st) := by
  subst hq
  intro ad H locs lsA cells slots hw hl hs
  exact lv_ishl C.1.1 C.1.2.1 hd (k ad H locs lsA cells slots hw hl (rb_i (rb_t (rb_t hs))))
theorem g_ishr (C : Cx own cc nL ret d ini Φ κ) {x y : Int32} (hd : decode cc pc = .ok (.ishr, 1)) (hq : pc + 1 = q)  (k : G κ rc rs S q ls (.int (x >>> (y &&& 31)) :: st)) : G κ rc rs S pc ls (.int y :: .int x :: st) := by
  subst hq
  intro ad H locs lsA cells slots hw hl hs
  exact lv_ishr C.1.1 C.1.2.1 hd (k ad H locs lsA cells slots hw hl (rb_i (rb_t (rb_t hs))))
theorem g_iushr (C : Cx own cc nL ret d ini Φ κ) {x y : Int32} (hd : decode cc pc = .ok (.iushr, 1)) (hq : pc + 1 = q)  (k : G κ rc rs S q ls (.int ((x.toUInt32 >>> (y.toUInt32 &&& Int32.toUInt32 31)).toInt32) :: st)) : G κ rc rs S pc ls (.int y :: .int x :: st) := by
  subst hq
  intro ad H locs lsA cells slots hw hl hs
  exact lv_iushr C.1.1 C.1.2.1 hd rfl (k ad H locs lsA cells slots hw hl (rb_i (rb_t (rb_t hs))))
theorem g_idiv (C : Cx own cc nL ret d ini Φ κ) {x y : Int32} (hd : decode cc pc = .ok (.idiv, 1)) (hq : pc + 1 = q) (hne : ¬ y = 0) (k : G κ rc rs S q ls (.int (x / y) :: st)) : G κ rc rs S pc ls (.int y :: .int x :: st) := by
  subst hq
  intro ad H locs lsA cells slots hw hl hs
  exact lv_idiv C.1.1 C.1.2.1 hd hne (k ad H locs lsA cells slots hw hl (rb_i (rb_t (rb_t hs))))
theorem g_irem (C : Cx own cc nL ret d ini Φ κ) {x y : Int32} (hd : decode cc pc = .ok (.irem, 1)) (hq : pc + 1 = q) (hne : ¬ y = 0) (k : G κ rc rs S q ls (.int (x - x / y * y) :: st)) : G κ rc rs S pc ls (.int y :: .int x :: st) := by
  subst hq
  intro ad H locs lsA cells slots hw hl hs
  exact lv_irem C.1.1 C.1.2.1 hd hne (k ad H locs lsA cells slots hw hl (rb_i (rb_t (rb_t hs))))
theorem g_ladd (C : Cx own cc nL ret d ini Φ κ) {x y : Int64} (hd : decode cc pc = .ok (.ladd, 1)) (hq : pc + 1 = q)  (k : G κ rc rs S q ls (.long (x + y) :: st)) : G κ rc rs S pc ls (.long y :: .long x :: st) := by
  subst hq
  intro ad H locs lsA cells slots hw hl hs
  exact lv_ladd C.1.1 C.1.2.1 hd (k ad H locs lsA cells slots hw hl (rb_l (rb_t (rb_t hs))))
theorem g_lsub (C : Cx own cc nL ret d ini Φ κ) {x y : Int64} (hd : decode cc pc = .ok (.lsub, 1)) (hq : pc + 1 = q)  (k : G κ rc rs S q ls (.long (x - y) :: st)) : G κ rc rs S pc ls (.long y :: .long x :: st) := by
  subst hq
  intro ad H locs lsA cells slots hw hl hs
  exact lv_lsub C.1.1 C.1.2.1 hd (k ad H locs lsA cells slots hw hl (rb_l (rb_t (rb_t hs))))
theorem g_lmul (C : Cx own cc nL ret d ini Φ κ) {x y : Int64} (hd : decode cc pc = .ok (.lmul, 1)) (hq : pc + 1 = q)  (k : G κ rc rs S q ls (.long (x * y) :: st)) : G κ rc rs S pc ls (.long y :: .long x :: st) := by
  subst hq
  intro ad H locs lsA cells slots hw hl hs
  exact lv_lmul C.1.1 C.1.2.1 hd (k ad H locs lsA cells slots hw hl (rb_l (rb_t (rb_t hs))))
theorem g_land (C : Cx own cc nL ret d ini Φ κ) {x y : Int64} (hd : decode cc pc = .ok (.land, 1)) (hq : pc + 1 = q)  (k : G κ rc rs S q ls (.long (x &&& y) :: st)) : G κ rc rs S pc ls (.long y :: .long x :: st) := by
  subst hq
  intro ad H locs lsA cells slots hw hl hs
  exact lv_land C.1.1 C.1.2.1 hd (k ad H locs lsA cells slots hw hl (rb_l (rb_t (rb_t hs))))
theorem g_ldiv (C : Cx own cc nL ret d ini Φ κ) {x y : Int64} (hd : decode cc pc = .ok (.ldiv, 1)) (hq : pc + 1 = q) (hne : ¬ y = 0) (k : G κ rc rs S q ls (.long (x / y) :: st)) : G κ rc rs S pc ls (.long y :: .long x :: st) := by
  subst hq
  intro ad H locs lsA cells slots hw hl hs
  exact lv_ldiv C.1.1 C.1.2.1 hd hne (k ad H locs lsA cells slots hw hl (rb_l (rb_t (rb_t hs))))
theorem g_lrem (C : Cx own cc nL ret d ini Φ κ) {x y : Int64} (hd : decode cc pc = .ok (.lrem, 1)) (hq : pc + 1 = q) (hne : ¬ y = 0) (k : G κ rc rs S q ls (.long (x - x / y * y) :: st)) : G κ rc rs S pc ls (.long y :: .long x :: st) := by
  subst hq
  intro ad H locs lsA cells slots hw hl hs
  exact lv_lrem C.1.1 C.1.2.1 hd hne (k ad H locs lsA cells slots hw hl (rb_l (rb_t (rb_t hs))))
theorem g_i2l (C : Cx own cc nL ret d ini Φ κ) {x : Int32} (hd : decode cc pc = .ok (.i2l, 1)) (hq : pc + 1 = q)  (k : G κ rc rs S q ls (.long x.toInt64 :: st)) : G κ rc rs S pc ls (.int x :: st) := by
  subst hq
  intro ad H locs lsA cells slots hw hl hs
  exact lv_i2l C.1.1 C.1.2.1 hd rfl (k ad H locs lsA cells slots hw hl (rb_l (rb_t hs)))
theorem g_l2i (C : Cx own cc nL ret d ini Φ κ) {x : Int64} (hd : decode cc pc = .ok (.l2i, 1)) (hq : pc + 1 = q)  (k : G κ rc rs S q ls (.int x.toInt32 :: st)) : G κ rc rs S pc ls (.long x :: st) := by
  subst hq
  intro ad H locs lsA cells slots hw hl hs
  exact lv_l2i C.1.1 C.1.2.1 hd rfl (k ad H locs lsA cells slots hw hl (rb_i (rb_t hs)))
theorem g_dup (C : Cx own cc nL ret d ini Φ κ) {a : Value} (hd : decode cc pc = .ok (.dup, 1)) (hq : pc + 1 = q) (ha : a.category = 1) (k : G κ rc rs S q ls (a :: a :: st)) : G κ rc rs S pc ls (a :: st) := by
  subst hq
  intro ad H locs lsA cells slots hw hl hs
  exact lv_dup C.1.1 C.1.2.1 hd ((cv_cat _ _).trans ha) (k ad H locs lsA cells slots hw hl (rb_c (rb_h hs) hs))
theorem g_dup2 (C : Cx own cc nL ret d ini Φ κ) {a b : Value} (hd : decode cc pc = .ok (.dup2, 1)) (hq : pc + 1 = q) (ha : a.category = 1) (hb : b.category = 1) (k : G κ rc rs S q ls (a :: b :: a :: b :: st)) : G κ rc rs S pc ls (a :: b :: st) := by
  subst hq
  intro ad H locs lsA cells slots hw hl hs
  exact lv_dup2_11 C.1.1 C.1.2.1 hd ((cv_cat _ _).trans ha) ((cv_cat _ _).trans hb) (k ad H locs lsA cells slots hw hl (rb_c (rb_h hs) (rb_c (rb_h (rb_t hs)) hs)))
theorem g_if_eq (C : Cx own cc nL ret d ini Φ κ) {x : Int32} {off : Int} {tgt : Nat} (hd : decode cc pc = .ok (.ifCond .eq off, 3)) (hq : pc + 3 = q) (ht : (pc : Int) + off = (tgt : Int)) (kt : x = 0 → G κ rc rs S tgt ls st) (kf : ¬ (x = 0) → G κ rc rs S q ls st) : G κ rc rs S pc ls (.int x :: st) := by
  subst hq
  intro ad H locs lsA cells slots hw hl hs
  exact lv_if_eq C.1.1 C.1.2.1 hd ht (fun h => kt h ad H locs lsA cells slots hw hl (rb_t hs)) (fun h => kf h ad H locs lsA cells slots hw hl (rb_t hs))
theorem g_if_lt (C : Cx own cc nL ret d ini Φ κ) {x : Int32} {off : Int} {tgt : Nat} (hd : decode cc pc = .ok (.ifCond .lt off, 3)) (hq : pc + 3 = q) (ht : (pc : Int) + off = (tgt : Int)) (kt : x < 0 → G κ rc rs S tgt ls st) (kf : ¬ (x < 0) → G κ rc rs S q ls st) : G κ rc rs S pc ls (.int x :: st) := by
  subst hq
  intro ad H locs lsA cells slots hw hl hs
  exact lv_if_lt C.1.1 C.1.2.1 hd ht (fun h => kt h ad H locs lsA cells slots hw hl (rb_t hs)) (fun h => kf h ad H locs lsA cells slots hw hl (rb_t hs))
theorem g_if_ge (C : Cx own cc nL ret d ini Φ κ) {x : Int32} {off : Int} {tgt : Nat} (hd : decode cc pc = .ok (.ifCond .ge off, 3)) (hq : pc + 3 = q) (ht : (pc : Int) + off = (tgt : Int)) (kt : 0 ≤ x → G κ rc rs S tgt ls st) (kf : ¬ (0 ≤ x) → G κ rc rs S q ls st) : G κ rc rs S pc ls (.int x :: st) := by
  subst hq
  intro ad H locs lsA cells slots hw hl hs
  exact lv_if_ge C.1.1 C.1.2.1 hd ht (fun h => kt h ad H locs lsA cells slots hw hl (rb_t hs)) (fun h => kf h ad H locs lsA cells slots hw hl (rb_t hs))
theorem g_if_gt (C : Cx own cc nL ret d ini Φ κ) {x : Int32} {off : Int} {tgt : Nat} (hd : decode cc pc = .ok (.ifCond .gt off, 3)) (hq : pc + 3 = q) (ht : (pc : Int) + off = (tgt : Int)) (kt : 0 < x → G κ rc rs S tgt ls st) (kf : ¬ (0 < x) → G κ rc rs S q ls st) : G κ rc rs S pc ls (.int x :: st) := by
  subst hq
  intro ad H locs lsA cells slots hw hl hs
  exact lv_if_gt C.1.1 C.1.2.1 hd ht (fun h => kt h ad H locs lsA cells slots hw hl (rb_t hs)) (fun h => kf h ad H locs lsA cells slots hw hl (rb_t hs))
theorem g_if_le (C : Cx own cc nL ret d ini Φ κ) {x : Int32} {off : Int} {tgt : Nat} (hd : decode cc pc = .ok (.ifCond .le off, 3)) (hq : pc + 3 = q) (ht : (pc : Int) + off = (tgt : Int)) (kt : x ≤ 0 → G κ rc rs S tgt ls st) (kf : ¬ (x ≤ 0) → G κ rc rs S q ls st) : G κ rc rs S pc ls (.int x :: st) := by
  subst hq
  intro ad H locs lsA cells slots hw hl hs
  exact lv_if_le C.1.1 C.1.2.1 hd ht (fun h => kt h ad H locs lsA cells slots hw hl (rb_t hs)) (fun h => kf h ad H locs lsA cells slots hw hl (rb_t hs))
theorem g_icmp_eq (C : Cx own cc nL ret d ini Φ κ) {x y : Int32} {off : Int} {tgt : Nat} (hd : decode cc pc = .ok (.if_icmp .eq off, 3)) (hq : pc + 3 = q) (ht : (pc : Int) + off = (tgt : Int)) (kt : x = y → G κ rc rs S tgt ls st) (kf : ¬ (x = y) → G κ rc rs S q ls st) : G κ rc rs S pc ls (.int y :: .int x :: st) := by
  subst hq
  intro ad H locs lsA cells slots hw hl hs
  exact lv_icmp_eq C.1.1 C.1.2.1 hd ht (fun h => kt h ad H locs lsA cells slots hw hl (rb_t (rb_t hs))) (fun h => kf h ad H locs lsA cells slots hw hl (rb_t (rb_t hs)))
theorem g_icmp_lt (C : Cx own cc nL ret d ini Φ κ) {x y : Int32} {off : Int} {tgt : Nat} (hd : decode cc pc = .ok (.if_icmp .lt off, 3)) (hq : pc + 3 = q) (ht : (pc : Int) + off = (tgt : Int)) (kt : x < y → G κ rc rs S tgt ls st) (kf : ¬ (x < y) → G κ rc rs S q ls st) : G κ rc rs S pc ls (.int y :: .int x :: st) := by
  subst hq
  intro ad H locs lsA cells slots hw hl hs
  exact lv_icmp_lt C.1.1 C.1.2.1 hd ht (fun h => kt h ad H locs lsA cells slots hw hl (rb_t (rb_t hs))) (fun h => kf h ad H locs lsA cells slots hw hl (rb_t (rb_t hs)))
theorem g_icmp_ge (C : Cx own cc nL ret d ini Φ κ) {x y : Int32} {off : Int} {tgt : Nat} (hd : decode cc pc = .ok (.if_icmp .ge off, 3)) (hq : pc + 3 = q) (ht : (pc : Int) + off = (tgt : Int)) (kt : y ≤ x → G κ rc rs S tgt ls st) (kf : ¬ (y ≤ x) → G κ rc rs S q ls st) : G κ rc rs S pc ls (.int y :: .int x :: st) := by
  subst hq
  intro ad H locs lsA cells slots hw hl hs
  exact lv_icmp_ge C.1.1 C.1.2.1 hd ht (fun h => kt h ad H locs lsA cells slots hw hl (rb_t (rb_t hs))) (fun h => kf h ad H locs lsA cells slots hw hl (rb_t (rb_t hs)))
theorem g_icmp_gt (C : Cx own cc nL ret d ini Φ κ) {x y : Int32} {off : Int} {tgt : Nat} (hd : decode cc pc = .ok (.if_icmp .gt off, 3)) (hq : pc + 3 = q) (ht : (pc : Int) + off = (tgt : Int)) (kt : y < x → G κ rc rs S tgt ls st) (kf : ¬ (y < x) → G κ rc rs S q ls st) : G κ rc rs S pc ls (.int y :: .int x :: st) := by
  subst hq
  intro ad H locs lsA cells slots hw hl hs
  exact lv_icmp_gt C.1.1 C.1.2.1 hd ht (fun h => kt h ad H locs lsA cells slots hw hl (rb_t (rb_t hs))) (fun h => kf h ad H locs lsA cells slots hw hl (rb_t (rb_t hs)))
theorem g_icmp_le (C : Cx own cc nL ret d ini Φ κ) {x y : Int32} {off : Int} {tgt : Nat} (hd : decode cc pc = .ok (.if_icmp .le off, 3)) (hq : pc + 3 = q) (ht : (pc : Int) + off = (tgt : Int)) (kt : x ≤ y → G κ rc rs S tgt ls st) (kf : ¬ (x ≤ y) → G κ rc rs S q ls st) : G κ rc rs S pc ls (.int y :: .int x :: st) := by
  subst hq
  intro ad H locs lsA cells slots hw hl hs
  exact lv_icmp_le C.1.1 C.1.2.1 hd ht (fun h => kt h ad H locs lsA cells slots hw hl (rb_t (rb_t hs))) (fun h => kf h ad H locs lsA cells slots hw hl (rb_t (rb_t hs)))
theorem g_goto (C : Cx own cc nL ret d ini Φ κ) {off : Int} {tgt : Nat} (hd : decode cc pc = .ok (.goto off, 3)) (ht : (pc : Int) + off = (tgt : Int)) (k : G κ rc rs S tgt ls st) : G κ rc rs S pc ls st := by
  intro ad H locs lsA cells slots hw hl hs
  exact lv_goto C.1.1 C.1.2.1 hd ht (k ad H locs lsA cells slots hw hl hs)
theorem g_nonnull (C : Cx own cc nL ret d ini Φ κ) {r : Option Nat} {off : Int} {tgt : Nat} (hd : decode cc pc = .ok (.ifnonnull off, 3)) (hq : pc + 3 = q) (ht : (pc : Int) + off = (tgt : Int)) (kt : ∀ x, r = some x → G κ rc rs S tgt ls st) (kf : r = none → G κ rc rs S q ls st) : G κ rc rs S pc ls (va_rf r :: st) := by
  subst hq
  intro ad H locs lsA cells slots hw hl hs
  cases r with
  | none => exact lv_ifnonnullN C.1.1 C.1.2.1 hd (kf rfl ad H locs lsA cells slots hw hl (rb_t hs))
  | some x => exact lv_ifnonnull C.1.1 C.1.2.1 hd ht (kt x rfl ad H locs lsA cells slots hw hl (rb_t hs))
theorem g_tableIn (C : Cx own cc nL ret d ini Φ κ) {dflt lo hi : Int} {offs : Array Int} {len : Nat} {x : Int32} {off : Int} {tgt : Nat} (hd : decode cc pc = .ok (.tableswitch dflt lo hi offs, len)) (h1 : ¬ x.toInt < lo) (h2 : ¬ hi < x.toInt) (ho : offs[(x.toInt - lo).toNat]? = some off) (ht : (pc : Int) + off = (tgt : Int)) (k : G κ rc rs S tgt ls st) : G κ rc rs S pc ls (.int x :: st) := by
  intro ad H locs lsA cells slots hw hl hs
  exact lv_tableIn C.1.1 C.1.2.1 hd h1 h2 ho ht (k ad H locs lsA cells slots hw hl (rb_t hs))
theorem g_tableOut (C : Cx own cc nL ret d ini Φ κ) {dflt lo hi : Int} {offs : Array Int} {len : Nat} {x : Int32} {tgt : Nat} (hd : decode cc pc = .ok (.tableswitch dflt lo hi offs, len)) (h : x.toInt < lo ∨ hi < x.toInt) (ht : (pc : Int) + dflt = (tgt : Int)) (k : G κ rc rs S tgt ls st) : G κ rc rs S pc ls (.int x :: st) := by
  intro ad H locs lsA cells slots hw hl hs
  exact lv_tableOut C.1.1 C.1.2.1 hd h ht (k ad H locs lsA cells slots hw hl (rb_t hs))
theorem g_lcmp (C : Cx own cc nL ret d ini Φ κ) {x y : Int64} (hd : decode cc pc = .ok (.lcmp, 1)) (hq : pc + 1 = q) (k : G κ rc rs S q ls (.int (lg_cmp x y) :: st)) : G κ rc rs S pc ls (.long y :: .long x :: st) := by
  subst hq
  intro ad H locs lsA cells slots hw hl hs
  exact W.lcmp C.1.1 C.1.2.1 hd (k ad H locs lsA cells slots hw hl (rb_i (rb_t (rb_t hs))))
theorem g_if_ne (C : Cx own cc nL ret d ini Φ κ) {x : Int32} {off : Int} {tgt : Nat} (hd : decode cc pc = .ok (.ifCond .ne off, 3)) (hq : pc + 3 = q) (ht : (pc : Int) + off = (tgt : Int)) (kt : ¬ x = 0 → G κ rc rs S tgt ls st) (kf : x = 0 → G κ rc rs S q ls st) : G κ rc rs S pc ls (.int x :: st) := by
  subst hq
  intro ad H locs lsA cells slots hw hl hs
  exact lv_if_ne C.1.1 C.1.2.1 hd ht (fun h => kt h ad H locs lsA cells slots hw hl (rb_t hs)) (fun h => kf h ad H locs lsA cells slots hw hl (rb_t hs))
theorem g_icmp_ne (C : Cx own cc nL ret d ini Φ κ) {x y : Int32} {off : Int} {tgt : Nat} (hd : decode cc pc = .ok (.if_icmp .ne off, 3)) (hq : pc + 3 = q) (ht : (pc : Int) + off = (tgt : Int)) (kt : ¬ x = y → G κ rc rs S tgt ls st) (kf : x = y → G κ rc rs S q ls st) : G κ rc rs S pc ls (.int y :: .int x :: st) := by
  subst hq
  intro ad H locs lsA cells slots hw hl hs
  exact lv_icmp_ne C.1.1 C.1.2.1 hd ht (fun h => kt h ad H locs lsA cells slots hw hl (rb_t (rb_t hs))) (fun h => kf h ad H locs lsA cells slots hw hl (rb_t (rb_t hs)))
theorem g_ret (C : Cx own cc nL ret d ini Φ κ) {r : Option Value} {ins : Instr} (hd : decode cc pc = .ok (ins, 1)) (hr : rtOk ret r ins) (hΦ : Φ r S) (hst : r.toList = st) : G κ rc rs S pc ls st := by
  subst hst
  intro ad H locs lsA cells slots hw hl hs
  exact C.2.2.2.2.2 r S ad H locs lsA cells slots pc ins ⟨hw.1, hw.2.1, hw.2.2.1, hw.2.2.2.1, hw.2.2.2.2.1, hw.2.2.2.2.2.1, hw.2.2.2.2.2.2.1, Nat.le_trans (Nat.add_le_add_left (Nat.zero_le _) _) hw.2.2.2.2.2.2.2.1, Nat.le_trans (Nat.add_le_add_left (Nat.zero_le _) _) hw.2.2.2.2.2.2.2.2⟩ hs hΦ hr hd
theorem g_iret (C : Cx own cc nL ret d ini Φ κ) {v : Int32} (hret : ret = some .int) (hd : decode cc pc = .ok (.ireturn, 1)) (hΦ : Φ (some (.int v)) S) : G κ rc rs S pc ls [.int v] := g_ret C hd (Or.inr (Or.inl ⟨hret, ⟨v, rfl⟩, rfl⟩)) hΦ rfl
theorem g_zret (C : Cx own cc nL ret d ini Φ κ) {v : Int32} (hret : ret = some .boolean) (hd : decode cc pc = .ok (.ireturn, 1)) (h01 : v = 0 ∨ v = 1) (hΦ : Φ (some (.int v)) S) : G κ rc rs S pc ls [.int v] := g_ret C hd (Or.inr (Or.inr (Or.inl ⟨hret, ⟨v, rfl, h01⟩, rfl⟩))) hΦ rfl
theorem g_vret (C : Cx own cc nL ret d ini Φ κ) (hret : ret = none) (hd : decode cc pc = .ok (.return_, 1)) (hΦ : Φ none S) : G κ rc rs S pc ls [] := g_ret C hd (Or.inl ⟨hret, rfl, rfl⟩) hΦ rfl
theorem g_aret (C : Cx own cc nL ret d ini Φ κ) {x : Option Nat} {nm : String} (hret : ret = some (.object nm)) (hd : decode cc pc = .ok (.areturn, 1)) (hΦ : Φ (some (va_rf x)) S) : G κ rc rs S pc ls [va_rf x] := g_ret C hd (Or.inr (Or.inr (Or.inr ⟨⟨nm, hret⟩, ⟨x, rfl⟩, rfl⟩))) hΦ rfl
def lvx (κ : Kx) : List (Nat × Value) := match kx κ with | some b => [(0, .ref b)] | none => []
def lvp (ad : Nat → Nat) (ls : List Value) : List (Nat × Value) := (List.range ls.length).filterMap (fun i => (ls[i]?).bind (fun v => if isF v = true then none else some (i, cv ad v)))
theorem lvp_mem {ad : Nat → Nat} {q : Nat × Value} : q ∈ lvp ad ls ↔ ∃ v, ls[q.1]? = some v ∧ isF v = false ∧ q.2 = cv ad v := by
  unfold lvp
  rw [List.mem_filterMap]
  constructor
  · rintro ⟨i, -, hi⟩
    cases hv : ls[i]? with
    | none => rw [hv] at hi; cases hi
    | some v =>
      rw [hv, Option.bind_some] at hi
      by_cases hf : isF v = true
      · rw [if_pos hf] at hi; cases hi
      · rw [if_neg hf] at hi
        cases hi
        exact ⟨v, hv, by simpa using hf, rfl⟩
  · rintro ⟨v, hv, hf, he⟩
    refine ⟨q.1, List.mem_range.mpr (List.getElem?_eq_some_iff.mp hv).1, ?_⟩
    rw [hv, Option.bind_some, if_neg (by rw [hf]; decide), ← he]
theorem Lo.has {ad : Nat → Nat} {lsA : Array Slot} (h : Lo κ S ad lsA ls) : lv_has lsA (kc κ).maxLocals (lvx κ ++ lvp ad ls) := by
  obtain ⟨⟨h1, h2, h3, h4⟩, h5, h6⟩ := h
  refine ⟨h1, h2, fun q hq => ?_⟩
  rcases List.mem_append.mp hq with hq | hq
  · unfold lvx at hq
    cases hx : kx κ with
    | none => rw [hx] at hq; cases hq
    | some b =>
      rw [hx] at hq
      rcases List.mem_singleton.mp hq with rfl
      exact h6 b hx
  · obtain ⟨v, e1, e2, e3⟩ := lvp_mem.mp hq
    rw [e3]
    exact h4 q.1 v e1 e2
theorem Lo.st1 {ad : Nat → Nat} {lsA lsB : Array Slot} {i : Nat} {x : Value} (h : Lo κ S ad lsA ls) (h0 : i ≠ 0 ∨ kx κ = none) (hi : i < ls.length) (hnl : ∀ v, 0 < i → ls[i - 1]? = some v → isLg v = false) (hx : rb (mN S) x) (h' : lv_has lsB (kc κ).maxLocals ((i, cv ad x) :: (lvx κ ++ lvp ad ls).filter (fun q => !(q.1 == i) && !(q.1 + 1 == i && q.2.category == 2)))) : Lo κ S ad lsB (ls.set i x) := by
  obtain ⟨⟨h1, h2, h3, h4⟩, h5, h6⟩ := h
  obtain ⟨g1, g2, g3⟩ := h'
  refine ⟨⟨g1, g2, by rw [List.length_set]; exact h3, fun j v hj hv => ?_⟩, fun v hv => ?_, fun b hb => ?_⟩
  · by_cases hji : j = i
    · subst hji
      rw [List.getElem?_set_self hi] at hj
      cases hj
      exact g3 (j, cv ad x) List.mem_cons_self
    · rw [List.getElem?_set_ne (Ne.symm hji)] at hj
      refine g3 (j, cv ad v) (List.mem_cons_of_mem _ (List.mem_filter.mpr ⟨List.mem_append_right _ (lvp_mem.mpr ⟨v, hj, hv, rfl⟩), ?_⟩))
      have hnc : ¬ (j + 1 = i ∧ (cv ad v).category = 2) := by
        rintro ⟨e1, e2⟩
        subst e1
        have := hnl v (Nat.succ_pos j) (by simpa using hj)
        rw [cv_cat] at e2
        cases v <;> simp [Value.category, isLg] at e2 this
      simp only [Bool.and_eq_true, Bool.not_eq_true', beq_eq_false_iff_ne, ne_eq, Bool.and_eq_false_iff]
      refine ⟨hji, ?_⟩
      by_cases e1 : j + 1 = i
      · exact Or.inr (fun e2 => hnc ⟨e1, e2⟩)
      · exact Or.inl e1
  · rcases List.mem_or_eq_of_mem_set hv with h | h
    · exact h5 v h
    · rw [h]; exact hx
  · have hi0 : i ≠ 0 := by
      rcases h0 with h | h
      · exact h
      · rw [h] at hb; cases hb
    refine g3 (0, .ref b) (List.mem_cons_of_mem _ (List.mem_filter.mpr ⟨List.mem_append_left _ ?_, ?_⟩))
    · unfold lvx; rw [hb]; exact List.mem_singleton.mpr rfl
    · simp only [Value.category, Bool.and_eq_true, Bool.not_eq_true', beq_eq_false_iff_ne, ne_eq, Bool.and_eq_false_iff]
      exact ⟨fun e => hi0 e.symm, Or.inr (by decide)⟩
theorem Lo.st2 {ad : Nat → Nat} {lsA lsB : Array Slot} {i : Nat} {x : Int64} (h : Lo κ S ad lsA ls) (h0 : i ≠ 0) (hi : i + 1 < ls.length) (hnl : ∀ v, 0 < i → ls[i - 1]? = some v → isLg v = false) (h' : lv_has lsB (kc κ).maxLocals ((i, .long x) :: (lvx κ ++ lvp ad ls).filter (fun q => !(q.1 == i) && (!(q.1 == i + 1) && !(q.1 + 1 == i && q.2.category == 2))))) : Lo κ S ad lsB ((ls.set i (.long x)).set (i + 1) (.float 0)) := by
  obtain ⟨⟨h1, h2, h3, h4⟩, h5, h6⟩ := h
  obtain ⟨g1, g2, g3⟩ := h'
  refine ⟨⟨g1, g2, by rw [List.length_set, List.length_set]; exact h3, fun j v hj hv => ?_⟩, fun v hv => ?_, fun b hb => ?_⟩
  · by_cases hj1 : j = i + 1
    · subst hj1
      rw [List.getElem?_set_self (by rw [List.length_set]; exact hi)] at hj
      cases hj
      cases hv
    · rw [List.getElem?_set_ne (Ne.symm hj1)] at hj
      by_cases hji : j = i
      · subst hji
        rw [List.getElem?_set_self (by omega)] at hj
        cases hj
        exact g3 (j, .long x) List.mem_cons_self
      · rw [List.getElem?_set_ne (Ne.symm hji)] at hj
        refine g3 (j, cv ad v) (List.mem_cons_of_mem _ (List.mem_filter.mpr ⟨List.mem_append_right _ (lvp_mem.mpr ⟨v, hj, hv, rfl⟩), ?_⟩))
        have hnc : ¬ (j + 1 = i ∧ (cv ad v).category = 2) := by
          rintro ⟨e1, e2⟩
          subst e1
          have := hnl v (Nat.succ_pos j) (by simpa using hj)
          rw [cv_cat] at e2
          cases v <;> simp [Value.category, isLg] at e2 this
        simp only [Bool.and_eq_true, Bool.not_eq_true', beq_eq_false_iff_ne, ne_eq, Bool.and_eq_false_iff]
        refine ⟨hji, hj1, ?_⟩
        by_cases e1 : j + 1 = i
        · exact Or.inr (fun e2 => hnc ⟨e1, e2⟩)
        · exact Or.inl e1
  · rcases List.mem_or_eq_of_mem_set hv with h | h
    · rcases List.mem_or_eq_of_mem_set h with h | h
      · exact h5 v h
      · rw [h]; trivial
    · rw [h]; trivial
  · refine g3 (0, .ref b) (List.mem_cons_of_mem _ (List.mem_filter.mpr ⟨List.mem_append_left _ ?_, ?_⟩))
    · unfold lvx; rw [hb]; exact List.mem_singleton.mpr rfl
    · simp only [Value.category, Bool.and_eq_true, Bool.not_eq_true', beq_eq_false_iff_ne, ne_eq, Bool.and_eq_false_iff]
      exact ⟨fun e => h0 e.symm, by omega, Or.inr (by decide)⟩
theorem lo_at {ad : Nat → Nat} {lsA : Array Slot} (h : Lo κ S ad lsA ls) {i : Nat} {v : Value} (hv : ls[i]? = some v) (hf : isF v = false) : lsA[i]? = some (.val (cv ad v)) := h.1.2.2.2 i v hv hf
theorem lo_rb {ad : Nat → Nat} {lsA : Array Slot} (h : Lo κ S ad lsA ls) {i : Nat} {v : Value} (hv : ls[i]? = some v) : rb (mN S) v := h.2.1 v (List.mem_of_getElem? hv)
theorem lo_lt {ad : Nat → Nat} {lsA : Array Slot} (h : Lo κ S ad lsA ls) {i : Nat} (hi : i < ls.length) : i < (kc κ).maxLocals := Nat.lt_of_lt_of_le hi h.1.2.2.1

theorem g_iload_0 (C : Cx own cc nL ret d ini Φ κ) {x : Int32} (hd : decode cc pc = .ok (.iload_n 0, 1)) (hq : pc + 1 = q) (k : G κ rc rs S q (.int x :: ls) (.int x :: st)) : G κ rc rs S pc (.int x :: ls) st := by
  subst hq
  intro ad H locs lsA cells slots hw hl hs
  exact lv_iload_n C.1.1 C.1.2.1 hd rfl (lo_at hl (i := 0) rfl rfl) (k ad H locs lsA cells slots hw hl (rb_i hs))
theorem g_lload_0 (C : Cx own cc nL ret d ini Φ κ) {x : Int64} (hd : decode cc pc = .ok (.lload_n 0, 1)) (hq : pc + 1 = q) (k : G κ rc rs S q (.long x :: ls) (.long x :: st)) : G κ rc rs S pc (.long x :: ls) st := by
  subst hq
  intro ad H locs lsA cells slots hw hl hs
  exact lv_lload_n C.1.1 C.1.2.1 hd rfl (lo_at hl (i := 0) rfl rfl) (k ad H locs lsA cells slots hw hl (rb_l hs))
theorem g_aload_0 (C : Cx own cc nL ret d ini Φ κ) {x : Nat} (hd : decode cc pc = .ok (.aload_n 0, 1)) (hq : pc + 1 = q) (k : G κ rc rs S q (.ref x :: ls) (.ref x :: st)) : G κ rc rs S pc (.ref x :: ls) st := by
  subst hq
  intro ad H locs lsA cells slots hw hl hs
  exact lv_aload_n C.1.1 C.1.2.1 hd rfl (lo_at hl (i := 0) rfl rfl) (k ad H locs lsA cells slots hw hl (rb_c (lo_rb hl (i := 0) rfl) hs))
theorem g_iload_1 (C : Cx own cc nL ret d ini Φ κ) {v0 : Value} {x : Int32} (hd : decode cc pc = .ok (.iload_n 1, 1)) (hq : pc + 1 = q) (k : G κ rc rs S q (v0 :: .int x :: ls) (.int x :: st)) : G κ rc rs S pc (v0 :: .int x :: ls) st := by
  subst hq
  intro ad H locs lsA cells slots hw hl hs
  exact lv_iload_n C.1.1 C.1.2.1 hd rfl (lo_at hl (i := 1) rfl rfl) (k ad H locs lsA cells slots hw hl (rb_i hs))
theorem g_lload_1 (C : Cx own cc nL ret d ini Φ κ) {v0 : Value} {x : Int64} (hd : decode cc pc = .ok (.lload_n 1, 1)) (hq : pc + 1 = q) (k : G κ rc rs S q (v0 :: .long x :: ls) (.long x :: st)) : G κ rc rs S pc (v0 :: .long x :: ls) st := by
  subst hq
  intro ad H locs lsA cells slots hw hl hs
  exact lv_lload_n C.1.1 C.1.2.1 hd rfl (lo_at hl (i := 1) rfl rfl) (k ad H locs lsA cells slots hw hl (rb_l hs))
theorem g_aload_1 (C : Cx own cc nL ret d ini Φ κ) {v0 : Value} {x : Nat} (hd : decode cc pc = .ok (.aload_n 1, 1)) (hq : pc + 1 = q) (k : G κ rc rs S q (v0 :: .ref x :: ls) (.ref x :: st)) : G κ rc rs S pc (v0 :: .ref x :: ls) st := by
  subst hq
  intro ad H locs lsA cells slots hw hl hs
  exact lv_aload_n C.1.1 C.1.2.1 hd rfl (lo_at hl (i := 1) rfl rfl) (k ad H locs lsA cells slots hw hl (rb_c (lo_rb hl (i := 1) rfl) hs))
theorem g_iload_2 (C : Cx own cc nL ret d ini Φ κ) {v0 v1 : Value} {x : Int32} (hd : decode cc pc = .ok (.iload_n 2, 1)) (hq : pc + 1 = q) (k : G κ rc rs S q (v0 :: v1 :: .int x :: ls) (.int x :: st)) : G κ rc rs S pc (v0 :: v1 :: .int x :: ls) st := by
  subst hq
  intro ad H locs lsA cells slots hw hl hs
  exact lv_iload_n C.1.1 C.1.2.1 hd rfl (lo_at hl (i := 2) rfl rfl) (k ad H locs lsA cells slots hw hl (rb_i hs))
theorem g_lload_2 (C : Cx own cc nL ret d ini Φ κ) {v0 v1 : Value} {x : Int64} (hd : decode cc pc = .ok (.lload_n 2, 1)) (hq : pc + 1 = q) (k : G κ rc rs S q (v0 :: v1 :: .long x :: ls) (.long x :: st)) : G κ rc rs S pc (v0 :: v1 :: .long x :: ls) st := by
  subst hq
  intro ad H locs lsA cells slots hw hl hs
  exact lv_lload_n C.1.1 C.1.2.1 hd rfl (lo_at hl (i := 2) rfl rfl) (k ad H locs lsA cells slots hw hl (rb_l hs))
theorem g_aload_2 (C : Cx own cc nL ret d ini Φ κ) {v0 v1 : Value} {x : Nat} (hd : decode cc pc = .ok (.aload_n 2, 1)) (hq : pc + 1 = q) (k : G κ rc rs S q (v0 :: v1 :: .ref x :: ls) (.ref x :: st)) : G κ rc rs S pc (v0 :: v1 :: .ref x :: ls) st := by
  subst hq
  intro ad H locs lsA cells slots hw hl hs
  exact lv_aload_n C.1.1 C.1.2.1 hd rfl (lo_at hl (i := 2) rfl rfl) (k ad H locs lsA cells slots hw hl (rb_c (lo_rb hl (i := 2) rfl) hs))
theorem g_iload_3 (C : Cx own cc nL ret d ini Φ κ) {v0 v1 v2 : Value} {x : Int32} (hd : decode cc pc = .ok (.iload_n 3, 1)) (hq : pc + 1 = q) (k : G κ rc rs S q (v0 :: v1 :: v2 :: .int x :: ls) (.int x :: st)) : G κ rc rs S pc (v0 :: v1 :: v2 :: .int x :: ls) st := by
  subst hq
  intro ad H locs lsA cells slots hw hl hs
  exact lv_iload_n C.1.1 C.1.2.1 hd rfl (lo_at hl (i := 3) rfl rfl) (k ad H locs lsA cells slots hw hl (rb_i hs))
theorem g_lload_3 (C : Cx own cc nL ret d ini Φ κ) {v0 v1 v2 : Value} {x : Int64} (hd : decode cc pc = .ok (.lload_n 3, 1)) (hq : pc + 1 = q) (k : G κ rc rs S q (v0 :: v1 :: v2 :: .long x :: ls) (.long x :: st)) : G κ rc rs S pc (v0 :: v1 :: v2 :: .long x :: ls) st := by
  subst hq
  intro ad H locs lsA cells slots hw hl hs
  exact lv_lload_n C.1.1 C.1.2.1 hd rfl (lo_at hl (i := 3) rfl rfl) (k ad H locs lsA cells slots hw hl (rb_l hs))
theorem g_aload_3 (C : Cx own cc nL ret d ini Φ κ) {v0 v1 v2 : Value} {x : Nat} (hd : decode cc pc = .ok (.aload_n 3, 1)) (hq : pc + 1 = q) (k : G κ rc rs S q (v0 :: v1 :: v2 :: .ref x :: ls) (.ref x :: st)) : G κ rc rs S pc (v0 :: v1 :: v2 :: .ref x :: ls) st := by
  subst hq
  intro ad H locs lsA cells slots hw hl hs
  exact lv_aload_n C.1.1 C.1.2.1 hd rfl (lo_at hl (i := 3) rfl rfl) (k ad H locs lsA cells slots hw hl (rb_c (lo_rb hl (i := 3) rfl) hs))
theorem g_iload_4 (C : Cx own cc nL ret d ini Φ κ) {v0 v1 v2 v3 : Value} {x : Int32} (hd : decode cc pc = .ok (.iload 4, 2)) (hq : pc + 2 = q) (k : G κ rc rs S q (v0 :: v1 :: v2 :: v3 :: .int x :: ls) (.int x :: st)) : G κ rc rs S pc (v0 :: v1 :: v2 :: v3 :: .int x :: ls) st := by
  subst hq
  intro ad H locs lsA cells slots hw hl hs
  exact lv_iload C.1.1 C.1.2.1 hd (lo_at hl (i := 4) rfl rfl) (k ad H locs lsA cells slots hw hl (rb_i hs))
theorem g_lload_4 (C : Cx own cc nL ret d ini Φ κ) {v0 v1 v2 v3 : Value} {x : Int64} (hd : decode cc pc = .ok (.lload 4, 2)) (hq : pc + 2 = q) (k : G κ rc rs S q (v0 :: v1 :: v2 :: v3 :: .long x :: ls) (.long x :: st)) : G κ rc rs S pc (v0 :: v1 :: v2 :: v3 :: .long x :: ls) st := by
  subst hq
  intro ad H locs lsA cells slots hw hl hs
  exact lv_lload C.1.1 C.1.2.1 hd (lo_at hl (i := 4) rfl rfl) (k ad H locs lsA cells slots hw hl (rb_l hs))
theorem g_aload_4 (C : Cx own cc nL ret d ini Φ κ) {v0 v1 v2 v3 : Value} {x : Nat} (hd : decode cc pc = .ok (.aload 4, 2)) (hq : pc + 2 = q) (k : G κ rc rs S q (v0 :: v1 :: v2 :: v3 :: .ref x :: ls) (.ref x :: st)) : G κ rc rs S pc (v0 :: v1 :: v2 :: v3 :: .ref x :: ls) st := by
  subst hq
  intro ad H locs lsA cells slots hw hl hs
  exact lv_aload C.1.1 C.1.2.1 hd (lo_at hl (i := 4) rfl rfl) (k ad H locs lsA cells slots hw hl (rb_c (lo_rb hl (i := 4) rfl) hs))
theorem g_iload_5 (C : Cx own cc nL ret d ini Φ κ) {v0 v1 v2 v3 v4 : Value} {x : Int32} (hd : decode cc pc = .ok (.iload 5, 2)) (hq : pc + 2 = q) (k : G κ rc rs S q (v0 :: v1 :: v2 :: v3 :: v4 :: .int x :: ls) (.int x :: st)) : G κ rc rs S pc (v0 :: v1 :: v2 :: v3 :: v4 :: .int x :: ls) st := by
  subst hq
  intro ad H locs lsA cells slots hw hl hs
  exact lv_iload C.1.1 C.1.2.1 hd (lo_at hl (i := 5) rfl rfl) (k ad H locs lsA cells slots hw hl (rb_i hs))
theorem g_lload_5 (C : Cx own cc nL ret d ini Φ κ) {v0 v1 v2 v3 v4 : Value} {x : Int64} (hd : decode cc pc = .ok (.lload 5, 2)) (hq : pc + 2 = q) (k : G κ rc rs S q (v0 :: v1 :: v2 :: v3 :: v4 :: .long x :: ls) (.long x :: st)) : G κ rc rs S pc (v0 :: v1 :: v2 :: v3 :: v4 :: .long x :: ls) st := by
  subst hq
  intro ad H locs lsA cells slots hw hl hs
  exact lv_lload C.1.1 C.1.2.1 hd (lo_at hl (i := 5) rfl rfl) (k ad H locs lsA cells slots hw hl (rb_l hs))
theorem g_aload_5 (C : Cx own cc nL ret d ini Φ κ) {v0 v1 v2 v3 v4 : Value} {x : Nat} (hd : decode cc pc = .ok (.aload 5, 2)) (hq : pc + 2 = q) (k : G κ rc rs S q (v0 :: v1 :: v2 :: v3 :: v4 :: .ref x :: ls) (.ref x :: st)) : G κ rc rs S pc (v0 :: v1 :: v2 :: v3 :: v4 :: .ref x :: ls) st := by
  subst hq
  intro ad H locs lsA cells slots hw hl hs
  exact lv_aload C.1.1 C.1.2.1 hd (lo_at hl (i := 5) rfl rfl) (k ad H locs lsA cells slots hw hl (rb_c (lo_rb hl (i := 5) rfl) hs))
theorem g_iload_6 (C : Cx own cc nL ret d ini Φ κ) {v0 v1 v2 v3 v4 v5 : Value} {x : Int32} (hd : decode cc pc = .ok (.iload 6, 2)) (hq : pc + 2 = q) (k : G κ rc rs S q (v0 :: v1 :: v2 :: v3 :: v4 :: v5 :: .int x :: ls) (.int x :: st)) : G κ rc rs S pc (v0 :: v1 :: v2 :: v3 :: v4 :: v5 :: .int x :: ls) st := by
  subst hq
  intro ad H locs lsA cells slots hw hl hs
  exact lv_iload C.1.1 C.1.2.1 hd (lo_at hl (i := 6) rfl rfl) (k ad H locs lsA cells slots hw hl (rb_i hs))
theorem g_lload_6 (C : Cx own cc nL ret d ini Φ κ) {v0 v1 v2 v3 v4 v5 : Value} {x : Int64} (hd : decode cc pc = .ok (.lload 6, 2)) (hq : pc + 2 = q) (k : G κ rc rs S q (v0 :: v1 :: v2 :: v3 :: v4 :: v5 :: .long x :: ls) (.long x :: st)) : G κ rc rs S pc (v0 :: v1 :: v2 :: v3 :: v4 :: v5 :: .long x :: ls) st := by
  subst hq
  intro ad H locs lsA cells slots hw hl hs
  exact lv_lload C.1.1 C.1.2.1 hd (lo_at hl (i := 6) rfl rfl) (k ad H locs lsA cells slots hw hl (rb_l hs))
theorem g_aload_6 (C : Cx own cc nL ret d ini Φ κ) {v0 v1 v2 v3 v4 v5 : Value} {x : Nat} (hd : decode cc pc = .ok (.aload 6, 2)) (hq : pc + 2 = q) (k : G κ rc rs S q (v0 :: v1 :: v2 :: v3 :: v4 :: v5 :: .ref x :: ls) (.ref x :: st)) : G κ rc rs S pc (v0 :: v1 :: v2 :: v3 :: v4 :: v5 :: .ref x :: ls) st := by
  subst hq
  intro ad H locs lsA cells slots hw hl hs
  exact lv_aload C.1.1 C.1.2.1 hd (lo_at hl (i := 6) rfl rfl) (k ad H locs lsA cells slots hw hl (rb_c (lo_rb hl (i := 6) rfl) hs))
theorem g_iload_7 (C : Cx own cc nL ret d ini Φ κ) {v0 v1 v2 v3 v4 v5 v6 : Value} {x : Int32} (hd : decode cc pc = .ok (.iload 7, 2)) (hq : pc + 2 = q) (k : G κ rc rs S q (v0 :: v1 :: v2 :: v3 :: v4 :: v5 :: v6 :: .int x :: ls) (.int x :: st)) : G κ rc rs S pc (v0 :: v1 :: v2 :: v3 :: v4 :: v5 :: v6 :: .int x :: ls) st := by
  subst hq
  intro ad H locs lsA cells slots hw hl hs
  exact lv_iload C.1.1 C.1.2.1 hd (lo_at hl (i := 7) rfl rfl) (k ad H locs lsA cells slots hw hl (rb_i hs))
theorem g_lload_7 (C : Cx own cc nL ret d ini Φ κ) {v0 v1 v2 v3 v4 v5 v6 : Value} {x : Int64} (hd : decode cc pc = .ok (.lload 7, 2)) (hq : pc + 2 = q) (k : G κ rc rs S q (v0 :: v1 :: v2 :: v3 :: v4 :: v5 :: v6 :: .long x :: ls) (.long x :: st)) : G κ rc rs S pc (v0 :: v1 :: v2 :: v3 :: v4 :: v5 :: v6 :: .long x :: ls) st := by
  subst hq
  intro ad H locs lsA cells slots hw hl hs
  exact lv_lload C.1.1 C.1.2.1 hd (lo_at hl (i := 7) rfl rfl) (k ad H locs lsA cells slots hw hl (rb_l hs))
theorem g_aload_7 (C : Cx own cc nL ret d ini Φ κ) {v0 v1 v2 v3 v4 v5 v6 : Value} {x : Nat} (hd : decode cc pc = .ok (.aload 7, 2)) (hq : pc + 2 = q) (k : G κ rc rs S q (v0 :: v1 :: v2 :: v3 :: v4 :: v5 :: v6 :: .ref x :: ls) (.ref x :: st)) : G κ rc rs S pc (v0 :: v1 :: v2 :: v3 :: v4 :: v5 :: v6 :: .ref x :: ls) st := by
  subst hq
  intro ad H locs lsA cells slots hw hl hs
  exact lv_aload C.1.1 C.1.2.1 hd (lo_at hl (i := 7) rfl rfl) (k ad H locs lsA cells slots hw hl (rb_c (lo_rb hl (i := 7) rfl) hs))
theorem g_istore_0 (C : Cx own cc nL ret d ini Φ κ) {v0 : Value} {x : Int32} (hx0 : kx κ = none) (hd : decode cc pc = .ok (.istore_n 0, 1)) (hq : pc + 1 = q) (k : G κ rc rs S q (.int x :: ls) st) : G κ rc rs S pc (v0 :: ls) (.int x :: st) := by
  subst hq
  intro ad H locs lsA cells slots hw hl hs
  refine lv_istore_n C.1.1 C.1.2.1 hd rfl hl.has (lo_lt hl (i := 0) (by simp)) rfl (fun lsB hB => ?_)
  exact k ad H locs lsB cells slots hw (hl.st1 (i := 0) (x := .int x) (Or.inr hx0) (by simp) (fun v h _ => absurd h (Nat.lt_irrefl 0)) (rb_h hs) hB) (rb_t hs)
theorem g_istore_1 (C : Cx own cc nL ret d ini Φ κ) {v0 v1 : Value} {x : Int32} (hn : isLg v0 = false) (hd : decode cc pc = .ok (.istore_n 1, 1)) (hq : pc + 1 = q) (k : G κ rc rs S q (v0 :: .int x :: ls) st) : G κ rc rs S pc (v0 :: v1 :: ls) (.int x :: st) := by
  subst hq
  intro ad H locs lsA cells slots hw hl hs
  refine lv_istore_n C.1.1 C.1.2.1 hd rfl hl.has (lo_lt hl (i := 1) (by simp)) rfl (fun lsB hB => ?_)
  exact k ad H locs lsB cells slots hw (hl.st1 (i := 1) (x := .int x) (Or.inl (by decide)) (by simp) (fun v _ e => by cases e; exact hn) (rb_h hs) hB) (rb_t hs)
theorem g_astore_1 (C : Cx own cc nL ret d ini Φ κ) {v0 v1 : Value} {x : Nat} (hn : isLg v0 = false) (hd : decode cc pc = .ok (.astore_n 1, 1)) (hq : pc + 1 = q) (k : G κ rc rs S q (v0 :: .ref x :: ls) st) : G κ rc rs S pc (v0 :: v1 :: ls) (.ref x :: st) := by
  subst hq
  intro ad H locs lsA cells slots hw hl hs
  refine lv_astore_n C.1.1 C.1.2.1 hd rfl hl.has (lo_lt hl (i := 1) (by simp)) rfl (fun lsB hB => ?_)
  exact k ad H locs lsB cells slots hw (hl.st1 (i := 1) (x := .ref x) (Or.inl (by decide)) (by simp) (fun v _ e => by cases e; exact hn) (rb_h hs) hB) (rb_t hs)
theorem g_istore_2 (C : Cx own cc nL ret d ini Φ κ) {v0 v1 v2 : Value} {x : Int32} (hn : isLg v1 = false) (hd : decode cc pc = .ok (.istore_n 2, 1)) (hq : pc + 1 = q) (k : G κ rc rs S q (v0 :: v1 :: .int x :: ls) st) : G κ rc rs S pc (v0 :: v1 :: v2 :: ls) (.int x :: st) := by
  subst hq
  intro ad H locs lsA cells slots hw hl hs
  refine lv_istore_n C.1.1 C.1.2.1 hd rfl hl.has (lo_lt hl (i := 2) (by simp)) rfl (fun lsB hB => ?_)
  exact k ad H locs lsB cells slots hw (hl.st1 (i := 2) (x := .int x) (Or.inl (by decide)) (by simp) (fun v _ e => by cases e; exact hn) (rb_h hs) hB) (rb_t hs)
theorem g_astore_2 (C : Cx own cc nL ret d ini Φ κ) {v0 v1 v2 : Value} {x : Nat} (hn : isLg v1 = false) (hd : decode cc pc = .ok (.astore_n 2, 1)) (hq : pc + 1 = q) (k : G κ rc rs S q (v0 :: v1 :: .ref x :: ls) st) : G κ rc rs S pc (v0 :: v1 :: v2 :: ls) (.ref x :: st) := by
  subst hq
  intro ad H locs lsA cells slots hw hl hs
  refine lv_astore_n C.1.1 C.1.2.1 hd rfl hl.has (lo_lt hl (i := 2) (by simp)) rfl (fun lsB hB => ?_)
  exact k ad H locs lsB cells slots hw (hl.st1 (i := 2) (x := .ref x) (Or.inl (by decide)) (by simp) (fun v _ e => by cases e; exact hn) (rb_h hs) hB) (rb_t hs)
theorem g_istore_3 (C : Cx own cc nL ret d ini Φ κ) {v0 v1 v2 v3 : Value} {x : Int32} (hn : isLg v2 = false) (hd : decode cc pc = .ok (.istore_n 3, 1)) (hq : pc + 1 = q) (k : G κ rc rs S q (v0 :: v1 :: v2 :: .int x :: ls) st) : G κ rc rs S pc (v0 :: v1 :: v2 :: v3 :: ls) (.int x :: st) := by
  subst hq
  intro ad H locs lsA cells slots hw hl hs
  refine lv_istore_n C.1.1 C.1.2.1 hd rfl hl.has (lo_lt hl (i := 3) (by simp)) rfl (fun lsB hB => ?_)
  exact k ad H locs lsB cells slots hw (hl.st1 (i := 3) (x := .int x) (Or.inl (by decide)) (by simp) (fun v _ e => by cases e; exact hn) (rb_h hs) hB) (rb_t hs)
theorem g_astore_3 (C : Cx own cc nL ret d ini Φ κ) {v0 v1 v2 v3 : Value} {x : Nat} (hn : isLg v2 = false) (hd : decode cc pc = .ok (.astore_n 3, 1)) (hq : pc + 1 = q) (k : G κ rc rs S q (v0 :: v1 :: v2 :: .ref x :: ls) st) : G κ rc rs S pc (v0 :: v1 :: v2 :: v3 :: ls) (.ref x :: st) := by
  subst hq
  intro ad H locs lsA cells slots hw hl hs
  refine lv_astore_n C.1.1 C.1.2.1 hd rfl hl.has (lo_lt hl (i := 3) (by simp)) rfl (fun lsB hB => ?_)
  exact k ad H locs lsB cells slots hw (hl.st1 (i := 3) (x := .ref x) (Or.inl (by decide)) (by simp) (fun v _ e => by cases e; exact hn) (rb_h hs) hB) (rb_t hs)
theorem g_istore_4 (C : Cx own cc nL ret d ini Φ κ) {v0 v1 v2 v3 v4 : Value} {x : Int32} (hn : isLg v3 = false) (hd : decode cc pc = .ok (.istore 4, 2)) (hq : pc + 2 = q) (k : G κ rc rs S q (v0 :: v1 :: v2 :: v3 :: .int x :: ls) st) : G κ rc rs S pc (v0 :: v1 :: v2 :: v3 :: v4 :: ls) (.int x :: st) := by
  subst hq
  intro ad H locs lsA cells slots hw hl hs
  refine lv_istore C.1.1 C.1.2.1 hd hl.has (lo_lt hl (i := 4) (by simp)) rfl (fun lsB hB => ?_)
  exact k ad H locs lsB cells slots hw (hl.st1 (i := 4) (x := .int x) (Or.inl (by decide)) (by simp) (fun v _ e => by cases e; exact hn) (rb_h hs) hB) (rb_t hs)
theorem g_astore_4 (C : Cx own cc nL ret d ini Φ κ) {v0 v1 v2 v3 v4 : Value} {x : Nat} (hn : isLg v3 = false) (hd : decode cc pc = .ok (.astore 4, 2)) (hq : pc + 2 = q) (k : G κ rc rs S q (v0 :: v1 :: v2 :: v3 :: .ref x :: ls) st) : G κ rc rs S pc (v0 :: v1 :: v2 :: v3 :: v4 :: ls) (.ref x :: st) := by
  subst hq
  intro ad H locs lsA cells slots hw hl hs
  refine lv_astore C.1.1 C.1.2.1 hd hl.has (lo_lt hl (i := 4) (by simp)) rfl (fun lsB hB => ?_)
  exact k ad H locs lsB cells slots hw (hl.st1 (i := 4) (x := .ref x) (Or.inl (by decide)) (by simp) (fun v _ e => by cases e; exact hn) (rb_h hs) hB) (rb_t hs)
theorem g_istore_5 (C : Cx own cc nL ret d ini Φ κ) {v0 v1 v2 v3 v4 v5 : Value} {x : Int32} (hn : isLg v4 = false) (hd : decode cc pc = .ok (.istore 5, 2)) (hq : pc + 2 = q) (k : G κ rc rs S q (v0 :: v1 :: v2 :: v3 :: v4 :: .int x :: ls) st) : G κ rc rs S pc (v0 :: v1 :: v2 :: v3 :: v4 :: v5 :: ls) (.int x :: st) := by
  subst hq
  intro ad H locs lsA cells slots hw hl hs
  refine lv_istore C.1.1 C.1.2.1 hd hl.has (lo_lt hl (i := 5) (by simp)) rfl (fun lsB hB => ?_)
  exact k ad H locs lsB cells slots hw (hl.st1 (i := 5) (x := .int x) (Or.inl (by decide)) (by simp) (fun v _ e => by cases e; exact hn) (rb_h hs) hB) (rb_t hs)
theorem g_astore_5 (C : Cx own cc nL ret d ini Φ κ) {v0 v1 v2 v3 v4 v5 : Value} {x : Nat} (hn : isLg v4 = false) (hd : decode cc pc = .ok (.astore 5, 2)) (hq : pc + 2 = q) (k : G κ rc rs S q (v0 :: v1 :: v2 :: v3 :: v4 :: .ref x :: ls) st) : G κ rc rs S pc (v0 :: v1 :: v2 :: v3 :: v4 :: v5 :: ls) (.ref x :: st) := by
  subst hq
  intro ad H locs lsA cells slots hw hl hs
  refine lv_astore C.1.1 C.1.2.1 hd hl.has (lo_lt hl (i := 5) (by simp)) rfl (fun lsB hB => ?_)
  exact k ad H locs lsB cells slots hw (hl.st1 (i := 5) (x := .ref x) (Or.inl (by decide)) (by simp) (fun v _ e => by cases e; exact hn) (rb_h hs) hB) (rb_t hs)
theorem g_istore_6 (C : Cx own cc nL ret d ini Φ κ) {v0 v1 v2 v3 v4 v5 v6 : Value} {x : Int32} (hn : isLg v5 = false) (hd : decode cc pc = .ok (.istore 6, 2)) (hq : pc + 2 = q) (k : G κ rc rs S q (v0 :: v1 :: v2 :: v3 :: v4 :: v5 :: .int x :: ls) st) : G κ rc rs S pc (v0 :: v1 :: v2 :: v3 :: v4 :: v5 :: v6 :: ls) (.int x :: st) := by
  subst hq
  intro ad H locs lsA cells slots hw hl hs
  refine lv_istore C.1.1 C.1.2.1 hd hl.has (lo_lt hl (i := 6) (by simp)) rfl (fun lsB hB => ?_)
  exact k ad H locs lsB cells slots hw (hl.st1 (i := 6) (x := .int x) (Or.inl (by decide)) (by simp) (fun v _ e => by cases e; exact hn) (rb_h hs) hB) (rb_t hs)
theorem g_astore_6 (C : Cx own cc nL ret d ini Φ κ) {v0 v1 v2 v3 v4 v5 v6 : Value} {x : Nat} (hn : isLg v5 = false) (hd : decode cc pc = .ok (.astore 6, 2)) (hq : pc + 2 = q) (k : G κ rc rs S q (v0 :: v1 :: v2 :: v3 :: v4 :: v5 :: .ref x :: ls) st) : G κ rc rs S pc (v0 :: v1 :: v2 :: v3 :: v4 :: v5 :: v6 :: ls) (.ref x :: st) := by
  subst hq
  intro ad H locs lsA cells slots hw hl hs
  refine lv_astore C.1.1 C.1.2.1 hd hl.has (lo_lt hl (i := 6) (by simp)) rfl (fun lsB hB => ?_)
  exact k ad H locs lsB cells slots hw (hl.st1 (i := 6) (x := .ref x) (Or.inl (by decide)) (by simp) (fun v _ e => by cases e; exact hn) (rb_h hs) hB) (rb_t hs)
theorem g_istore_7 (C : Cx own cc nL ret d ini Φ κ) {v0 v1 v2 v3 v4 v5 v6 v7 : Value} {x : Int32} (hn : isLg v6 = false) (hd : decode cc pc = .ok (.istore 7, 2)) (hq : pc + 2 = q) (k : G κ rc rs S q (v0 :: v1 :: v2 :: v3 :: v4 :: v5 :: v6 :: .int x :: ls) st) : G κ rc rs S pc (v0 :: v1 :: v2 :: v3 :: v4 :: v5 :: v6 :: v7 :: ls) (.int x :: st) := by
  subst hq
  intro ad H locs lsA cells slots hw hl hs
  refine lv_istore C.1.1 C.1.2.1 hd hl.has (lo_lt hl (i := 7) (by simp)) rfl (fun lsB hB => ?_)
  exact k ad H locs lsB cells slots hw (hl.st1 (i := 7) (x := .int x) (Or.inl (by decide)) (by simp) (fun v _ e => by cases e; exact hn) (rb_h hs) hB) (rb_t hs)
theorem g_astore_7 (C : Cx own cc nL ret d ini Φ κ) {v0 v1 v2 v3 v4 v5 v6 v7 : Value} {x : Nat} (hn : isLg v6 = false) (hd : decode cc pc = .ok (.astore 7, 2)) (hq : pc + 2 = q) (k : G κ rc rs S q (v0 :: v1 :: v2 :: v3 :: v4 :: v5 :: v6 :: .ref x :: ls) st) : G κ rc rs S pc (v0 :: v1 :: v2 :: v3 :: v4 :: v5 :: v6 :: v7 :: ls) (.ref x :: st) := by
  subst hq
  intro ad H locs lsA cells slots hw hl hs
  refine lv_astore C.1.1 C.1.2.1 hd hl.has (lo_lt hl (i := 7) (by simp)) rfl (fun lsB hB => ?_)
  exact k ad H locs lsB cells slots hw (hl.st1 (i := 7) (x := .ref x) (Or.inl (by decide)) (by simp) (fun v _ e => by cases e; exact hn) (rb_h hs) hB) (rb_t hs)
theorem g_lstore_1 (C : Cx own cc nL ret d ini Φ κ) {v0 v1 v2 : Value} {x : Int64} (hn : isLg v0 = false) (hd : decode cc pc = .ok (.lstore_n 1, 1)) (hq : pc + 1 = q) (k : G κ rc rs S q (v0 :: .long x :: .float 0 :: ls) st) : G κ rc rs S pc (v0 :: v1 :: v2 :: ls) (.long x :: st) := by
  subst hq
  intro ad H locs lsA cells slots hw hl hs
  refine lv_lstore_n C.1.1 C.1.2.1 hd rfl hl.has (lo_lt hl (i := 1 + 1) (by simp)) rfl (fun lsB hB => ?_)
  exact k ad H locs lsB cells slots hw (hl.st2 (i := 1) (x := x) (by decide) (by simp) (fun v _ e => by cases e; exact hn) hB) (rb_t hs)
theorem g_lstore_2 (C : Cx own cc nL ret d ini Φ κ) {v0 v1 v2 v3 : Value} {x : Int64} (hn : isLg v1 = false) (hd : decode cc pc = .ok (.lstore_n 2, 1)) (hq : pc + 1 = q) (k : G κ rc rs S q (v0 :: v1 :: .long x :: .float 0 :: ls) st) : G κ rc rs S pc (v0 :: v1 :: v2 :: v3 :: ls) (.long x :: st) := by
  subst hq
  intro ad H locs lsA cells slots hw hl hs
  refine lv_lstore_n C.1.1 C.1.2.1 hd rfl hl.has (lo_lt hl (i := 2 + 1) (by simp)) rfl (fun lsB hB => ?_)
  exact k ad H locs lsB cells slots hw (hl.st2 (i := 2) (x := x) (by decide) (by simp) (fun v _ e => by cases e; exact hn) hB) (rb_t hs)
theorem g_lstore_3 (C : Cx own cc nL ret d ini Φ κ) {v0 v1 v2 v3 v4 : Value} {x : Int64} (hn : isLg v2 = false) (hd : decode cc pc = .ok (.lstore_n 3, 1)) (hq : pc + 1 = q) (k : G κ rc rs S q (v0 :: v1 :: v2 :: .long x :: .float 0 :: ls) st) : G κ rc rs S pc (v0 :: v1 :: v2 :: v3 :: v4 :: ls) (.long x :: st) := by
  subst hq
  intro ad H locs lsA cells slots hw hl hs
  refine lv_lstore_n C.1.1 C.1.2.1 hd rfl hl.has (lo_lt hl (i := 3 + 1) (by simp)) rfl (fun lsB hB => ?_)
  exact k ad H locs lsB cells slots hw (hl.st2 (i := 3) (x := x) (by decide) (by simp) (fun v _ e => by cases e; exact hn) hB) (rb_t hs)
theorem g_lstore_4 (C : Cx own cc nL ret d ini Φ κ) {v0 v1 v2 v3 v4 v5 : Value} {x : Int64} (hn : isLg v3 = false) (hd : decode cc pc = .ok (.lstore 4, 2)) (hq : pc + 2 = q) (k : G κ rc rs S q (v0 :: v1 :: v2 :: v3 :: .long x :: .float 0 :: ls) st) : G κ rc rs S pc (v0 :: v1 :: v2 :: v3 :: v4 :: v5 :: ls) (.long x :: st) := by
  subst hq
  intro ad H locs lsA cells slots hw hl hs
  refine lv_lstore C.1.1 C.1.2.1 hd hl.has (lo_lt hl (i := 4 + 1) (by simp)) rfl (fun lsB hB => ?_)
  exact k ad H locs lsB cells slots hw (hl.st2 (i := 4) (x := x) (by decide) (by simp) (fun v _ e => by cases e; exact hn) hB) (rb_t hs)
theorem g_lstore_5 (C : Cx own cc nL ret d ini Φ κ) {v0 v1 v2 v3 v4 v5 v6 : Value} {x : Int64} (hn : isLg v4 = false) (hd : decode cc pc = .ok (.lstore 5, 2)) (hq : pc + 2 = q) (k : G κ rc rs S q (v0 :: v1 :: v2 :: v3 :: v4 :: .long x :: .float 0 :: ls) st) : G κ rc rs S pc (v0 :: v1 :: v2 :: v3 :: v4 :: v5 :: v6 :: ls) (.long x :: st) := by
  subst hq
  intro ad H locs lsA cells slots hw hl hs
  refine lv_lstore C.1.1 C.1.2.1 hd hl.has (lo_lt hl (i := 5 + 1) (by simp)) rfl (fun lsB hB => ?_)
  exact k ad H locs lsB cells slots hw (hl.st2 (i := 5) (x := x) (by decide) (by simp) (fun v _ e => by cases e; exact hn) hB) (rb_t hs)
theorem g_lstore_6 (C : Cx own cc nL ret d ini Φ κ) {v0 v1 v2 v3 v4 v5 v6 v7 : Value} {x : Int64} (hn : isLg v5 = false) (hd : decode cc pc = .ok (.lstore 6, 2)) (hq : pc + 2 = q) (k : G κ rc rs S q (v0 :: v1 :: v2 :: v3 :: v4 :: v5 :: .long x :: .float 0 :: ls) st) : G κ rc rs S pc (v0 :: v1 :: v2 :: v3 :: v4 :: v5 :: v6 :: v7 :: ls) (.long x :: st) := by
  subst hq
  intro ad H locs lsA cells slots hw hl hs
  refine lv_lstore C.1.1 C.1.2.1 hd hl.has (lo_lt hl (i := 6 + 1) (by simp)) rfl (fun lsB hB => ?_)
  exact k ad H locs lsB cells slots hw (hl.st2 (i := 6) (x := x) (by decide) (by simp) (fun v _ e => by cases e; exact hn) hB) (rb_t hs)
theorem g_astoreQ_1 (C : Cx own cc nL ret d ini Φ κ) {v0 v1 : Value} {x : Option Nat} (hn : isLg v0 = false) (hd : decode cc pc = .ok (.astore_n 1, 1)) (hq : pc + 1 = q) (k : G κ rc rs S q (v0 :: va_rf x :: ls) st) : G κ rc rs S pc (v0 :: v1 :: ls) (va_rf x :: st) := by
  cases x with
  | some y => exact g_astore_1 C hn hd hq k
  | none =>
    subst hq
    intro ad H locs lsA cells slots hw hl hs
    refine lv_astore_nN C.1.1 C.1.2.1 hd rfl hl.has (lo_lt hl (i := 1) (by simp)) rfl (fun lsB hB => ?_)
    exact k ad H locs lsB cells slots hw (hl.st1 (i := 1) (x := .null) (Or.inl (by decide)) (by simp) (fun v _ e => by cases e; exact hn) trivial hB) (rb_t hs)
theorem g_aloadQ_1 (C : Cx own cc nL ret d ini Φ κ) {v0 : Value} {x : Option Nat} (hd : decode cc pc = .ok (.aload_n 1, 1)) (hq : pc + 1 = q) (k : G κ rc rs S q (v0 :: va_rf x :: ls) (va_rf x :: st)) : G κ rc rs S pc (v0 :: va_rf x :: ls) st := by
  cases x with
  | some y => exact g_aload_1 C hd hq k
  | none =>
    subst hq
    intro ad H locs lsA cells slots hw hl hs
    exact lv_aload_nN C.1.1 C.1.2.1 hd rfl (lo_at hl (i := 1) rfl rfl) (k ad H locs lsA cells slots hw hl (rb_c trivial hs))
theorem g_astoreQ_2 (C : Cx own cc nL ret d ini Φ κ) {v0 v1 v2 : Value} {x : Option Nat} (hn : isLg v1 = false) (hd : decode cc pc = .ok (.astore_n 2, 1)) (hq : pc + 1 = q) (k : G κ rc rs S q (v0 :: v1 :: va_rf x :: ls) st) : G κ rc rs S pc (v0 :: v1 :: v2 :: ls) (va_rf x :: st) := by
  cases x with
  | some y => exact g_astore_2 C hn hd hq k
  | none =>
    subst hq
    intro ad H locs lsA cells slots hw hl hs
    refine lv_astore_nN C.1.1 C.1.2.1 hd rfl hl.has (lo_lt hl (i := 2) (by simp)) rfl (fun lsB hB => ?_)
    exact k ad H locs lsB cells slots hw (hl.st1 (i := 2) (x := .null) (Or.inl (by decide)) (by simp) (fun v _ e => by cases e; exact hn) trivial hB) (rb_t hs)
theorem g_aloadQ_2 (C : Cx own cc nL ret d ini Φ κ) {v0 v1 : Value} {x : Option Nat} (hd : decode cc pc = .ok (.aload_n 2, 1)) (hq : pc + 1 = q) (k : G κ rc rs S q (v0 :: v1 :: va_rf x :: ls) (va_rf x :: st)) : G κ rc rs S pc (v0 :: v1 :: va_rf x :: ls) st := by
  cases x with
  | some y => exact g_aload_2 C hd hq k
  | none =>
    subst hq
    intro ad H locs lsA cells slots hw hl hs
    exact lv_aload_nN C.1.1 C.1.2.1 hd rfl (lo_at hl (i := 2) rfl rfl) (k ad H locs lsA cells slots hw hl (rb_c trivial hs))
theorem g_astoreQ_3 (C : Cx own cc nL ret d ini Φ κ) {v0 v1 v2 v3 : Value} {x : Option Nat} (hn : isLg v2 = false) (hd : decode cc pc = .ok (.astore_n 3, 1)) (hq : pc + 1 = q) (k : G κ rc rs S q (v0 :: v1 :: v2 :: va_rf x :: ls) st) : G κ rc rs S pc (v0 :: v1 :: v2 :: v3 :: ls) (va_rf x :: st) := by
  cases x with
  | some y => exact g_astore_3 C hn hd hq k
  | none =>
    subst hq
    intro ad H locs lsA cells slots hw hl hs
    refine lv_astore_nN C.1.1 C.1.2.1 hd rfl hl.has (lo_lt hl (i := 3) (by simp)) rfl (fun lsB hB => ?_)
    exact k ad H locs lsB cells slots hw (hl.st1 (i := 3) (x := .null) (Or.inl (by decide)) (by simp) (fun v _ e => by cases e; exact hn) trivial hB) (rb_t hs)
theorem g_aloadQ_3 (C : Cx own cc nL ret d ini Φ κ) {v0 v1 v2 : Value} {x : Option Nat} (hd : decode cc pc = .ok (.aload_n 3, 1)) (hq : pc + 1 = q) (k : G κ rc rs S q (v0 :: v1 :: v2 :: va_rf x :: ls) (va_rf x :: st)) : G κ rc rs S pc (v0 :: v1 :: v2 :: va_rf x :: ls) st := by
  cases x with
  | some y => exact g_aload_3 C hd hq k
  | none =>
    subst hq
    intro ad H locs lsA cells slots hw hl hs
    exact lv_aload_nN C.1.1 C.1.2.1 hd rfl (lo_at hl (i := 3) rfl rfl) (k ad H locs lsA cells slots hw hl (rb_c trivial hs))
theorem g_astoreQ_4 (C : Cx own cc nL ret d ini Φ κ) {v0 v1 v2 v3 v4 : Value} {x : Option Nat} (hn : isLg v3 = false) (hd : decode cc pc = .ok (.astore 4, 2)) (hq : pc + 2 = q) (k : G κ rc rs S q (v0 :: v1 :: v2 :: v3 :: va_rf x :: ls) st) : G κ rc rs S pc (v0 :: v1 :: v2 :: v3 :: v4 :: ls) (va_rf x :: st) := by
  cases x with
  | some y => exact g_astore_4 C hn hd hq k
  | none =>
    subst hq
    intro ad H locs lsA cells slots hw hl hs
    refine lv_astoreN C.1.1 C.1.2.1 hd hl.has (lo_lt hl (i := 4) (by simp)) rfl (fun lsB hB => ?_)
    exact k ad H locs lsB cells slots hw (hl.st1 (i := 4) (x := .null) (Or.inl (by decide)) (by simp) (fun v _ e => by cases e; exact hn) trivial hB) (rb_t hs)
theorem g_aloadQ_4 (C : Cx own cc nL ret d ini Φ κ) {v0 v1 v2 v3 : Value} {x : Option Nat} (hd : decode cc pc = .ok (.aload 4, 2)) (hq : pc + 2 = q) (k : G κ rc rs S q (v0 :: v1 :: v2 :: v3 :: va_rf x :: ls) (va_rf x :: st)) : G κ rc rs S pc (v0 :: v1 :: v2 :: v3 :: va_rf x :: ls) st := by
  cases x with
  | some y => exact g_aload_4 C hd hq k
  | none =>
    subst hq
    intro ad H locs lsA cells slots hw hl hs
    exact lv_aloadN C.1.1 C.1.2.1 hd (lo_at hl (i := 4) rfl rfl) (k ad H locs lsA cells slots hw hl (rb_c trivial hs))
theorem g_iinc_0 (C : Cx own cc nL ret d ini Φ κ) {x z : Int32} {n : Int} (hx0 : kx κ = none) (hd : decode cc pc = .ok (.iinc 0 n, 3)) (hq : pc + 3 = q) (hz : Int32.ofInt n = z) (k : G κ rc rs S q (.int (x + z) :: ls) st) : G κ rc rs S pc (.int x :: ls) st := by
  subst hq
  subst hz
  intro ad H locs lsA cells slots hw hl hs
  obtain ⟨j, hj⟩ := List.getElem?_of_mem (List.mem_append_right (lvx κ) ((lvp_mem (ls := .int x :: ls) (ad := ad) (q := (0, Value.int x))).mpr ⟨.int x, rfl, rfl, rfl⟩))
  refine lv_iinc C.1.1 C.1.2.1 hd hl.has hj rfl (lo_lt hl (i := 0) (by simp)) rfl (fun lsB hB => ?_)
  exact k ad H locs lsB cells slots hw (hl.st1 (i := 0) (x := .int (x + Int32.ofInt n)) (Or.inr hx0) (by simp) (fun v h _ => absurd h (Nat.lt_irrefl 0)) trivial hB) hs
theorem g_iinc_1 (C : Cx own cc nL ret d ini Φ κ) {v0 : Value} {x z : Int32} {n : Int} (hn : isLg v0 = false) (hd : decode cc pc = .ok (.iinc 1 n, 3)) (hq : pc + 3 = q) (hz : Int32.ofInt n = z) (k : G κ rc rs S q (v0 :: .int (x + z) :: ls) st) : G κ rc rs S pc (v0 :: .int x :: ls) st := by
  subst hq
  subst hz
  intro ad H locs lsA cells slots hw hl hs
  obtain ⟨j, hj⟩ := List.getElem?_of_mem (List.mem_append_right (lvx κ) ((lvp_mem (ls := v0 :: .int x :: ls) (ad := ad) (q := (1, Value.int x))).mpr ⟨.int x, rfl, rfl, rfl⟩))
  refine lv_iinc C.1.1 C.1.2.1 hd hl.has hj rfl (lo_lt hl (i := 1) (by simp)) rfl (fun lsB hB => ?_)
  exact k ad H locs lsB cells slots hw (hl.st1 (i := 1) (x := .int (x + Int32.ofInt n)) (Or.inl (by decide)) (by simp) (fun v _ e => by cases e; exact hn) trivial hB) hs
theorem g_iinc_2 (C : Cx own cc nL ret d ini Φ κ) {v0 v1 : Value} {x z : Int32} {n : Int} (hn : isLg v1 = false) (hd : decode cc pc = .ok (.iinc 2 n, 3)) (hq : pc + 3 = q) (hz : Int32.ofInt n = z) (k : G κ rc rs S q (v0 :: v1 :: .int (x + z) :: ls) st) : G κ rc rs S pc (v0 :: v1 :: .int x :: ls) st := by
  subst hq
  subst hz
  intro ad H locs lsA cells slots hw hl hs
  obtain ⟨j, hj⟩ := List.getElem?_of_mem (List.mem_append_right (lvx κ) ((lvp_mem (ls := v0 :: v1 :: .int x :: ls) (ad := ad) (q := (2, Value.int x))).mpr ⟨.int x, rfl, rfl, rfl⟩))
  refine lv_iinc C.1.1 C.1.2.1 hd hl.has hj rfl (lo_lt hl (i := 2) (by simp)) rfl (fun lsB hB => ?_)
  exact k ad H locs lsB cells slots hw (hl.st1 (i := 2) (x := .int (x + Int32.ofInt n)) (Or.inl (by decide)) (by simp) (fun v _ e => by cases e; exact hn) trivial hB) hs
theorem g_iinc_3 (C : Cx own cc nL ret d ini Φ κ) {v0 v1 v2 : Value} {x z : Int32} {n : Int} (hn : isLg v2 = false) (hd : decode cc pc = .ok (.iinc 3 n, 3)) (hq : pc + 3 = q) (hz : Int32.ofInt n = z) (k : G κ rc rs S q (v0 :: v1 :: v2 :: .int (x + z) :: ls) st) : G κ rc rs S pc (v0 :: v1 :: v2 :: .int x :: ls) st := by
  subst hq
  subst hz
  intro ad H locs lsA cells slots hw hl hs
  obtain ⟨j, hj⟩ := List.getElem?_of_mem (List.mem_append_right (lvx κ) ((lvp_mem (ls := v0 :: v1 :: v2 :: .int x :: ls) (ad := ad) (q := (3, Value.int x))).mpr ⟨.int x, rfl, rfl, rfl⟩))
  refine lv_iinc C.1.1 C.1.2.1 hd hl.has hj rfl (lo_lt hl (i := 3) (by simp)) rfl (fun lsB hB => ?_)
  exact k ad H locs lsB cells slots hw (hl.st1 (i := 3) (x := .int (x + Int32.ofInt n)) (Or.inl (by decide)) (by simp) (fun v _ e => by cases e; exact hn) trivial hB) hs
theorem g_iinc_4 (C : Cx own cc nL ret d ini Φ κ) {v0 v1 v2 v3 : Value} {x z : Int32} {n : Int} (hn : isLg v3 = false) (hd : decode cc pc = .ok (.iinc 4 n, 3)) (hq : pc + 3 = q) (hz : Int32.ofInt n = z) (k : G κ rc rs S q (v0 :: v1 :: v2 :: v3 :: .int (x + z) :: ls) st) : G κ rc rs S pc (v0 :: v1 :: v2 :: v3 :: .int x :: ls) st := by
  subst hq
  subst hz
  intro ad H locs lsA cells slots hw hl hs
  obtain ⟨j, hj⟩ := List.getElem?_of_mem (List.mem_append_right (lvx κ) ((lvp_mem (ls := v0 :: v1 :: v2 :: v3 :: .int x :: ls) (ad := ad) (q := (4, Value.int x))).mpr ⟨.int x, rfl, rfl, rfl⟩))
  refine lv_iinc C.1.1 C.1.2.1 hd hl.has hj rfl (lo_lt hl (i := 4) (by simp)) rfl (fun lsB hB => ?_)
  exact k ad H locs lsB cells slots hw (hl.st1 (i := 4) (x := .int (x + Int32.ofInt n)) (Or.inl (by decide)) (by simp) (fun v _ e => by cases e; exact hn) trivial hB) hs
theorem g_iinc_5 (C : Cx own cc nL ret d ini Φ κ) {v0 v1 v2 v3 v4 : Value} {x z : Int32} {n : Int} (hn : isLg v4 = false) (hd : decode cc pc = .ok (.iinc 5 n, 3)) (hq : pc + 3 = q) (hz : Int32.ofInt n = z) (k : G κ rc rs S q (v0 :: v1 :: v2 :: v3 :: v4 :: .int (x + z) :: ls) st) : G κ rc rs S pc (v0 :: v1 :: v2 :: v3 :: v4 :: .int x :: ls) st := by
  subst hq
  subst hz
  intro ad H locs lsA cells slots hw hl hs
  obtain ⟨j, hj⟩ := List.getElem?_of_mem (List.mem_append_right (lvx κ) ((lvp_mem (ls := v0 :: v1 :: v2 :: v3 :: v4 :: .int x :: ls) (ad := ad) (q := (5, Value.int x))).mpr ⟨.int x, rfl, rfl, rfl⟩))
  refine lv_iinc C.1.1 C.1.2.1 hd hl.has hj rfl (lo_lt hl (i := 5) (by simp)) rfl (fun lsB hB => ?_)
  exact k ad H locs lsB cells slots hw (hl.st1 (i := 5) (x := .int (x + Int32.ofInt n)) (Or.inl (by decide)) (by simp) (fun v _ e => by cases e; exact hn) trivial hB) hs
theorem g_iinc_6 (C : Cx own cc nL ret d ini Φ κ) {v0 v1 v2 v3 v4 v5 : Value} {x z : Int32} {n : Int} (hn : isLg v5 = false) (hd : decode cc pc = .ok (.iinc 6 n, 3)) (hq : pc + 3 = q) (hz : Int32.ofInt n = z) (k : G κ rc rs S q (v0 :: v1 :: v2 :: v3 :: v4 :: v5 :: .int (x + z) :: ls) st) : G κ rc rs S pc (v0 :: v1 :: v2 :: v3 :: v4 :: v5 :: .int x :: ls) st := by
  subst hq
  subst hz
  intro ad H locs lsA cells slots hw hl hs
  obtain ⟨j, hj⟩ := List.getElem?_of_mem (List.mem_append_right (lvx κ) ((lvp_mem (ls := v0 :: v1 :: v2 :: v3 :: v4 :: v5 :: .int x :: ls) (ad := ad) (q := (6, Value.int x))).mpr ⟨.int x, rfl, rfl, rfl⟩))
  refine lv_iinc C.1.1 C.1.2.1 hd hl.has hj rfl (lo_lt hl (i := 6) (by simp)) rfl (fun lsB hB => ?_)
  exact k ad H locs lsB cells slots hw (hl.st1 (i := 6) (x := .int (x + Int32.ofInt n)) (Or.inl (by decide)) (by simp) (fun v _ e => by cases e; exact hn) trivial hB) hs
theorem g_iinc_7 (C : Cx own cc nL ret d ini Φ κ) {v0 v1 v2 v3 v4 v5 v6 : Value} {x z : Int32} {n : Int} (hn : isLg v6 = false) (hd : decode cc pc = .ok (.iinc 7 n, 3)) (hq : pc + 3 = q) (hz : Int32.ofInt n = z) (k : G κ rc rs S q (v0 :: v1 :: v2 :: v3 :: v4 :: v5 :: v6 :: .int (x + z) :: ls) st) : G κ rc rs S pc (v0 :: v1 :: v2 :: v3 :: v4 :: v5 :: v6 :: .int x :: ls) st := by
  subst hq
  subst hz
  intro ad H locs lsA cells slots hw hl hs
  obtain ⟨j, hj⟩ := List.getElem?_of_mem (List.mem_append_right (lvx κ) ((lvp_mem (ls := v0 :: v1 :: v2 :: v3 :: v4 :: v5 :: v6 :: .int x :: ls) (ad := ad) (q := (7, Value.int x))).mpr ⟨.int x, rfl, rfl, rfl⟩))
  refine lv_iinc C.1.1 C.1.2.1 hd hl.has hj rfl (lo_lt hl (i := 7) (by simp)) rfl (fun lsB hB => ?_)
  exact k ad H locs lsB cells slots hw (hl.st1 (i := 7) (x := .int (x + Int32.ofInt n)) (Or.inl (by decide)) (by simp) (fun v _ e => by cases e; exact hn) trivial hB) hs
end ROWS
