/-! pure rows: numbers and bits -/
theorem n_lt {a b : Nat} (h : ¬ (nI b ≤ nI a)) (ha : a < 2147483648) (hb : b < 2147483648) : a < b := by
  have := mt (nI_leI (a := b) (b := a) hb ha).mpr h
  omega
theorem n_ge {a b : Nat} (h : nI b ≤ nI a) (ha : a < 2147483648) (hb : b < 2147483648) : b ≤ a := (nI_leI (a := b) (b := a) hb ha).mp h
theorem n_lt' {a b : Nat} (h : nI a < nI b) (ha : a < 2147483648) (hb : b < 2147483648) : a < b := (nI_ltI ha hb).mp h
theorem n_nlt {a b : Nat} (h : ¬ nI a < nI b) (ha : a < 2147483648) (hb : b < 2147483648) : b ≤ a := by
  have := mt (nI_ltI ha hb).mpr h
  omega
theorem n_eq {a b : Nat} (h : nI a = nI b) (ha : a < 2147483648) (hb : b < 2147483648) : a = b := (nI_eq ha hb).mp h
theorem n_in {k N : Nat} (h : k < N) (hN : N < 2147483648) : vp_in (nI k) N := vp_in_nI h hN
theorem nf_t {x : Bool} (h : ¬ x = false) : x = true := by
  cases x
  · exact absurd rfl h
  · rfl
def bt (x : Int32) (i : Nat) : Bool := x.toBitVec.getLsbD i
theorem b_ext {x y : Int32} (h : ∀ i, i < 32 → bt x i = bt y i) : x = y := Int32.toBitVec_inj.mp (BitVec.eq_of_getLsbD_eq (fun i hi => h i hi))
theorem b_or (x y : Int32) (i : Nat) : bt (x ||| y) i = (bt x i || bt y i) := by unfold bt; rw [Int32.toBitVec_or, BitVec.getLsbD_or]
theorem b_and (x y : Int32) (i : Nat) : bt (x &&& y) i = (bt x i && bt y i) := by unfold bt; rw [Int32.toBitVec_and, BitVec.getLsbD_and]
theorem b_xor (x y : Int32) (i : Nat) : bt (x ^^^ y) i = (bt x i ^^ bt y i) := by unfold bt; rw [Int32.toBitVec_xor, BitVec.getLsbD_xor]
theorem b_big {x : Int32} {i : Nat} (h : 32 ≤ i) : bt x i = false := BitVec.getLsbD_of_ge _ _ h
theorem b_m1 : ∀ i, i < 32 → bt (-1) i = true := by decide +kernel
theorem b_0 (i : Nat) : bt 0 i = false := BitVec.getLsbD_zero
theorem b_1 : ∀ i, i < 32 → bt 1 i = decide (i = 0) := by decide +kernel
theorem s_l : ∀ n, n < 32 → ((nI n &&& 31).toBitVec.smod 32).toNat = n := by decide +kernel
theorem b_shl (n : Nat) (hn : n < 32) (x : Int32) {i : Nat} (hi : i < 32) : bt (x <<< (nI n &&& 31)) i = (decide (n ≤ i) && bt x (i - n)) := by
  unfold bt
  rw [Int32.toBitVec_shiftLeft]
  show (x.toBitVec <<< ((nI n &&& 31).toBitVec.smod 32).toNat).getLsbD i = _
  rw [s_l n hn, BitVec.getLsbD_shiftLeft]
  rcases Nat.lt_or_ge i n with h | h
  · simp [h, Nat.not_le.mpr h]
  · simp [hi, h, Nat.not_lt.mpr h]
theorem b_sshr (n : Nat) (hn : n < 32) (x : Int32) {i : Nat} (hi : i < 32) : bt (x >>> (nI n &&& 31)) i = if n + i < 32 then bt x (n + i) else bt x 31 := by
  unfold bt
  rw [Int32.toBitVec_shiftRight]
  show (x.toBitVec.sshiftRight ((nI n &&& 31).toBitVec.smod 32).toNat).getLsbD i = _
  rw [s_l n hn, BitVec.getLsbD_sshiftRight, BitVec.msb_eq_getLsbD_last]
  simp [hi]
/-- bit k of x as a number -/
def bitI (x k : Int32) : Int32 := (x >>> (k &&& 31)) &&& 1
def hasB (x k : Int32) : Bool := decide (bitI x k = 1)
theorem bitI_bt {x : Int32} {n : Nat} (hn : n < 32) : bitI x (nI n) = bI (bt x n) := by
  apply b_ext
  intro i hi
  unfold bitI
  rw [b_and, b_sshr n hn x hi, b_1 i hi]
  have hz : ∀ b : Bool, bt (bI b) i = (b && decide (i = 0)) := by
    intro b
    cases b
    · show bt 0 i = _
      rw [b_0]; rfl
    · show bt 1 i = _
      rw [b_1 i hi]; rfl
  rw [hz]
  by_cases h0 : i = 0
  · subst h0
    rw [Nat.add_zero, if_pos hn]
  · simp [h0]
theorem bI_1 (b : Bool) : (bI b = 1) ↔ b = true := by cases b <;> decide
theorem bI_0 (b : Bool) : (bI b = 0) ↔ b = false := by cases b <;> decide
theorem bI_inj {a b : Bool} (h : bI a = bI b) : a = b := by cases a <;> cases b <;> first | rfl | exact absurd h (by decide)
theorem hasB_bt {x : Int32} {n : Nat} (hn : n < 32) : hasB x (nI n) = bt x n := by
  unfold hasB
  rw [bitI_bt hn]
  cases bt x n <;> decide
/-- the word of one bit -/
def one (k : Int32) : Int32 := 1 <<< (k &&& 31)
theorem bt_one {n i : Nat} (hn : n < 32) (hi : i < 32) : bt (one (nI n)) i = decide (i = n) := by
  unfold one
  rw [b_shl n hn 1 hi, b_1 _ (by omega)]
  by_cases h : n ≤ i
  · simp [h]
    constructor <;> intro h2 <;> omega
  · simp [h]
    omega
/-- x is a part of y -/
def sub (x y : Int32) : Prop := x &&& (y ^^^ (-1)) = 0
theorem sub_iff {x y : Int32} : sub x y ↔ ∀ i, i < 32 → bt x i = true → bt y i = true := by
  constructor
  · intro h i hi hx
    have h1 : bt (x &&& (y ^^^ (-1))) i = false := by rw [show x &&& (y ^^^ (-1)) = 0 from h]; exact b_0 i
    rw [b_and, b_xor, b_m1 i hi, hx] at h1
    cases hb : bt y i
    · rw [hb] at h1; cases h1
    · rfl
  · intro h
    apply b_ext
    intro i hi
    rw [b_and, b_xor, b_m1 i hi, b_0]
    cases hx : bt x i
    · rfl
    · rw [h i hi hx]; rfl
theorem sub_refl (x : Int32) : sub x x := sub_iff.mpr (fun _ _ h => h)
theorem sub_trans {x y z : Int32} (h1 : sub x y) (h2 : sub y z) : sub x z := sub_iff.mpr (fun i hi h => sub_iff.mp h2 i hi (sub_iff.mp h1 i hi h))
theorem sub_anti {x y : Int32} (h1 : sub x y) (h2 : sub y x) : x = y := b_ext (fun i hi => by
  cases hx : bt x i
  · cases hy : bt y i
    · rfl
    · rw [sub_iff.mp h2 i hi hy] at hx; cases hx
  · rw [sub_iff.mp h1 i hi hx])
theorem sub_or_left (x y : Int32) : sub x (x ||| y) := sub_iff.mpr (fun i _ h => by rw [b_or, h]; rfl)
theorem sub_or_right (x y : Int32) : sub y (x ||| y) := sub_iff.mpr (fun i _ h => by rw [b_or, h, Bool.or_true])
theorem or_sub {x y z : Int32} (h1 : sub x z) (h2 : sub y z) : sub (x ||| y) z := sub_iff.mpr (fun i hi h => by
  rw [b_or] at h
  rcases Bool.or_eq_true _ _ |>.mp h with h | h
  · exact sub_iff.mp h1 i hi h
  · exact sub_iff.mp h2 i hi h)
theorem sub_one {n : Nat} (hn : n < 32) {y : Int32} : sub (one (nI n)) y ↔ bt y n = true := by
  rw [sub_iff]
  constructor
  · intro h
    exact h n hn (by rw [bt_one hn hn]; simp)
  · intro h i hi hb
    rw [bt_one hn hi] at hb
    have : i = n := of_decide_eq_true hb
    rw [this]; exact h
/-- the bits below n, counted -/
def cntI (x : Int32) : Nat → Int32
  | 0 => 0
  | n + 1 => cntI x n + bitI x (nI n)
theorem l32_le {a b : Int32} : a.toInt64 ≤ b.toInt64 ↔ a ≤ b := by
  rw [Int64.le_iff_toInt_le, Int32.le_iff_toInt_le]
  simp
theorem lg_lt (x y : Int64) : lg_cmp x y < 0 ↔ ¬ y ≤ x := by
  rw [← lg_cmp_ge, Int32.lt_iff_toInt_lt, Int32.le_iff_toInt_le]
  omega
theorem lg_gt (x y : Int64) : 0 < lg_cmp x y ↔ ¬ x ≤ y := by
  unfold lg_cmp
  by_cases h1 : x > y
  · rw [if_pos h1]
    constructor
    · intro _ h2
      rw [gt_iff_lt, Int64.lt_iff_toInt_lt] at h1
      rw [Int64.le_iff_toInt_le] at h2
      omega
    · intro _; decide
  · rw [if_neg h1]
    have h3 : x ≤ y := by
      rw [gt_iff_lt, Int64.lt_iff_toInt_lt] at h1
      rw [Int64.le_iff_toInt_le]
      omega
    by_cases h2 : x = y
    · rw [if_pos h2]
      exact ⟨fun h => absurd h (by decide), fun h => absurd h3 h⟩
    · rw [if_neg h2]
      exact ⟨fun h => absurd h (by decide), fun h => absurd h3 h⟩
def inL (v a b : Int64) : Bool := decide (a ≤ v ∧ v ≤ b)
/-- a word lies between two -/
def inI (v a b : Int32) : Bool := decide (a ≤ v ∧ v ≤ b)
theorem inL_32 (v a b : Int32) : inL v.toInt64 a.toInt64 b.toInt64 = inI v a b := by
  unfold inL inI
  simp only [l32_le]

set_option maxHeartbeats 4000000 in
set_option maxRecDepth 20000 in
theorem ok_X8_in (v a b : Int64) (S : Mem) : Ok yX8_in cX8_in 6 (some .boolean) 0 0 0 [.long v, .long a, .long b] S (RI (bI (inL v a b)) S) := by
  refine Ok.of (by decide) (Nat.le_of_ble_eq_true rfl) rfl (fun κ C hx => ?_)
  have C : Cx RX8 cX8_in 6 (some .boolean) 0 false _ κ := C
  refine g_lload_0 C dX8_in_0 rfl ?_
  refine g_lload_2 C dX8_in_1 rfl ?_
  refine g_lcmp C dX8_in_2 rfl ?_
  refine g_if_lt (tgt := 17) C dX8_in_3 rfl (by decide) (fun h3 => ?_) (fun h3 => ?_)
  · skip
    refine g_iconst (v := 0) C dX8_in_17 rfl (by decide) ?_
    exact g_zret C rfl dX8_in_18 (by first | exact Or.inl rfl | exact Or.inr rfl | exact bI_01 _) ⟨by rw [show inL v a b = false from decide_eq_false (fun h => (lg_lt _ _).mp h3 h.1)]; rfl, rfl⟩
  · skip
    refine g_lload_0 C dX8_in_6 rfl ?_
    refine g_lload_4 C dX8_in_7 rfl ?_
    refine g_lcmp C dX8_in_9 rfl ?_
    refine g_if_gt (tgt := 17) C dX8_in_10 rfl (by decide) (fun h10 => ?_) (fun h10 => ?_)
    · skip
      refine g_iconst (v := 0) C dX8_in_17 rfl (by decide) ?_
      exact g_zret C rfl dX8_in_18 (by first | exact Or.inl rfl | exact Or.inr rfl | exact bI_01 _) ⟨by rw [show inL v a b = false from decide_eq_false (fun h => (lg_gt _ _).mp h10 h.2)]; rfl, rfl⟩
    · skip
      refine g_iconst (v := 1) C dX8_in_13 rfl (by decide) ?_
      refine g_goto (tgt := 18) C dX8_in_14 (by decide) ?_
      exact g_zret C rfl dX8_in_18 (by first | exact Or.inl rfl | exact Or.inr rfl | exact bI_01 _) ⟨by rw [show inL v a b = true from decide_eq_true ⟨Classical.not_not.mp (fun h => h3 ((lg_lt _ _).mpr h)), Classical.not_not.mp (fun h => h10 ((lg_gt _ _).mpr h))⟩]; rfl, rfl⟩

set_option maxHeartbeats 4000000 in
set_option maxRecDepth 20000 in
theorem ok_X8_has (x k : Int32) (S : Mem) : Ok yX8_has cX8_has 2 (some .boolean) 0 0 0 [.int x, .int k] S (RI (bI (hasB x k)) S) := by
  refine Ok.of (by decide) (Nat.le_of_ble_eq_true rfl) rfl (fun κ C hx => ?_)
  have C : Cx RX8 cX8_has 2 (some .boolean) 0 false _ κ := C
  refine g_iload_0 C dX8_has_0 rfl ?_
  refine g_iload_1 C dX8_has_1 rfl ?_
  refine g_ishr C dX8_has_2 rfl ?_
  refine g_iconst (v := 1) C dX8_has_3 rfl (by decide) ?_
  refine g_iand C dX8_has_4 rfl ?_
  refine g_iconst (v := 1) C dX8_has_5 rfl (by decide) ?_
  refine g_icmp_ne (tgt := 13) C dX8_has_6 rfl (by decide) (fun h6 => ?_) (fun h6 => ?_)
  · skip
    refine g_iconst (v := 0) C dX8_has_13 rfl (by decide) ?_
    exact g_zret C rfl dX8_has_14 (by first | exact Or.inl rfl | exact Or.inr rfl | exact bI_01 _) ⟨by rw [show hasB x k = false from decide_eq_false h6]; rfl, rfl⟩
  · skip
    refine g_iconst (v := 1) C dX8_has_9 rfl (by decide) ?_
    refine g_goto (tgt := 14) C dX8_has_10 (by decide) ?_
    exact g_zret C rfl dX8_has_14 (by first | exact Or.inl rfl | exact Or.inr rfl | exact bI_01 _) ⟨by rw [show hasB x k = true from decide_eq_true h6]; rfl, rfl⟩

set_option maxHeartbeats 4000000 in
set_option maxRecDepth 20000 in
theorem lp_X8_bits {κ : Kx} {Φ : Option Value → Mem → Prop} (C : Cx RX8 cX8_bits 3 (some .int) 0 false Φ κ) (S : Mem) (x : Int32) (hΦ : Φ (some (.int (cntI x 16))) S) : ∀ (n k : Nat), k ≤ 16 → 17 ≤ k + n → G κ 0 0 S 4 [.int x, .int (cntI x k), .int (nI k)] [] := by
  intro n
  induction n with
  | zero => intro k h1 h2; exact absurd h2 (by omega)
  | succ n ih =>
    intro k h1 h2
    refine g_iload_2 C dX8_bits_4 rfl ?_
    refine g_bipush (v := 16) C dX8_bits_5 rfl (by decide) ?_
    refine g_icmp_ge (tgt := 24) C dX8_bits_7 rfl (by decide) (fun h7 => ?_) (fun h7 => ?_)
    · skip
      have hk := n_ge (b := 16) h7 (by omega) (by omega)
      have hk : k = 16 := by omega
      subst hk
      refine g_iload_1 C dX8_bits_24 rfl ?_
      exact g_iret C rfl dX8_bits_25 hΦ
    · skip
      refine g_iload_1 C dX8_bits_10 rfl ?_
      refine g_iload_0 C dX8_bits_11 rfl ?_
      refine g_iload_2 C dX8_bits_12 rfl ?_
      refine g_ishr C dX8_bits_13 rfl ?_
      refine g_iconst (v := 1) C dX8_bits_14 rfl (by decide) ?_
      refine g_iand C dX8_bits_15 rfl ?_
      refine g_iadd C dX8_bits_16 rfl ?_
      refine g_istore_1 C rfl dX8_bits_17 rfl ?_
      refine g_iinc_2 (z := 1) C rfl dX8_bits_18 rfl (by decide) ?_
      refine g_goto (tgt := 4) C dX8_bits_21 (by decide) ?_
      rw [nI_1]
      have hk := n_lt (b := 16) h7 (by omega) (by omega)
      exact ih (k + 1) (by omega) (by omega)

set_option maxHeartbeats 4000000 in
set_option maxRecDepth 20000 in
theorem ok_X8_bits (x : Int32) (S : Mem) : Ok yX8_bits cX8_bits 3 (some .int) 0 0 0 [.int x] S (RI (cntI x 16) S) := by
  refine Ok.of (by decide) (Nat.le_of_ble_eq_true rfl) rfl (fun κ C hx => ?_)
  have C : Cx RX8 cX8_bits 3 (some .int) 0 false _ κ := C
  refine g_iconst (v := 0) C dX8_bits_0 rfl (by decide) ?_
  refine g_istore_1 C rfl dX8_bits_1 rfl ?_
  refine g_iconst (v := 0) C dX8_bits_2 rfl (by decide) ?_
  refine g_istore_2 C rfl dX8_bits_3 rfl ?_
  exact lp_X8_bits C S x ⟨rfl, rfl⟩ 17 0 (by omega) (by omega)

def sayB (th s : Int32) : Bool := inI s 0 (2 * th - 1)
def setB (th s : Int32) : Bool := inI s 0 (one (2 * th) - 1)
def rulB (nr s : Int32) : Bool := inI s 0 (nr - 1)
set_option maxHeartbeats 4000000 in
set_option maxRecDepth 20000 in
theorem ok_X8_isSaying (s : Int32) (S : Mem) : Ok yX8_isSaying cX8_isSaying 2 (some .boolean) 1 0 0 [.ref 25, .int s] S (RI (bI (sayB (mI S 25 0) s)) S) := by
  refine Ok.of (by decide) (Nat.le_of_ble_eq_true rfl) rfl (fun κ C hx => ?_)
  have C : Cx RX8 cX8_isSaying 2 (some .boolean) 1 false _ κ := C
  refine g_iload_1 C dX8_isSaying_0 rfl ?_
  refine g_i2l C dX8_isSaying_1 rfl ?_
  refine g_lconst (v := 0) C dX8_isSaying_2 rfl (by decide) ?_
  refine g_iconst (v := 2) C dX8_isSaying_3 rfl (by decide) ?_
  refine g_aload_0 C dX8_isSaying_4 rfl ?_
  refine g_geti C 0 dX8_isSaying_5 rfl rfl rfl fl_X8_70 ?_
  refine g_imul C dX8_isSaying_8 rfl ?_
  refine g_iconst (v := 1) C dX8_isSaying_9 rfl (by decide) ?_
  refine g_isub C dX8_isSaying_10 rfl ?_
  refine g_i2l C dX8_isSaying_11 rfl ?_
  refine g_cS3i C dX8_isSaying_12 rfl ml_X8_73 mz_X8_in (ok_X8_in _ _ _ _) (by decide) rfl rfl (Nat.le_of_ble_eq_true rfl) (fun hn12 => ?_)
  exact g_zret C rfl dX8_isSaying_15 (by first | exact Or.inl rfl | exact Or.inr rfl | exact bI_01 _) ⟨congrArg (fun b => some (Value.int (bI b))) (inL_32 _ 0 _), rfl⟩

set_option maxHeartbeats 4000000 in
set_option maxRecDepth 20000 in
theorem ok_X8_isSet (s : Int32) (S : Mem) : Ok yX8_isSet cX8_isSet 2 (some .boolean) 1 0 0 [.ref 25, .int s] S (RI (bI (setB (mI S 25 0) s)) S) := by
  refine Ok.of (by decide) (Nat.le_of_ble_eq_true rfl) rfl (fun κ C hx => ?_)
  have C : Cx RX8 cX8_isSet 2 (some .boolean) 1 false _ κ := C
  refine g_iload_1 C dX8_isSet_0 rfl ?_
  refine g_i2l C dX8_isSet_1 rfl ?_
  refine g_lconst (v := 0) C dX8_isSet_2 rfl (by decide) ?_
  refine g_iconst (v := 1) C dX8_isSet_3 rfl (by decide) ?_
  refine g_iconst (v := 2) C dX8_isSet_4 rfl (by decide) ?_
  refine g_aload_0 C dX8_isSet_5 rfl ?_
  refine g_geti C 0 dX8_isSet_6 rfl rfl rfl fl_X8_70 ?_
  refine g_imul C dX8_isSet_9 rfl ?_
  refine g_ishl C dX8_isSet_10 rfl ?_
  refine g_iconst (v := 1) C dX8_isSet_11 rfl (by decide) ?_
  refine g_isub C dX8_isSet_12 rfl ?_
  refine g_i2l C dX8_isSet_13 rfl ?_
  refine g_cS3i C dX8_isSet_14 rfl ml_X8_73 mz_X8_in (ok_X8_in _ _ _ _) (by decide) rfl rfl (Nat.le_of_ble_eq_true rfl) (fun hn14 => ?_)
  exact g_zret C rfl dX8_isSet_17 (by first | exact Or.inl rfl | exact Or.inr rfl | exact bI_01 _) ⟨congrArg (fun b => some (Value.int (bI b))) (inL_32 _ 0 _), rfl⟩

set_option maxHeartbeats 4000000 in
set_option maxRecDepth 20000 in
theorem ok_X8_isRule (s : Int32) (S : Mem) : Ok yX8_isRule cX8_isRule 2 (some .boolean) 1 0 0 [.ref 25, .int s] S (RI (bI (rulB (mI S 25 1) s)) S) := by
  refine Ok.of (by decide) (Nat.le_of_ble_eq_true rfl) rfl (fun κ C hx => ?_)
  have C : Cx RX8 cX8_isRule 2 (some .boolean) 1 false _ κ := C
  refine g_iload_1 C dX8_isRule_0 rfl ?_
  refine g_i2l C dX8_isRule_1 rfl ?_
  refine g_lconst (v := 0) C dX8_isRule_2 rfl (by decide) ?_
  refine g_aload_0 C dX8_isRule_3 rfl ?_
  refine g_geti C 1 dX8_isRule_4 rfl rfl rfl fl_X8_77 ?_
  refine g_iconst (v := 1) C dX8_isRule_7 rfl (by decide) ?_
  refine g_isub C dX8_isRule_8 rfl ?_
  refine g_i2l C dX8_isRule_9 rfl ?_
  refine g_cS3i C dX8_isRule_10 rfl ml_X8_73 mz_X8_in (ok_X8_in _ _ _ _) (by decide) rfl rfl (Nat.le_of_ble_eq_true rfl) (fun hn10 => ?_)
  exact g_zret C rfl dX8_isRule_13 (by first | exact Or.inl rfl | exact Or.inr rfl | exact bI_01 _) ⟨congrArg (fun b => some (Value.int (bI b))) (inL_32 _ 0 _), rfl⟩

def denI (s : Int32) : Int32 := if s - s / 2 * 2 = 0 then s + 1 else s - 1
set_option maxHeartbeats 4000000 in
set_option maxRecDepth 20000 in
theorem ok_X8_denial (s : Int32) (S : Mem) : Ok yX8_denial cX8_denial 1 (some .int) 0 0 0 [.int s] S (RI (denI s) S) := by
  refine Ok.of (by decide) (Nat.le_of_ble_eq_true rfl) rfl (fun κ C hx => ?_)
  have C : Cx RX8 cX8_denial 1 (some .int) 0 false _ κ := C
  refine g_iload_0 C dX8_denial_0 rfl ?_
  refine g_iconst (v := 2) C dX8_denial_1 rfl (by decide) ?_
  refine g_irem C dX8_denial_2 rfl (by decide) ?_
  refine g_if_ne (tgt := 12) C dX8_denial_3 rfl (by decide) (fun h3 => ?_) (fun h3 => ?_)
  · skip
    refine g_iload_0 C dX8_denial_12 rfl ?_
    refine g_iconst (v := 1) C dX8_denial_13 rfl (by decide) ?_
    refine g_isub C dX8_denial_14 rfl ?_
    exact g_iret C rfl dX8_denial_15 ⟨by rw [show denI s = _ from if_neg h3], rfl⟩
  · skip
    refine g_iload_0 C dX8_denial_6 rfl ?_
    refine g_iconst (v := 1) C dX8_denial_7 rfl (by decide) ?_
    refine g_iadd C dX8_denial_8 rfl ?_
    refine g_goto (tgt := 15) C dX8_denial_9 (by decide) ?_
    exact g_iret C rfl dX8_denial_15 ⟨by rw [show denI s = _ from if_pos h3], rfl⟩

set_option maxHeartbeats 4000000 in
set_option maxRecDepth 20000 in
theorem ok_X8_fails (n a : Int32) (S : Mem) : Ok yX8_fails cX8_fails 3 (some .int) 0 0 0 [.ref 25, .int n, .int a] S (RI n (sI S 25 9 a)) := by
  refine Ok.of (by decide) (Nat.le_of_ble_eq_true rfl) rfl (fun κ C hx => ?_)
  have C : Cx RX8 cX8_fails 3 (some .int) 0 false _ κ := C
  refine g_aload_0 C dX8_fails_0 rfl ?_
  refine g_iload_2 C dX8_fails_1 rfl ?_
  refine g_puti C 9 dX8_fails_2 rfl rfl rfl (Or.inl rfl) fl_X8_25 ?_
  refine g_iload_1 C dX8_fails_5 rfl ?_
  exact g_iret C rfl dX8_fails_6 ⟨rfl, rfl⟩

set_option maxHeartbeats 4000000 in
set_option maxRecDepth 20000 in
theorem ok_X8_fault (S : Mem) : Ok yX8_fault cX8_fault 1 (some .int) 0 0 0 [.ref 25] S (RI (mI S 25 9) S) := by
  refine Ok.of (by decide) (Nat.le_of_ble_eq_true rfl) rfl (fun κ C hx => ?_)
  have C : Cx RX8 cX8_fault 1 (some .int) 0 false _ κ := C
  refine g_aload_0 C dX8_fault_0 rfl ?_
  refine g_geti C 9 dX8_fault_1 rfl rfl rfl fl_X8_25 ?_
  exact g_iret C rfl dX8_fault_4 ⟨rfl, rfl⟩

def withI (x k b : Int32) : Int32 := if b = 0 then x &&& (one k ^^^ (-1)) else x ||| one k
set_option maxHeartbeats 4000000 in
set_option maxRecDepth 20000 in
theorem ok_X8_with (x k b : Int32) (S : Mem) : Ok yX8_with cX8_with 3 (some .int) 0 0 0 [.int x, .int k, .int b] S (RI (withI x k b) S) := by
  refine Ok.of (by decide) (Nat.le_of_ble_eq_true rfl) rfl (fun κ C hx => ?_)
  have C : Cx RX8 cX8_with 3 (some .int) 0 false _ κ := C
  refine g_iload_2 C dX8_with_0 rfl ?_
  refine g_if_eq (tgt := 12) C dX8_with_1 rfl (by decide) (fun h1 => ?_) (fun h1 => ?_)
  · skip
    refine g_iload_0 C dX8_with_12 rfl ?_
    refine g_iconst (v := 1) C dX8_with_13 rfl (by decide) ?_
    refine g_iload_1 C dX8_with_14 rfl ?_
    refine g_ishl C dX8_with_15 rfl ?_
    refine g_iconst (v := -1) C dX8_with_16 rfl (by decide) ?_
    refine g_ixor C dX8_with_17 rfl ?_
    refine g_iand C dX8_with_18 rfl ?_
    exact g_iret C rfl dX8_with_19 ⟨by rw [show withI x k b = _ from if_pos h1]; rfl, rfl⟩
  · skip
    refine g_iload_0 C dX8_with_4 rfl ?_
    refine g_iconst (v := 1) C dX8_with_5 rfl (by decide) ?_
    refine g_iload_1 C dX8_with_6 rfl ?_
    refine g_ishl C dX8_with_7 rfl ?_
    refine g_ior C dX8_with_8 rfl ?_
    refine g_goto (tgt := 19) C dX8_with_9 (by decide) ?_
    exact g_iret C rfl dX8_with_19 ⟨by rw [show withI x k b = _ from if_neg h1]; rfl, rfl⟩

def alw (nr fo : Int32) : Int32 := (one nr - 1) &&& (fo ^^^ (-1))
set_option maxHeartbeats 4000000 in
set_option maxRecDepth 20000 in
theorem ok_X8_allowed (S : Mem) (hR : Rs S) : Ok yX8_allowed cX8_allowed 1 (some .int) 0 0 0 [.ref 25] S (RI (alw (mI S 25 1) (mA S 29 2)) S) := by
  refine Ok.of (by decide) (Nat.le_of_ble_eq_true rfl) rfl (fun κ C hx => ?_)
  have C : Cx RX8 cX8_allowed 1 (some .int) 0 false _ κ := C
  refine g_iconst (v := 1) C dX8_allowed_0 rfl (by decide) ?_
  refine g_aload_0 C dX8_allowed_1 rfl ?_
  refine g_geti C 1 dX8_allowed_2 rfl rfl rfl fl_X8_77 ?_
  refine g_ishl C dX8_allowed_5 rfl ?_
  refine g_iconst (v := 1) C dX8_allowed_6 rfl (by decide) ?_
  refine g_isub C dX8_allowed_7 rfl ?_
  refine g_aload_0 C dX8_allowed_8 rfl ?_
  refine g_getr C 5 dX8_allowed_9 rfl rfl rfl fl_X8_19 (hR 25 5 29 rfl) ?_
  refine g_iconst (v := 2) C dX8_allowed_12 rfl (by decide) ?_
  refine g_iald C dX8_allowed_13 rfl rfl (n_in (k := 2) (N := 4) (by decide) (by decide)) ?_
  refine g_iconst (v := -1) C dX8_allowed_14 rfl (by decide) ?_
  refine g_ixor C dX8_allowed_15 rfl ?_
  refine g_iand C dX8_allowed_16 rfl ?_
  exact g_iret C rfl dX8_allowed_17 ⟨rfl, rfl⟩

