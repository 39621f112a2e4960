theorem and1 (y : Int32) : y &&& 1 = 0 ∨ y &&& 1 = 1 := by
  cases h : bt y 0 with
  | false =>
    left
    apply b_ext
    intro i hi
    rw [b_and, b_1 i hi, b_0]
    by_cases h0 : i = 0
    · subst h0; rw [h]; rfl
    · simp [h0]
  | true =>
    right
    apply b_ext
    intro i hi
    rw [b_and, b_1 i hi]
    by_cases h0 : i = 0
    · subst h0; rw [h]; rfl
    · simp [h0]
theorem hasB_ne {x k : Int32} (h : ¬ bitI x k = 0) : hasB x k = true := by
  rcases and1 (x >>> (k &&& 31)) with e | e
  · exact absurd e h
  · exact decide_eq_true e
theorem hasB_0 {x k : Int32} (h : bitI x k = 0) : hasB x k = false := decide_eq_false (by rw [h]; decide)
set_option maxHeartbeats 4000000 in
set_option maxRecDepth 20000 in
theorem ok_X7_has (x k : Int32) (S : Mem) : Ok yX7_has cX7_has 2 (some .boolean) 0 0 0 [.int x, .int k] S (RI (bI (hasB x k)) S) := by
  refine Ok.of (by decide) (Nat.le_of_ble_eq_true rfl) rfl (fun κ C hx => ?_)
  have C : Cx RX7 cX7_has 2 (some .boolean) 0 false _ κ := C
  refine g_iload_0 C dX7_has_0 rfl ?_
  refine g_iload_1 C dX7_has_1 rfl ?_
  refine g_ishr C dX7_has_2 rfl ?_
  refine g_iconst (v := 1) C dX7_has_3 rfl (by decide) ?_
  refine g_iand C dX7_has_4 rfl ?_
  refine g_if_eq (tgt := 12) C dX7_has_5 rfl (by decide) (fun h5 => ?_) (fun h5 => ?_)
  · skip
    refine g_iconst (v := 0) C dX7_has_12 rfl (by decide) ?_
    exact g_zret C rfl dX7_has_13 (by first | exact Or.inl rfl | exact Or.inr rfl | exact bI_01 _) ⟨by rw [hasB_0 h5]; rfl, rfl⟩
  · skip
    refine g_iconst (v := 1) C dX7_has_8 rfl (by decide) ?_
    refine g_goto (tgt := 13) C dX7_has_9 (by decide) ?_
    exact g_zret C rfl dX7_has_13 (by first | exact Or.inl rfl | exact Or.inr rfl | exact bI_01 _) ⟨by rw [hasB_ne h5]; rfl, rfl⟩

set_option maxHeartbeats 4000000 in
set_option maxRecDepth 20000 in
theorem ok_X7_put (x k b : Int32) (S : Mem) : Ok yX7_put cX7_put 3 (some .int) 0 0 0 [.int x, .int k, .int b] S (RI (withI x k b) S) := by
  refine Ok.of (by decide) (Nat.le_of_ble_eq_true rfl) rfl (fun κ C hx => ?_)
  have C : Cx RX7 cX7_put 3 (some .int) 0 false _ κ := C
  refine g_iload_2 C dX7_put_0 rfl ?_
  refine g_if_eq (tgt := 12) C dX7_put_1 rfl (by decide) (fun h1 => ?_) (fun h1 => ?_)
  · skip
    refine g_iload_0 C dX7_put_12 rfl ?_
    refine g_iconst (v := 1) C dX7_put_13 rfl (by decide) ?_
    refine g_iload_1 C dX7_put_14 rfl ?_
    refine g_ishl C dX7_put_15 rfl ?_
    refine g_iconst (v := -1) C dX7_put_16 rfl (by decide) ?_
    refine g_ixor C dX7_put_17 rfl ?_
    refine g_iand C dX7_put_18 rfl ?_
    exact g_iret C rfl dX7_put_19 ⟨by rw [show withI x k b = _ from if_pos h1]; rfl, rfl⟩
  · skip
    refine g_iload_0 C dX7_put_4 rfl ?_
    refine g_iconst (v := 1) C dX7_put_5 rfl (by decide) ?_
    refine g_iload_1 C dX7_put_6 rfl ?_
    refine g_ishl C dX7_put_7 rfl ?_
    refine g_ior C dX7_put_8 rfl ?_
    refine g_goto (tgt := 19) C dX7_put_9 (by decide) ?_
    exact g_iret C rfl dX7_put_19 ⟨by rw [show withI x k b = _ from if_neg h1]; rfl, rfl⟩

set_option maxHeartbeats 4000000 in
set_option maxRecDepth 20000 in
theorem ok_X7_denialOf (s : Int32) (S : Mem) : Ok yX7_denialOf cX7_denialOf 1 (some .int) 0 0 0 [.int s] S (RI (s ^^^ 1) S) := by
  refine Ok.of (by decide) (Nat.le_of_ble_eq_true rfl) rfl (fun κ C hx => ?_)
  have C : Cx RX7 cX7_denialOf 1 (some .int) 0 false _ κ := C
  refine g_iload_0 C dX7_denialOf_0 rfl ?_
  refine g_iconst (v := 1) C dX7_denialOf_1 rfl (by decide) ?_
  refine g_ixor C dX7_denialOf_2 rfl ?_
  exact g_iret C rfl dX7_denialOf_3 ⟨rfl, rfl⟩

set_option maxHeartbeats 4000000 in
set_option maxRecDepth 20000 in
theorem ok_X0_size (S : Mem) : Ok yX0_size cX0_size 1 (some .int) 0 0 0 [.ref 9] S (RI (mI S 9 2) S) := by
  refine Ok.of (by decide) (Nat.le_of_ble_eq_true rfl) rfl (fun κ C hx => ?_)
  have C : Cx RX0 cX0_size 1 (some .int) 0 false _ κ := C
  refine g_aload_0 C dX0_size_0 rfl ?_
  refine g_geti C 2 dX0_size_1 rfl rfl rfl fl_X0_19 ?_
  exact g_iret C rfl dX0_size_4 ⟨rfl, rfl⟩

set_option maxHeartbeats 4000000 in
set_option maxRecDepth 20000 in
theorem ok_X0_clear (S : Mem) : Ok yX0_clear cX0_clear 1 none 0 0 0 [.ref 9] S (RV (sI S 9 2 0)) := by
  refine Ok.of (by decide) (Nat.le_of_ble_eq_true rfl) rfl (fun κ C hx => ?_)
  have C : Cx RX0 cX0_clear 1 none 0 false _ κ := C
  refine g_aload_0 C dX0_clear_0 rfl ?_
  refine g_iconst (v := 0) C dX0_clear_1 rfl (by decide) ?_
  refine g_puti C 2 dX0_clear_2 rfl rfl rfl (Or.inl rfl) fl_X0_19 ?_
  exact g_vret C rfl dX0_clear_5 ⟨rfl, rfl⟩

def baS (S : Mem) (bn : Nat) (s b : Int32) : Mem := if bn < 15 then sI (sA (sA S 10 bn s) 11 bn b) 9 2 (nI (bn + 1)) else S
set_option maxHeartbeats 4000000 in
set_option maxRecDepth 20000 in
theorem ok_X0_add (s b : Int32) (h01 : b = 0 ∨ b = 1) (S : Mem) (hR : Rs S) (bn : Nat) (hbn : mI S 9 2 = nI bn) (hb : bn ≤ 15) : Ok yX0_add cX0_add 3 (some .boolean) 0 0 0 [.ref 9, .int s, .int b] S (RI (bI (decide (bn < 15))) (baS S bn s b)) := by
  refine Ok.of (by decide) (Nat.le_of_ble_eq_true rfl) rfl (fun κ C hx => ?_)
  have C : Cx RX0 cX0_add 3 (some .boolean) 0 false _ κ := C
  refine g_aload_0 C dX0_add_0 rfl ?_
  refine g_geti C 2 dX0_add_1 rfl rfl rfl fl_X0_19 ?_
  refine g_bipush (v := 15) C dX0_add_4 rfl (by decide) ?_
  refine g_icmp_lt (tgt := 11) C dX0_add_6 rfl (by decide) (fun h6 => ?_) (fun h6 => ?_)
  · skip
    refine g_aload_0 C dX0_add_11 rfl ?_
    refine g_getr C 0 dX0_add_12 rfl rfl rfl fl_X0_9 (hR 9 0 10 rfl) ?_
    have hlt : bn < 15 := by rw [hbn] at h6; exact n_lt' (b := 15) h6 (by omega) (by decide)
    refine g_aload_0 C dX0_add_15 rfl ?_
    refine g_geti C 2 dX0_add_16 rfl rfl rfl fl_X0_19 ?_
    rw [hbn]
    refine g_iload_1 C dX0_add_19 rfl ?_
    refine g_iast C dX0_add_20 rfl rfl (n_in (show bn < 15 by omega) (by decide)) ?_
    rw [nI_clamp (show bn < 2 ^ 31 by omega)]
    refine g_aload_0 C dX0_add_21 rfl ?_
    refine g_getr C 1 dX0_add_22 rfl rfl rfl fl_X0_15 (hR 9 1 11 rfl) ?_
    refine g_aload_0 C dX0_add_25 rfl ?_
    refine g_geti C 2 dX0_add_26 rfl rfl rfl fl_X0_19 ?_
    rw [show mI (sA S 10 bn s) 9 2 = nI bn from hbn]
    refine g_iload_2 C dX0_add_29 rfl ?_
    refine g_zast C dX0_add_30 rfl rfl (n_in (show bn < 15 by omega) (by decide)) h01 ?_
    rw [nI_clamp (show bn < 2 ^ 31 by omega)]
    refine g_aload_0 C dX0_add_31 rfl ?_
    refine g_dup C dX0_add_32 rfl rfl ?_
    refine g_geti C 2 dX0_add_33 rfl rfl rfl fl_X0_19 ?_
    rw [show mI (sA (sA S 10 bn s) 11 bn b) 9 2 = nI bn from hbn]
    refine g_iconst (v := 1) C dX0_add_36 rfl (by decide) ?_
    refine g_iadd C dX0_add_37 rfl ?_
    refine g_puti C 2 dX0_add_38 rfl rfl rfl (Or.inl rfl) fl_X0_19 ?_
    refine g_iconst (v := 1) C dX0_add_41 rfl (by decide) ?_
    exact g_zret C rfl dX0_add_42 (by first | exact Or.inl rfl | exact Or.inr rfl | exact bI_01 _) ⟨by rw [decide_eq_true hlt]; rfl, by unfold baS; rw [if_pos hlt, ← nI_1]⟩
  · skip
    refine g_iconst (v := 0) C dX0_add_9 rfl (by decide) ?_
    exact g_zret C rfl dX0_add_10 (by first | exact Or.inl rfl | exact Or.inr rfl | exact bI_01 _) ⟨by rw [decide_eq_false (fun z => h6 (by rw [hbn]; exact nI_lt (b := 15) z (by decide)))]; rfl, by unfold baS; rw [if_neg (fun z => h6 (by rw [hbn]; exact nI_lt (b := 15) z (by decide)))]⟩

def fwF (all : Int32) (bw bi : Nat → Int32) : Nat → Nat → Int32
  | 0, _ => -1
  | n + 1, k => if bI (hasB all (bw k)) = bi k then fwF all bw bi n (k + 1) else nI k
set_option maxHeartbeats 4000000 in
set_option maxRecDepth 20000 in
theorem lp_X0_firstWrong {κ : Kx} {Φ : Option Value → Mem → Prop} (C : Cx RX0 cX0_firstWrong 3 (some .int) 1 false Φ κ) (S : Mem) (hR : Rs S) (bn : Nat) (hbn : mI S 9 2 = nI bn) (hb15 : bn ≤ 15) (all : Int32) : ∀ (n k : Nat), k + n = bn → Φ (some (.int (fwF all (mA S 10) (mA S 11) n k))) S → G κ 0 0 S 2 [.ref 9, .int all, .int (nI k)] [] := by
  intro n
  induction n with
  | zero =>
    intro k hk hΦ
    refine g_iload_2 C dX0_firstWrong_2 rfl ?_
    refine g_aload_0 C dX0_firstWrong_3 rfl ?_
    refine g_geti C 2 dX0_firstWrong_4 rfl rfl rfl fl_X0_19 ?_
    rw [hbn]
    refine g_icmp_ge (tgt := 37) C dX0_firstWrong_7 rfl (by decide) (fun h7 => ?_) (fun h7 => absurd (nI_le (a := bn) (b := k) (by omega) (by omega)) h7)
    refine g_iconst (v := -1) C dX0_firstWrong_37 rfl (by decide) ?_
    exact g_iret C rfl dX0_firstWrong_38 hΦ
  | succ n ih =>
    intro k hk hΦ
    refine g_iload_2 C dX0_firstWrong_2 rfl ?_
    refine g_aload_0 C dX0_firstWrong_3 rfl ?_
    refine g_geti C 2 dX0_firstWrong_4 rfl rfl rfl fl_X0_19 ?_
    rw [hbn]
    refine g_icmp_ge (tgt := 37) C dX0_firstWrong_7 rfl (by decide) (fun h7 => absurd h7 (nI_ge (a := k) (b := bn) (by omega) (by omega))) (fun h7 => ?_)
    refine g_iload_1 C dX0_firstWrong_10 rfl ?_
    refine g_aload_0 C dX0_firstWrong_11 rfl ?_
    refine g_getr C 0 dX0_firstWrong_12 rfl rfl rfl fl_X0_9 (hR 9 0 10 rfl) ?_
    refine g_iload_2 C dX0_firstWrong_15 rfl ?_
    refine g_iald C dX0_firstWrong_16 rfl rfl (n_in (show k < 15 by omega) (by decide)) ?_
    rw [nI_clamp (show k < 2 ^ 31 by omega)]
    refine g_cN2i C dX0_firstWrong_17 rfl nl_X0_23 mz_X7_has (ok_X7_has _ _ _) (by decide) rfl rfl (Nat.le_of_ble_eq_true rfl) (fun hn17 => ?_)
    refine g_aload_0 C dX0_firstWrong_20 rfl ?_
    refine g_getr C 1 dX0_firstWrong_21 rfl rfl rfl fl_X0_15 (hR 9 1 11 rfl) ?_
    refine g_iload_2 C dX0_firstWrong_24 rfl ?_
    refine g_zald C dX0_firstWrong_25 rfl rfl (n_in (show k < 15 by omega) (by decide)) ?_
    rw [nI_clamp (show k < 2 ^ 31 by omega)]
    refine g_icmp_eq (tgt := 31) C dX0_firstWrong_26 rfl (by decide) (fun h26 => ?_) (fun h26 => ?_)
    · skip
      refine g_iinc_2 (z := 1) C rfl dX0_firstWrong_31 rfl (by decide) ?_
      refine g_goto (tgt := 2) C dX0_firstWrong_34 (by decide) ?_
      rw [nI_1]
      exact ih (k + 1) (by omega) (by rw [show fwF all (mA S 10) (mA S 11) (n + 1) k = fwF all (mA S 10) (mA S 11) n (k + 1) from if_pos h26] at hΦ; exact hΦ)
    · skip
      refine g_iload_2 C dX0_firstWrong_29 rfl ?_
      exact g_iret C rfl dX0_firstWrong_30 (by rw [show fwF all (mA S 10) (mA S 11) (n + 1) k = nI k from if_neg h26] at hΦ; exact hΦ)

set_option maxHeartbeats 4000000 in
set_option maxRecDepth 20000 in
theorem ok_X0_firstWrong (all : Int32) (S : Mem) (hR : Rs S) (bn : Nat) (hbn : mI S 9 2 = nI bn) (hb15 : bn ≤ 15) : Ok yX0_firstWrong cX0_firstWrong 3 (some .int) 1 0 0 [.ref 9, .int all] S (RI (fwF all (mA S 10) (mA S 11) bn 0) S) := by
  refine Ok.of (by decide) (Nat.le_of_ble_eq_true rfl) rfl (fun κ C hx => ?_)
  have C : Cx RX0 cX0_firstWrong 3 (some .int) 1 false _ κ := C
  refine g_iconst (v := 0) C dX0_firstWrong_0 rfl (by decide) ?_
  refine g_istore_2 C rfl dX0_firstWrong_1 rfl ?_
  exact lp_X0_firstWrong C S hR bn hbn hb15 all bn 0 (by omega) ⟨rfl, rfl⟩

set_option maxHeartbeats 4000000 in
set_option maxRecDepth 20000 in
theorem ok_X1_size (S : Mem) : Ok yX1_size cX1_size 1 (some .int) 0 0 0 [.ref 3] S (RI (mI S 3 1) S) := by
  refine Ok.of (by decide) (Nat.le_of_ble_eq_true rfl) rfl (fun κ C hx => ?_)
  have C : Cx RX1 cX1_size 1 (some .int) 0 false _ κ := C
  refine g_aload_0 C dX1_size_0 rfl ?_
  refine g_geti C 1 dX1_size_1 rfl rfl rfl fl_X1_17 ?_
  exact g_iret C rfl dX1_size_4 ⟨rfl, rfl⟩

set_option maxHeartbeats 4000000 in
set_option maxRecDepth 20000 in
theorem ok_X1_clear (S : Mem) : Ok yX1_clear cX1_clear 1 none 0 0 0 [.ref 3] S (RV (sI S 3 1 0)) := by
  refine Ok.of (by decide) (Nat.le_of_ble_eq_true rfl) rfl (fun κ C hx => ?_)
  have C : Cx RX1 cX1_clear 1 none 0 false _ κ := C
  refine g_aload_0 C dX1_clear_0 rfl ?_
  refine g_iconst (v := 0) C dX1_clear_1 rfl (by decide) ?_
  refine g_puti C 1 dX1_clear_2 rfl rfl rfl (Or.inl rfl) fl_X1_17 ?_
  exact g_vret C rfl dX1_clear_5 ⟨rfl, rfl⟩

set_option maxHeartbeats 4000000 in
set_option maxRecDepth 20000 in
theorem ok_X3_size (S : Mem) : Ok yX3_size cX3_size 1 (some .int) 0 0 0 [.ref 5] S (RI (mI S 5 3) S) := by
  refine Ok.of (by decide) (Nat.le_of_ble_eq_true rfl) rfl (fun κ C hx => ?_)
  have C : Cx RX3 cX3_size 1 (some .int) 0 false _ κ := C
  refine g_aload_0 C dX3_size_0 rfl ?_
  refine g_geti C 3 dX3_size_1 rfl rfl rfl fl_X3_22 ?_
  exact g_iret C rfl dX3_size_4 ⟨rfl, rfl⟩

set_option maxHeartbeats 4000000 in
set_option maxRecDepth 20000 in
theorem ok_X3_clear (S : Mem) : Ok yX3_clear cX3_clear 1 none 0 0 0 [.ref 5] S (RV (sI S 5 3 0)) := by
  refine Ok.of (by decide) (Nat.le_of_ble_eq_true rfl) rfl (fun κ C hx => ?_)
  have C : Cx RX3 cX3_clear 1 none 0 false _ κ := C
  refine g_aload_0 C dX3_clear_0 rfl ?_
  refine g_iconst (v := 0) C dX3_clear_1 rfl (by decide) ?_
  refine g_puti C 3 dX3_clear_2 rfl rfl rfl (Or.inl rfl) fl_X3_22 ?_
  exact g_vret C rfl dX3_clear_5 ⟨rfl, rfl⟩

def qaS (S : Mem) (an : Nat) (x s b : Int32) : Mem := if an < 6 then sI (sA (sA (sA S 6 an x) 7 an s) 8 an b) 5 3 (nI (an + 1)) else S
set_option maxHeartbeats 4000000 in
set_option maxRecDepth 20000 in
theorem ok_X3_add (x s b : Int32) (h01 : b = 0 ∨ b = 1) (S : Mem) (hR : Rs S) (an : Nat) (han : mI S 5 3 = nI an) (ha : an ≤ 6) : Ok yX3_add cX3_add 4 (some .boolean) 0 0 0 [.ref 5, .int x, .int s, .int b] S (RI (bI (decide (an < 6))) (qaS S an x s b)) := by
  refine Ok.of (by decide) (Nat.le_of_ble_eq_true rfl) rfl (fun κ C hx => ?_)
  have C : Cx RX3 cX3_add 4 (some .boolean) 0 false _ κ := C
  refine g_aload_0 C dX3_add_0 rfl ?_
  refine g_geti C 3 dX3_add_1 rfl rfl rfl fl_X3_22 ?_
  refine g_bipush (v := 6) C dX3_add_4 rfl (by decide) ?_
  refine g_icmp_lt (tgt := 11) C dX3_add_6 rfl (by decide) (fun h6 => ?_) (fun h6 => ?_)
  · skip
    refine g_aload_0 C dX3_add_11 rfl ?_
    refine g_getr C 0 dX3_add_12 rfl rfl rfl fl_X3_9 (hR 5 0 6 rfl) ?_
    have hlt : an < 6 := by rw [han] at h6; exact n_lt' (b := 6) h6 (by omega) (by decide)
    refine g_aload_0 C dX3_add_15 rfl ?_
    refine g_geti C 3 dX3_add_16 rfl rfl rfl fl_X3_22 ?_
    rw [han]
    refine g_iload_1 C dX3_add_19 rfl ?_
    refine g_iast C dX3_add_20 rfl rfl (n_in (show an < 6 by omega) (by decide)) ?_
    rw [nI_clamp (show an < 2 ^ 31 by omega)]
    refine g_aload_0 C dX3_add_21 rfl ?_
    refine g_getr C 1 dX3_add_22 rfl rfl rfl fl_X3_15 (hR 5 1 7 rfl) ?_
    refine g_aload_0 C dX3_add_25 rfl ?_
    refine g_geti C 3 dX3_add_26 rfl rfl rfl fl_X3_22 ?_
    rw [show mI (sA S 6 an x) 5 3 = nI an from han]
    refine g_iload_2 C dX3_add_29 rfl ?_
    refine g_iast C dX3_add_30 rfl rfl (n_in (show an < 6 by omega) (by decide)) ?_
    rw [nI_clamp (show an < 2 ^ 31 by omega)]
    refine g_aload_0 C dX3_add_31 rfl ?_
    refine g_getr C 2 dX3_add_32 rfl rfl rfl fl_X3_18 (hR 5 2 8 rfl) ?_
    refine g_aload_0 C dX3_add_35 rfl ?_
    refine g_geti C 3 dX3_add_36 rfl rfl rfl fl_X3_22 ?_
    rw [show mI (sA (sA S 6 an x) 7 an s) 5 3 = nI an from han]
    refine g_iload_3 C dX3_add_39 rfl ?_
    refine g_zast C dX3_add_40 rfl rfl (n_in (show an < 6 by omega) (by decide)) h01 ?_
    rw [nI_clamp (show an < 2 ^ 31 by omega)]
    refine g_aload_0 C dX3_add_41 rfl ?_
    refine g_dup C dX3_add_42 rfl rfl ?_
    refine g_geti C 3 dX3_add_43 rfl rfl rfl fl_X3_22 ?_
    rw [show mI (sA (sA (sA S 6 an x) 7 an s) 8 an b) 5 3 = nI an from han]
    refine g_iconst (v := 1) C dX3_add_46 rfl (by decide) ?_
    refine g_iadd C dX3_add_47 rfl ?_
    refine g_puti C 3 dX3_add_48 rfl rfl rfl (Or.inl rfl) fl_X3_22 ?_
    refine g_iconst (v := 1) C dX3_add_51 rfl (by decide) ?_
    exact g_zret C rfl dX3_add_52 (by first | exact Or.inl rfl | exact Or.inr rfl | exact bI_01 _) ⟨by rw [decide_eq_true hlt]; rfl, by unfold qaS; rw [if_pos hlt, ← nI_1]⟩
  · skip
    refine g_iconst (v := 0) C dX3_add_9 rfl (by decide) ?_
    exact g_zret C rfl dX3_add_10 (by first | exact Or.inl rfl | exact Or.inr rfl | exact bI_01 _) ⟨by rw [decide_eq_false (fun z => h6 (by rw [han]; exact nI_lt (b := 6) z (by decide)))]; rfl, by unfold qaS; rw [if_neg (fun z => h6 (by rw [han]; exact nI_lt (b := 6) z (by decide)))]⟩

def TwK (S : Mem) (t : Nat) : Prop := mK S t = 4 ∧ mR S t 0 = some (t + 1) ∧ mR S t 1 = some (t + 2) ∧ mR S t 2 = some (t + 3) ∧ mK S (t + 1) = 140 ∧ mK S (t + 2) = 140 ∧ mK S (t + 3) = 140
set_option maxHeartbeats 4000000 in
set_option maxRecDepth 20000 in
theorem ok_X4_clear (t : Nat) (S : Mem) (hW : TwK S t) : Ok yX4_clear cX4_clear 1 none 0 0 0 [.ref t] S (RV (sI (sI (sI S t 3 0) t 4 0) t 5 0)) := by
  refine Ok.of (by decide) (Nat.le_of_ble_eq_true rfl) rfl (fun κ C hx => ?_)
  have C : Cx RX4 cX4_clear 1 none 0 false _ κ := C
  refine g_aload_0 C dX4_clear_0 rfl ?_
  refine g_iconst (v := 0) C dX4_clear_1 rfl (by decide) ?_
  refine g_putiD C (j := 3) dX4_clear_2 rfl hW.1 (by decide) (by decide) rfl (Or.inl rfl) fl_X4_21 ?_
  refine g_aload_0 C dX4_clear_5 rfl ?_
  refine g_iconst (v := 0) C dX4_clear_6 rfl (by decide) ?_
  refine g_putiD C (j := 4) dX4_clear_7 rfl hW.1 (by decide) (by decide) rfl (Or.inl rfl) fl_X4_25 ?_
  refine g_aload_0 C dX4_clear_10 rfl ?_
  refine g_iconst (v := 0) C dX4_clear_11 rfl (by decide) ?_
  refine g_putiD C (j := 5) dX4_clear_12 rfl hW.1 (by decide) (by decide) rfl (Or.inl rfl) fl_X4_28 ?_
  exact g_vret C rfl dX4_clear_15 ⟨rfl, rfl⟩

set_option maxHeartbeats 4000000 in
set_option maxRecDepth 20000 in
theorem ok_X4_isNone (t : Nat) (S : Mem) (hW : TwK S t) : Ok yX4_isNone cX4_isNone 1 (some .boolean) 0 0 0 [.ref t] S (RI (bI (decide (mI S t 3 = 0))) S) := by
  refine Ok.of (by decide) (Nat.le_of_ble_eq_true rfl) rfl (fun κ C hx => ?_)
  have C : Cx RX4 cX4_isNone 1 (some .boolean) 0 false _ κ := C
  refine g_aload_0 C dX4_isNone_0 rfl ?_
  refine g_getiD C 3 dX4_isNone_1 rfl hW.1 (by decide) (by decide) rfl fl_X4_21 ?_
  refine g_if_ne (tgt := 11) C dX4_isNone_4 rfl (by decide) (fun h4 => ?_) (fun h4 => ?_)
  · skip
    refine g_iconst (v := 0) C dX4_isNone_11 rfl (by decide) ?_
    exact g_zret C rfl dX4_isNone_12 (by first | exact Or.inl rfl | exact Or.inr rfl | exact bI_01 _) ⟨by rw [decide_eq_false h4]; rfl, rfl⟩
  · skip
    refine g_iconst (v := 1) C dX4_isNone_7 rfl (by decide) ?_
    refine g_goto (tgt := 12) C dX4_isNone_8 (by decide) ?_
    exact g_zret C rfl dX4_isNone_12 (by first | exact Or.inl rfl | exact Or.inr rfl | exact bI_01 _) ⟨by rw [decide_eq_true h4]; rfl, rfl⟩

set_option maxHeartbeats 4000000 in
set_option maxRecDepth 20000 in
theorem ok_X4_isFull (t : Nat) (S : Mem) (hW : TwK S t) : Ok yX4_isFull cX4_isFull 1 (some .boolean) 0 0 0 [.ref t] S (RI (bI (!decide (mI S t 4 < 10))) S) := by
  refine Ok.of (by decide) (Nat.le_of_ble_eq_true rfl) rfl (fun κ C hx => ?_)
  have C : Cx RX4 cX4_isFull 1 (some .boolean) 0 false _ κ := C
  refine g_aload_0 C dX4_isFull_0 rfl ?_
  refine g_getiD C 4 dX4_isFull_1 rfl hW.1 (by decide) (by decide) rfl fl_X4_25 ?_
  refine g_bipush (v := 10) C dX4_isFull_4 rfl (by decide) ?_
  refine g_icmp_lt (tgt := 13) C dX4_isFull_6 rfl (by decide) (fun h6 => ?_) (fun h6 => ?_)
  · skip
    refine g_iconst (v := 0) C dX4_isFull_13 rfl (by decide) ?_
    exact g_zret C rfl dX4_isFull_14 (by first | exact Or.inl rfl | exact Or.inr rfl | exact bI_01 _) ⟨by rw [decide_eq_true h6]; rfl, rfl⟩
  · skip
    refine g_iconst (v := 1) C dX4_isFull_9 rfl (by decide) ?_
    refine g_goto (tgt := 14) C dX4_isFull_10 (by decide) ?_
    exact g_zret C rfl dX4_isFull_14 (by first | exact Or.inl rfl | exact Or.inr rfl | exact bI_01 _) ⟨by rw [decide_eq_false h6]; rfl, rfl⟩

set_option maxHeartbeats 4000000 in
set_option maxRecDepth 20000 in
theorem ok_X4_sayings (t : Nat) (S : Mem) (hW : TwK S t) : Ok yX4_sayings cX4_sayings 1 (some .int) 0 0 0 [.ref t] S (RI (2 * mI S t 3) S) := by
  refine Ok.of (by decide) (Nat.le_of_ble_eq_true rfl) rfl (fun κ C hx => ?_)
  have C : Cx RX4 cX4_sayings 1 (some .int) 0 false _ κ := C
  refine g_iconst (v := 2) C dX4_sayings_0 rfl (by decide) ?_
  refine g_aload_0 C dX4_sayings_1 rfl ?_
  refine g_getiD C 3 dX4_sayings_2 rfl hW.1 (by decide) (by decide) rfl fl_X4_21 ?_
  refine g_imul C dX4_sayings_5 rfl ?_
  exact g_iret C rfl dX4_sayings_6 ⟨rfl, rfl⟩

set_option maxHeartbeats 4000000 in
set_option maxRecDepth 20000 in
theorem ok_X4_allSayings (t : Nat) (S : Mem) (hW : TwK S t) : Ok yX4_allSayings cX4_allSayings 1 (some .int) 1 0 0 [.ref t] S (RI (one (2 * mI S t 3) - 1) S) := by
  refine Ok.of (by decide) (Nat.le_of_ble_eq_true rfl) rfl (fun κ C hx => ?_)
  have C : Cx RX4 cX4_allSayings 1 (some .int) 1 false _ κ := C
  refine g_iconst (v := 1) C dX4_allSayings_0 rfl (by decide) ?_
  refine g_aload_0 C dX4_allSayings_1 rfl ?_
  refine g_cD0i C dX4_allSayings_2 rfl ml_X4_35 mz_X4_sayings (ok_X4_sayings t S hW) (by decide) rfl rfl hW.1 (by decide) rfl (Nat.le_of_ble_eq_true rfl) (fun hn2 => ?_)
  refine g_ishl C dX4_allSayings_5 rfl ?_
  refine g_iconst (v := 1) C dX4_allSayings_6 rfl (by decide) ?_
  refine g_isub C dX4_allSayings_7 rfl ?_
  exact g_iret C rfl dX4_allSayings_8 ⟨rfl, rfl⟩

set_option maxHeartbeats 4000000 in
set_option maxRecDepth 20000 in
theorem ok_X4_allRules (t : Nat) (S : Mem) (hW : TwK S t) : Ok yX4_allRules cX4_allRules 1 (some .int) 0 0 0 [.ref t] S (RI (one (mI S t 4) - 1) S) := by
  refine Ok.of (by decide) (Nat.le_of_ble_eq_true rfl) rfl (fun κ C hx => ?_)
  have C : Cx RX4 cX4_allRules 1 (some .int) 0 false _ κ := C
  refine g_iconst (v := 1) C dX4_allRules_0 rfl (by decide) ?_
  refine g_aload_0 C dX4_allRules_1 rfl ?_
  refine g_getiD C 4 dX4_allRules_2 rfl hW.1 (by decide) (by decide) rfl fl_X4_25 ?_
  refine g_ishl C dX4_allRules_5 rfl ?_
  refine g_iconst (v := 1) C dX4_allRules_6 rfl (by decide) ?_
  refine g_isub C dX4_allRules_7 rfl ?_
  exact g_iret C rfl dX4_allRules_8 ⟨rfl, rfl⟩

def hsB (a s : Int32) : Bool := decide (0 ≤ s ∧ s < a)
theorem lt0_n {s : Int32} (h : ¬ s < 0) : 0 ≤ s := by
  rw [Int32.lt_iff_toInt_lt] at h
  rw [Int32.le_iff_toInt_le]
  omega
set_option maxHeartbeats 4000000 in
set_option maxRecDepth 20000 in
theorem ok_X4_hasSaying (s : Int32) (t : Nat) (S : Mem) (hW : TwK S t) : Ok yX4_hasSaying cX4_hasSaying 2 (some .boolean) 1 0 0 [.ref t, .int s] S (RI (bI (hsB (2 * mI S t 3) s)) S) := by
  refine Ok.of (by decide) (Nat.le_of_ble_eq_true rfl) rfl (fun κ C hx => ?_)
  have C : Cx RX4 cX4_hasSaying 2 (some .boolean) 1 false _ κ := C
  refine g_iload_1 C dX4_hasSaying_0 rfl ?_
  refine g_if_lt (tgt := 16) C dX4_hasSaying_1 rfl (by decide) (fun h1 => ?_) (fun h1 => ?_)
  · skip
    refine g_iconst (v := 0) C dX4_hasSaying_16 rfl (by decide) ?_
    exact g_zret C rfl dX4_hasSaying_17 (by first | exact Or.inl rfl | exact Or.inr rfl | exact bI_01 _) ⟨by rw [show hsB _ s = false from decide_eq_false (fun z => i_not_lt z.1 h1)]; rfl, rfl⟩
  · skip
    refine g_iload_1 C dX4_hasSaying_4 rfl ?_
    refine g_aload_0 C dX4_hasSaying_5 rfl ?_
    refine g_cD0i C dX4_hasSaying_6 rfl ml_X4_35 mz_X4_sayings (ok_X4_sayings t S hW) (by decide) rfl rfl hW.1 (by decide) rfl (Nat.le_of_ble_eq_true rfl) (fun hn6 => ?_)
    refine g_icmp_ge (tgt := 16) C dX4_hasSaying_9 rfl (by decide) (fun h9 => ?_) (fun h9 => ?_)
    · skip
      refine g_iconst (v := 0) C dX4_hasSaying_16 rfl (by decide) ?_
      exact g_zret C rfl dX4_hasSaying_17 (by first | exact Or.inl rfl | exact Or.inr rfl | exact bI_01 _) ⟨by rw [show hsB _ s = false from decide_eq_false (fun z => i_not_lt h9 z.2)]; rfl, rfl⟩
    · skip
      refine g_iconst (v := 1) C dX4_hasSaying_12 rfl (by decide) ?_
      refine g_goto (tgt := 17) C dX4_hasSaying_13 (by decide) ?_
      exact g_zret C rfl dX4_hasSaying_17 (by first | exact Or.inl rfl | exact Or.inr rfl | exact bI_01 _) ⟨by rw [show hsB _ s = true from decide_eq_true ⟨lt0_n h1, i_not_le h9⟩]; rfl, rfl⟩

set_option maxHeartbeats 4000000 in
set_option maxRecDepth 20000 in
theorem ok_X4_hasRule (s : Int32) (t : Nat) (S : Mem) (hW : TwK S t) : Ok yX4_hasRule cX4_hasRule 2 (some .boolean) 0 0 0 [.ref t, .int s] S (RI (bI (hsB (mI S t 4) s)) S) := by
  refine Ok.of (by decide) (Nat.le_of_ble_eq_true rfl) rfl (fun κ C hx => ?_)
  have C : Cx RX4 cX4_hasRule 2 (some .boolean) 0 false _ κ := C
  refine g_iload_1 C dX4_hasRule_0 rfl ?_
  refine g_if_lt (tgt := 16) C dX4_hasRule_1 rfl (by decide) (fun h1 => ?_) (fun h1 => ?_)
  · skip
    refine g_iconst (v := 0) C dX4_hasRule_16 rfl (by decide) ?_
    exact g_zret C rfl dX4_hasRule_17 (by first | exact Or.inl rfl | exact Or.inr rfl | exact bI_01 _) ⟨by rw [show hsB _ s = false from decide_eq_false (fun z => i_not_lt z.1 h1)]; rfl, rfl⟩
  · skip
    refine g_iload_1 C dX4_hasRule_4 rfl ?_
    refine g_aload_0 C dX4_hasRule_5 rfl ?_
    refine g_getiD C 4 dX4_hasRule_6 rfl hW.1 (by decide) (by decide) rfl fl_X4_25 ?_
    refine g_icmp_ge (tgt := 16) C dX4_hasRule_9 rfl (by decide) (fun h9 => ?_) (fun h9 => ?_)
    · skip
      refine g_iconst (v := 0) C dX4_hasRule_16 rfl (by decide) ?_
      exact g_zret C rfl dX4_hasRule_17 (by first | exact Or.inl rfl | exact Or.inr rfl | exact bI_01 _) ⟨by rw [show hsB _ s = false from decide_eq_false (fun z => i_not_lt h9 z.2)]; rfl, rfl⟩
    · skip
      refine g_iconst (v := 1) C dX4_hasRule_12 rfl (by decide) ?_
      refine g_goto (tgt := 17) C dX4_hasRule_13 (by decide) ?_
      exact g_zret C rfl dX4_hasRule_17 (by first | exact Or.inl rfl | exact Or.inr rfl | exact bI_01 _) ⟨by rw [show hsB _ s = true from decide_eq_true ⟨lt0_n h1, i_not_le h9⟩]; rfl, rfl⟩

noncomputable def subB (x y : Int32) : Bool := @decide (sub x y) (Classical.propDecidable _)
set_option maxHeartbeats 4000000 in
set_option maxRecDepth 20000 in
theorem ok_X4_hasSayings (x : Int32) (t : Nat) (S : Mem) (hW : TwK S t) : Ok yX4_hasSayings cX4_hasSayings 2 (some .boolean) 2 0 0 [.ref t, .int x] S (RI (bI (subB x (one (2 * mI S t 3) - 1))) S) := by
  refine Ok.of (by decide) (Nat.le_of_ble_eq_true rfl) rfl (fun κ C hx => ?_)
  have C : Cx RX4 cX4_hasSayings 2 (some .boolean) 2 false _ κ := C
  refine g_iload_1 C dX4_hasSayings_0 rfl ?_
  refine g_aload_0 C dX4_hasSayings_1 rfl ?_
  refine g_cD0i C dX4_hasSayings_2 rfl ml_X4_39 mz_X4_allSayings (ok_X4_allSayings t S hW) (by decide) rfl rfl hW.1 (by decide) rfl (Nat.le_of_ble_eq_true rfl) (fun hn2 => ?_)
  refine g_iconst (v := -1) C dX4_hasSayings_5 rfl (by decide) ?_
  refine g_ixor C dX4_hasSayings_6 rfl ?_
  refine g_iand C dX4_hasSayings_7 rfl ?_
  refine g_if_ne (tgt := 15) C dX4_hasSayings_8 rfl (by decide) (fun h8 => ?_) (fun h8 => ?_)
  · skip
    refine g_iconst (v := 0) C dX4_hasSayings_15 rfl (by decide) ?_
    exact g_zret C rfl dX4_hasSayings_16 (by first | exact Or.inl rfl | exact Or.inr rfl | exact bI_01 _) ⟨by rw [show subB x (one (2 * mI S t 3) - 1) = false from @decide_eq_false _ (Classical.propDecidable _) h8]; rfl, rfl⟩
  · skip
    refine g_iconst (v := 1) C dX4_hasSayings_11 rfl (by decide) ?_
    refine g_goto (tgt := 16) C dX4_hasSayings_12 (by decide) ?_
    exact g_zret C rfl dX4_hasSayings_16 (by first | exact Or.inl rfl | exact Or.inr rfl | exact bI_01 _) ⟨by rw [show subB x (one (2 * mI S t 3) - 1) = true from @decide_eq_true _ (Classical.propDecidable _) h8]; rfl, rfl⟩

def arS (S : Mem) (t nr : Nat) (a b c : Int32) : Mem := sI (sA (sA (sA S (t + 1) nr a) (t + 2) nr b) (t + 3) nr c) t 4 (nI (nr + 1))
set_option maxHeartbeats 4000000 in
set_option maxRecDepth 20000 in
theorem ok_X4_addRule (a b c : Int32) (t : Nat) (S : Mem) (hW : TwK S t) (nr : Nat) (hnr : mI S t 4 = nI nr) (h9 : nr ≤ 9) : Ok yX4_addRule cX4_addRule 4 none 1 0 0 [.ref t, .int a, .int b, .int c] S (RV (arS S t nr a b c)) := by
  refine Ok.of (by decide) (Nat.le_of_ble_eq_true rfl) rfl (fun κ C hx => ?_)
  have C : Cx RX4 cX4_addRule 4 none 1 false _ κ := C
  refine g_aload_0 C dX4_addRule_0 rfl ?_
  refine g_cD0i C dX4_addRule_1 rfl ml_X4_31 mz_X4_isFull (ok_X4_isFull t S hW) (by decide) rfl rfl hW.1 (by decide) rfl (Nat.le_of_ble_eq_true rfl) (fun hn1 => ?_)
  refine g_if_eq (tgt := 8) C dX4_addRule_4 rfl (by decide) (fun h4 => ?_) (fun h4 => absurd ((bI_0 _).mpr (by rw [hnr, decide_eq_true (p := nI nr < 10) (nI_lt (b := 10) (by omega) (by decide))]; rfl)) h4)
  refine g_aload_0 C dX4_addRule_8 rfl ?_
  refine g_getrD C 0 dX4_addRule_9 rfl hW.1 (by decide) (by decide) rfl fl_X4_9 hW.2.1 ?_
  refine g_aload_0 C dX4_addRule_12 rfl ?_
  refine g_getiD C 4 dX4_addRule_13 rfl hW.1 (by decide) (by decide) rfl fl_X4_25 ?_
  rw [hnr]
  refine g_iload_1 C dX4_addRule_16 rfl ?_
  refine g_iastD (N := 10) C dX4_addRule_17 rfl hW.2.2.2.2.1 (n_in (show nr < 10 by omega) (by decide)) ?_
  rw [nI_clamp (show nr < 2 ^ 31 by omega)]
  refine g_aload_0 C dX4_addRule_18 rfl ?_
  refine g_getrD C 1 dX4_addRule_19 rfl hW.1 (by decide) (by decide) rfl fl_X4_15 hW.2.2.1 ?_
  refine g_aload_0 C dX4_addRule_22 rfl ?_
  refine g_getiD C 4 dX4_addRule_23 rfl hW.1 (by decide) (by decide) rfl fl_X4_25 ?_
  rw [show mI (sA S (t + 1) nr a) t 4 = nI nr from hnr]
  refine g_iload_2 C dX4_addRule_26 rfl ?_
  refine g_iastD (N := 10) C dX4_addRule_27 rfl hW.2.2.2.2.2.1 (n_in (show nr < 10 by omega) (by decide)) ?_
  rw [nI_clamp (show nr < 2 ^ 31 by omega)]
  refine g_aload_0 C dX4_addRule_28 rfl ?_
  refine g_getrD C 2 dX4_addRule_29 rfl hW.1 (by decide) (by decide) rfl fl_X4_18 hW.2.2.2.1 ?_
  refine g_aload_0 C dX4_addRule_32 rfl ?_
  refine g_getiD C 4 dX4_addRule_33 rfl hW.1 (by decide) (by decide) rfl fl_X4_25 ?_
  rw [show mI (sA (sA S (t + 1) nr a) (t + 2) nr b) t 4 = nI nr from hnr]
  refine g_iload_3 C dX4_addRule_36 rfl ?_
  refine g_iastD (N := 10) C dX4_addRule_37 rfl hW.2.2.2.2.2.2 (n_in (show nr < 10 by omega) (by decide)) ?_
  rw [nI_clamp (show nr < 2 ^ 31 by omega)]
  refine g_aload_0 C dX4_addRule_38 rfl ?_
  refine g_dup C dX4_addRule_39 rfl rfl ?_
  refine g_getiD C 4 dX4_addRule_40 rfl hW.1 (by decide) (by decide) rfl fl_X4_25 ?_
  rw [show mI (sA (sA (sA S (t + 1) nr a) (t + 2) nr b) (t + 3) nr c) t 4 = nI nr from hnr]
  refine g_iconst (v := 1) C dX4_addRule_43 rfl (by decide) ?_
  refine g_iadd C dX4_addRule_44 rfl ?_
  rw [nI_1]
  refine g_putiD C (j := 4) dX4_addRule_45 rfl hW.1 (by decide) (by decide) rfl (Or.inl rfl) fl_X4_25 ?_
  exact g_vret C rfl dX4_addRule_48 ⟨rfl, rfl⟩

def qcB (x : Int32) (k : Nat) : Bool := hasB x (2 * nI k) && hasB x (2 * nI k + 1)
def qcF (x : Int32) : Nat → Int32
  | 0 => 0
  | k + 1 => if qcB x k = true then qcF x k ||| one (nI k) else qcF x k
set_option maxHeartbeats 4000000 in
set_option maxRecDepth 20000 in
theorem lp_X4_quarrelsIn {κ : Kx} {Φ : Option Value → Mem → Prop} (C : Cx RX4 cX4_quarrelsIn 4 (some .int) 1 false Φ κ) (t : Nat) (S : Mem) (hW : TwK S t) (th : Nat) (hth : mI S t 3 = nI th) (h8 : th ≤ 8) (x : Int32) (hΦ : Φ (some (.int (qcF x th))) S) : ∀ (n k : Nat), k ≤ th → th + 1 ≤ k + n → G κ 0 0 S 4 [.ref t, .int x, .int (qcF x k), .int (nI k)] [] := by
  intro n
  induction n with
  | zero => intro k h1 h2; exact absurd h2 (by omega)
  | succ n ih =>
    intro k hk1 hk2
    refine g_iload_3 C dX4_quarrelsIn_4 rfl ?_
    refine g_aload_0 C dX4_quarrelsIn_5 rfl ?_
    refine g_getiD C 3 dX4_quarrelsIn_6 rfl hW.1 (by decide) (by decide) rfl fl_X4_21 ?_
    rw [hth]
    refine g_icmp_ge (tgt := 46) C dX4_quarrelsIn_9 rfl (by decide) (fun h9 => ?_) (fun h9 => ?_)
    · skip
      have hk : k = th := by have := n_ge (b := th) h9 (by omega) (by omega); omega
      rw [hk]
      refine g_iload_2 C dX4_quarrelsIn_46 rfl ?_
      exact g_iret C rfl dX4_quarrelsIn_47 hΦ
    · skip
      refine g_iload_1 C dX4_quarrelsIn_12 rfl ?_
      refine g_iconst (v := 2) C dX4_quarrelsIn_13 rfl (by decide) ?_
      refine g_iload_3 C dX4_quarrelsIn_14 rfl ?_
      refine g_imul C dX4_quarrelsIn_15 rfl ?_
      refine g_cN2i C dX4_quarrelsIn_16 rfl nl_X4_45 mz_X7_has (ok_X7_has _ _ _) (by decide) rfl rfl (Nat.le_of_ble_eq_true rfl) (fun hn16 => ?_)
      refine g_if_eq (tgt := 40) C dX4_quarrelsIn_19 rfl (by decide) (fun h19 => ?_) (fun h19 => ?_)
      · skip
        refine g_iinc_3 (z := 1) C rfl dX4_quarrelsIn_40 rfl (by decide) ?_
        refine g_goto (tgt := 4) C dX4_quarrelsIn_43 (by decide) ?_
        have hk : k < th := n_lt (b := th) h9 (by omega) (by omega)
        rw [nI_1]
        have e : qcF x (k + 1) = qcF x k := if_neg (by unfold qcB; rw [(bI_0 _).mp h19, Bool.false_and]; decide)
        have := ih (k + 1) (by omega) (by omega)
        rw [e] at this
        exact this
      · skip
        refine g_iload_1 C dX4_quarrelsIn_22 rfl ?_
        refine g_iconst (v := 2) C dX4_quarrelsIn_23 rfl (by decide) ?_
        refine g_iload_3 C dX4_quarrelsIn_24 rfl ?_
        refine g_imul C dX4_quarrelsIn_25 rfl ?_
        refine g_iconst (v := 1) C dX4_quarrelsIn_26 rfl (by decide) ?_
        refine g_iadd C dX4_quarrelsIn_27 rfl ?_
        refine g_cN2i C dX4_quarrelsIn_28 rfl nl_X4_45 mz_X7_has (ok_X7_has _ _ _) (by decide) rfl rfl (Nat.le_of_ble_eq_true rfl) (fun hn28 => ?_)
        refine g_if_eq (tgt := 40) C dX4_quarrelsIn_31 rfl (by decide) (fun h31 => ?_) (fun h31 => ?_)
        · skip
          refine g_iinc_3 (z := 1) C rfl dX4_quarrelsIn_40 rfl (by decide) ?_
          refine g_goto (tgt := 4) C dX4_quarrelsIn_43 (by decide) ?_
          have hk : k < th := n_lt (b := th) h9 (by omega) (by omega)
          rw [nI_1]
          have e : qcF x (k + 1) = qcF x k := if_neg (by unfold qcB; rw [(bI_0 _).mp h31, Bool.and_false]; decide)
          have := ih (k + 1) (by omega) (by omega)
          rw [e] at this
          exact this
        · skip
          refine g_iload_2 C dX4_quarrelsIn_34 rfl ?_
          refine g_iconst (v := 1) C dX4_quarrelsIn_35 rfl (by decide) ?_
          refine g_iload_3 C dX4_quarrelsIn_36 rfl ?_
          refine g_ishl C dX4_quarrelsIn_37 rfl ?_
          refine g_ior C dX4_quarrelsIn_38 rfl ?_
          refine g_istore_2 C rfl dX4_quarrelsIn_39 rfl ?_
          refine g_iinc_3 (z := 1) C rfl dX4_quarrelsIn_40 rfl (by decide) ?_
          refine g_goto (tgt := 4) C dX4_quarrelsIn_43 (by decide) ?_
          have hk : k < th := n_lt (b := th) h9 (by omega) (by omega)
          rw [nI_1]
          have e : qcF x (k + 1) = qcF x k ||| one (nI k) := if_pos (by unfold qcB; rw [(nf_t (fun q => h19 ((bI_0 _).mpr q))), (nf_t (fun q => h31 ((bI_0 _).mpr q)))]; rfl)
          have := ih (k + 1) (by omega) (by omega)
          rw [e] at this
          exact this

set_option maxHeartbeats 4000000 in
set_option maxRecDepth 20000 in
theorem ok_X4_quarrelsIn (x : Int32) (t : Nat) (S : Mem) (hW : TwK S t) (th : Nat) (hth : mI S t 3 = nI th) (h8 : th ≤ 8) : Ok yX4_quarrelsIn cX4_quarrelsIn 4 (some .int) 1 0 0 [.ref t, .int x] S (RI (qcF x th) S) := by
  refine Ok.of (by decide) (Nat.le_of_ble_eq_true rfl) rfl (fun κ C hx => ?_)
  have C : Cx RX4 cX4_quarrelsIn 4 (some .int) 1 false _ κ := C
  refine g_iconst (v := 0) C dX4_quarrelsIn_0 rfl (by decide) ?_
  refine g_istore_2 C rfl dX4_quarrelsIn_1 rfl ?_
  refine g_iconst (v := 0) C dX4_quarrelsIn_2 rfl (by decide) ?_
  refine g_istore_3 C rfl dX4_quarrelsIn_3 rfl ?_
  exact lp_X4_quarrelsIn C t S hW th hth h8 x ⟨rfl, rfl⟩ (th + 1) 0 (Nat.zero_le _) (by omega)

set_option maxHeartbeats 4000000 in
set_option maxRecDepth 20000 in
theorem lp_X4_costOf {κ : Kx} {Φ : Option Value → Mem → Prop} (C : Cx RX4 cX4_costOf 4 (some .int) 1 false Φ κ) (t : Nat) (S : Mem) (hW : TwK S t) (nr : Nat) (hnr : mI S t 4 = nI nr) (h10 : nr ≤ 10) (x : Int32) (hΦ : Φ (some (.int (cstF (mA S (t + 1)) x nr))) S) : ∀ (n k : Nat), k ≤ nr → nr + 1 ≤ k + n → G κ 0 0 S 4 [.ref t, .int x, .int (cstF (mA S (t + 1)) x k), .int (nI k)] [] := by
  intro n
  induction n with
  | zero => intro k h1 h2; exact absurd h2 (by omega)
  | succ n ih =>
    intro k hk1 hk2
    refine g_iload_3 C dX4_costOf_4 rfl ?_
    refine g_aload_0 C dX4_costOf_5 rfl ?_
    refine g_getiD C 4 dX4_costOf_6 rfl hW.1 (by decide) (by decide) rfl fl_X4_25 ?_
    rw [hnr]
    refine g_icmp_ge (tgt := 39) C dX4_costOf_9 rfl (by decide) (fun h9 => ?_) (fun h9 => ?_)
    · skip
      have hk : k = nr := by have := n_ge (b := nr) h9 (by omega) (by omega); omega
      rw [hk]
      refine g_iload_2 C dX4_costOf_39 rfl ?_
      exact g_iret C rfl dX4_costOf_40 hΦ
    · skip
      refine g_iload_2 C dX4_costOf_12 rfl ?_
      refine g_iload_1 C dX4_costOf_13 rfl ?_
      refine g_iload_3 C dX4_costOf_14 rfl ?_
      refine g_cN2i C dX4_costOf_15 rfl nl_X4_45 mz_X7_has (ok_X7_has _ _ _) (by decide) rfl rfl (Nat.le_of_ble_eq_true rfl) (fun hn15 => ?_)
      refine g_if_eq (tgt := 30) C dX4_costOf_18 rfl (by decide) (fun h18 => ?_) (fun h18 => ?_)
      · skip
        refine g_iconst (v := 0) C dX4_costOf_30 rfl (by decide) ?_
        refine g_iadd C dX4_costOf_31 rfl ?_
        refine g_istore_2 C rfl dX4_costOf_32 rfl ?_
        refine g_iinc_3 (z := 1) C rfl dX4_costOf_33 rfl (by decide) ?_
        refine g_goto (tgt := 4) C dX4_costOf_36 (by decide) ?_
        have hk : k < nr := n_lt (b := nr) h9 (by omega) (by omega)
        rw [nI_1]
        have e : cstF (mA S (t + 1)) x (k + 1) = cstF (mA S (t + 1)) x k + _ := congrArg (fun z => cstF (mA S (t + 1)) x k + z) (if_neg (by rw [(bI_0 _).mp h18]; decide))
        have := ih (k + 1) (by omega) (by omega)
        rw [e] at this
        exact this
      · skip
        refine g_aload_0 C dX4_costOf_21 rfl ?_
        refine g_getrD C 0 dX4_costOf_22 rfl hW.1 (by decide) (by decide) rfl fl_X4_9 hW.2.1 ?_
        refine g_iload_3 C dX4_costOf_25 rfl ?_
        refine g_ialdD (N := 10) C dX4_costOf_26 rfl hW.2.2.2.2.1 (n_in (show k < 10 by have := n_lt (b := nr) h9 (by omega) (by omega); omega) (by decide)) ?_
        rw [nI_clamp (show k < 2 ^ 31 by omega)]
        refine g_goto (tgt := 31) C dX4_costOf_27 (by decide) ?_
        refine g_iadd C dX4_costOf_31 rfl ?_
        refine g_istore_2 C rfl dX4_costOf_32 rfl ?_
        refine g_iinc_3 (z := 1) C rfl dX4_costOf_33 rfl (by decide) ?_
        refine g_goto (tgt := 4) C dX4_costOf_36 (by decide) ?_
        have hk : k < nr := n_lt (b := nr) h9 (by omega) (by omega)
        rw [nI_1]
        have e : cstF (mA S (t + 1)) x (k + 1) = cstF (mA S (t + 1)) x k + _ := congrArg (fun z => cstF (mA S (t + 1)) x k + z) (if_pos (nf_t (fun q => h18 ((bI_0 _).mpr q))))
        have := ih (k + 1) (by omega) (by omega)
        rw [e] at this
        exact this

set_option maxHeartbeats 4000000 in
set_option maxRecDepth 20000 in
theorem ok_X4_costOf (x : Int32) (t : Nat) (S : Mem) (hW : TwK S t) (nr : Nat) (hnr : mI S t 4 = nI nr) (h10 : nr ≤ 10) : Ok yX4_costOf cX4_costOf 4 (some .int) 1 0 0 [.ref t, .int x] S (RI (cstF (mA S (t + 1)) x nr) S) := by
  refine Ok.of (by decide) (Nat.le_of_ble_eq_true rfl) rfl (fun κ C hx => ?_)
  have C : Cx RX4 cX4_costOf 4 (some .int) 1 false _ κ := C
  refine g_iconst (v := 0) C dX4_costOf_0 rfl (by decide) ?_
  refine g_istore_2 C rfl dX4_costOf_1 rfl ?_
  refine g_iconst (v := 0) C dX4_costOf_2 rfl (by decide) ?_
  refine g_istore_3 C rfl dX4_costOf_3 rfl ?_
  exact lp_X4_costOf C t S hW nr hnr h10 x ⟨rfl, rfl⟩ (nr + 1) 0 (Nat.zero_le _) (by omega)

set_option maxHeartbeats 4000000 in
set_option maxRecDepth 20000 in
theorem lp_X4_concludedBy {κ : Kx} {Φ : Option Value → Mem → Prop} (C : Cx RX4 cX4_concludedBy 4 (some .int) 1 false Φ κ) (t : Nat) (S : Mem) (hW : TwK S t) (nr : Nat) (hnr : mI S t 4 = nI nr) (h10 : nr ≤ 10) (x : Int32) (hΦ : Φ (some (.int (orF (fun r => hasB x (nI r)) (fun r => one (mA S (t + 2) r)) nr))) S) : ∀ (n k : Nat), k ≤ nr → nr + 1 ≤ k + n → G κ 0 0 S 4 [.ref t, .int x, .int (orF (fun r => hasB x (nI r)) (fun r => one (mA S (t + 2) r)) k), .int (nI k)] [] := by
  intro n
  induction n with
  | zero => intro k h1 h2; exact absurd h2 (by omega)
  | succ n ih =>
    intro k hk1 hk2
    refine g_iload_3 C dX4_concludedBy_4 rfl ?_
    refine g_aload_0 C dX4_concludedBy_5 rfl ?_
    refine g_getiD C 4 dX4_concludedBy_6 rfl hW.1 (by decide) (by decide) rfl fl_X4_25 ?_
    rw [hnr]
    refine g_icmp_ge (tgt := 41) C dX4_concludedBy_9 rfl (by decide) (fun h9 => ?_) (fun h9 => ?_)
    · skip
      have hk : k = nr := by have := n_ge (b := nr) h9 (by omega) (by omega); omega
      rw [hk]
      refine g_iload_2 C dX4_concludedBy_41 rfl ?_
      exact g_iret C rfl dX4_concludedBy_42 hΦ
    · skip
      refine g_iload_2 C dX4_concludedBy_12 rfl ?_
      refine g_iload_1 C dX4_concludedBy_13 rfl ?_
      refine g_iload_3 C dX4_concludedBy_14 rfl ?_
      refine g_cN2i C dX4_concludedBy_15 rfl nl_X4_45 mz_X7_has (ok_X7_has _ _ _) (by decide) rfl rfl (Nat.le_of_ble_eq_true rfl) (fun hn15 => ?_)
      refine g_if_eq (tgt := 32) C dX4_concludedBy_18 rfl (by decide) (fun h18 => ?_) (fun h18 => ?_)
      · skip
        refine g_iconst (v := 0) C dX4_concludedBy_32 rfl (by decide) ?_
        refine g_ior C dX4_concludedBy_33 rfl ?_
        refine g_istore_2 C rfl dX4_concludedBy_34 rfl ?_
        refine g_iinc_3 (z := 1) C rfl dX4_concludedBy_35 rfl (by decide) ?_
        refine g_goto (tgt := 4) C dX4_concludedBy_38 (by decide) ?_
        have hk : k < nr := n_lt (b := nr) h9 (by omega) (by omega)
        rw [nI_1]
        have e := orF_0 (c := fun r => hasB x (nI r)) (f := fun r => one (mA S (t + 2) r)) (r := k) ((bI_0 _).mp h18)
        have := ih (k + 1) (by omega) (by omega)
        rw [e] at this
        exact this
      · skip
        refine g_iconst (v := 1) C dX4_concludedBy_21 rfl (by decide) ?_
        refine g_aload_0 C dX4_concludedBy_22 rfl ?_
        refine g_getrD C 1 dX4_concludedBy_23 rfl hW.1 (by decide) (by decide) rfl fl_X4_15 hW.2.2.1 ?_
        refine g_iload_3 C dX4_concludedBy_26 rfl ?_
        refine g_ialdD (N := 10) C dX4_concludedBy_27 rfl hW.2.2.2.2.2.1 (n_in (show k < 10 by have := n_lt (b := nr) h9 (by omega) (by omega); omega) (by decide)) ?_
        rw [nI_clamp (show k < 2 ^ 31 by omega)]
        refine g_ishl C dX4_concludedBy_28 rfl ?_
        refine g_goto (tgt := 33) C dX4_concludedBy_29 (by decide) ?_
        refine g_ior C dX4_concludedBy_33 rfl ?_
        refine g_istore_2 C rfl dX4_concludedBy_34 rfl ?_
        refine g_iinc_3 (z := 1) C rfl dX4_concludedBy_35 rfl (by decide) ?_
        refine g_goto (tgt := 4) C dX4_concludedBy_38 (by decide) ?_
        have hk : k < nr := n_lt (b := nr) h9 (by omega) (by omega)
        rw [nI_1]
        have e := orF_1 (c := fun r => hasB x (nI r)) (f := fun r => one (mA S (t + 2) r)) (r := k) (nf_t (fun q => h18 ((bI_0 _).mpr q)))
        have := ih (k + 1) (by omega) (by omega)
        rw [e] at this
        exact this

set_option maxHeartbeats 4000000 in
set_option maxRecDepth 20000 in
theorem ok_X4_concludedBy (x : Int32) (t : Nat) (S : Mem) (hW : TwK S t) (nr : Nat) (hnr : mI S t 4 = nI nr) (h10 : nr ≤ 10) : Ok yX4_concludedBy cX4_concludedBy 4 (some .int) 1 0 0 [.ref t, .int x] S (RI (orF (fun r => hasB x (nI r)) (fun r => one (mA S (t + 2) r)) nr) S) := by
  refine Ok.of (by decide) (Nat.le_of_ble_eq_true rfl) rfl (fun κ C hx => ?_)
  have C : Cx RX4 cX4_concludedBy 4 (some .int) 1 false _ κ := C
  refine g_iconst (v := 0) C dX4_concludedBy_0 rfl (by decide) ?_
  refine g_istore_2 C rfl dX4_concludedBy_1 rfl ?_
  refine g_iconst (v := 0) C dX4_concludedBy_2 rfl (by decide) ?_
  refine g_istore_3 C rfl dX4_concludedBy_3 rfl ?_
  exact lp_X4_concludedBy C t S hW nr hnr h10 x ⟨rfl, rfl⟩ (nr + 1) 0 (Nat.zero_le _) (by omega)

