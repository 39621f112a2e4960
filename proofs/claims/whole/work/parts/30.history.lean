def sX (S : Mem) (f : Nat → Option Nat) : Mem := (mN S, mK S, mI S, mR S, mA S, mL S, u1 (mQ S) 4 f)
def uq (f : Nat → Option Nat) (j : Nat) (x : Option Nat) : Nat → Option Nat := fun b => if b = j then x else f b
theorem sQ_sX (S : Mem) (j : Nat) (x : Option Nat) : sQ S 4 j x = sX S (uq (mQ S 4) j x) := by
  refine mem_ext rfl rfl rfl rfl rfl rfl ?_
  funext a b
  show u2 (mQ S) 4 j x a b = u1 (mQ S) 4 (uq (mQ S 4) j x) a b
  unfold u2 u1 uq
  by_cases h : a = 4
  · subst h
    rw [if_pos rfl, if_pos rfl]
  · rw [if_neg h, if_neg h]
theorem mQ_sX (S : Mem) (f : Nat → Option Nat) : mQ (sX S f) 4 = f := by show u1 (mQ S) 4 f 4 = f; unfold u1; rw [if_pos rfl]
theorem mQ_sX_ne (S : Mem) {a : Nat} (f : Nat → Option Nat) (h : a ≠ 4) : mQ (sX S f) a = mQ S a := by show u1 (mQ S) 4 f a = mQ S a; unfold u1; rw [if_neg h]
theorem sX_sX (S : Mem) (f g : Nat → Option Nat) : sX (sX S f) g = sX S g := by
  refine mem_ext rfl rfl rfl rfl rfl rfl ?_
  funext a
  show u1 (u1 (mQ S) 4 f) 4 g a = u1 (mQ S) 4 g a
  unfold u1
  by_cases h : a = 4
  · rw [if_pos h, if_pos h]
  · rw [if_neg h, if_neg h, if_neg h]
theorem sX_self (S : Mem) : sX S (mQ S 4) = S := by
  refine mem_ext rfl rfl rfl rfl rfl rfl ?_
  funext a
  show u1 (mQ S) 4 (mQ S 4) a = mQ S a
  unfold u1
  by_cases h : a = 4
  · rw [if_pos h, h]
  · rw [if_neg h]
def shQ (f : Nat → Option Nat) (k : Nat) : Nat → Option Nat := fun j => if j + 1 < k then f (j + 1) else f j
theorem shQ_s (f : Nat → Option Nat) {k : Nat} (hk : 1 ≤ k) : uq (shQ f k) (k - 1) (f k) = shQ f (k + 1) := by
  funext j
  unfold uq shQ
  by_cases h : j = k - 1
  · rw [if_pos h, if_pos (by omega)]
    congr 1
    omega
  · rw [if_neg h]
    by_cases h2 : j + 1 < k
    · rw [if_pos h2, if_pos (by omega)]
    · rw [if_neg h2, if_neg (by omega)]
theorem shQ_1 (f : Nat → Option Nat) : shQ f 1 = f := by
  funext j
  unfold shQ
  rw [if_neg (by omega)]
theorem shQ_at (f : Nat → Option Nat) (k : Nat) : shQ f k k = f k := by
  unfold shQ
  rw [if_neg (by omega)]
def QM (S : Mem) : Prop := ∀ i z, mQ S 4 i = some z → mK S z = 2
theorem shQ_M {S : Mem} (h : QM S) (k : Nat) : ∀ i z, shQ (mQ S 4) k i = some z → mK S z = 2 := by
  intro i z e
  unfold shQ at e
  by_cases h2 : i + 1 < k
  · rw [if_pos h2] at e; exact h _ _ e
  · rw [if_neg h2] at e; exact h _ _ e
set_option maxHeartbeats 4000000 in
set_option maxRecDepth 20000 in
theorem lp_X1_loseOldest {κ : Kx} {Φ : Option Value → Mem → Prop} (C : Cx RX1 cX1_loseOldest 2 none 0 false Φ κ) (S : Mem) (hR : Rs S) (hQ : QM S) (hΦ : Φ none (sI (sX S (shQ (mQ S 4) 20)) 3 1 19)) : ∀ (n k : Nat), 1 ≤ k → k ≤ 20 → 21 ≤ k + n → G κ 0 0 (sX S (shQ (mQ S 4) k)) 2 [.ref 3, .int (nI k)] [] := by
  intro n
  induction n with
  | zero => intro k h0 h1 h2; exact absurd h2 (by omega)
  | succ n ih =>
    intro k hk0 hk1 hk2
    refine g_iload_1 C dX1_loseOldest_2 rfl ?_
    refine g_bipush (v := 20) C dX1_loseOldest_3 rfl (by decide) ?_
    refine g_icmp_ge (tgt := 28) C dX1_loseOldest_5 rfl (by decide) (fun h5 => ?_) (fun h5 => ?_)
    · skip
      have hk : k = 20 := by have := n_ge (b := 20) h5 (by omega) (by omega); omega
      rw [hk]
      refine g_aload_0 C dX1_loseOldest_28 rfl ?_
      refine g_bipush (v := 19) C dX1_loseOldest_29 rfl (by decide) ?_
      refine g_puti C 1 dX1_loseOldest_31 rfl rfl rfl (Or.inl rfl) fl_X1_17 ?_
      exact g_vret C rfl dX1_loseOldest_34 hΦ
    · skip
      refine g_aload_0 C dX1_loseOldest_8 rfl ?_
      refine g_getr C 0 dX1_loseOldest_9 rfl rfl rfl fl_X1_11 (hR 3 0 4 rfl) ?_
      refine g_iload_1 C dX1_loseOldest_12 rfl ?_
      refine g_iconst (v := 1) C dX1_loseOldest_13 rfl (by decide) ?_
      refine g_isub C dX1_loseOldest_14 rfl ?_
      rw [i_min1 (k := k) hk0]
      refine g_aload_0 C dX1_loseOldest_15 rfl ?_
      refine g_getr C 0 dX1_loseOldest_16 rfl rfl rfl fl_X1_11 (hR 3 0 4 rfl) ?_
      refine g_iload_1 C dX1_loseOldest_19 rfl ?_
      refine g_aald C dX1_loseOldest_20 rfl rfl (n_in (show k < 20 by have := n_lt (b := 20) h5 (by omega) (by omega); omega) (by decide)) ?_
      rw [nI_clamp (show k < 2 ^ 31 by omega), mQ_sX, shQ_at]
      refine g_aast C dX1_loseOldest_21 rfl rfl (n_in (show k - 1 < 20 by omega) (by decide)) (fun z e => hQ k z e) ?_
      rw [nI_clamp (show k - 1 < 2 ^ 31 by omega), sQ_sX, mQ_sX, sX_sX, shQ_s _ hk0]
      refine g_iinc_1 (z := 1) C rfl dX1_loseOldest_22 rfl (by decide) ?_
      refine g_goto (tgt := 2) C dX1_loseOldest_25 (by decide) ?_
      have hk : k < 20 := n_lt (b := 20) h5 (by omega) (by omega)
      rw [nI_1]
      exact ih (k + 1) (by omega) (by omega) (by omega)

set_option maxHeartbeats 4000000 in
set_option maxRecDepth 20000 in
theorem ok_X1_loseOldest (S : Mem) (hR : Rs S) (hQ : QM S) : Ok yX1_loseOldest cX1_loseOldest 2 none 0 0 0 [.ref 3] S (RV (sI (sX S (shQ (mQ S 4) 20)) 3 1 19)) := by
  refine Ok.of (by decide) (Nat.le_of_ble_eq_true rfl) rfl (fun κ C hx => ?_)
  have C : Cx RX1 cX1_loseOldest 2 none 0 false _ κ := C
  refine g_iconst (v := 1) C dX1_loseOldest_0 rfl (by decide) ?_
  refine g_istore_1 C rfl dX1_loseOldest_1 rfl ?_
  have h := lp_X1_loseOldest C S hR hQ ⟨rfl, rfl⟩ 20 1 (by omega) (by omega) (by omega)
  rw [shQ_1, sX_self] at h
  exact h

def hiU (un : Nat) : Nat := if un = 20 then 19 else un
def hiF (S : Mem) (un : Nat) : Nat → Option Nat := if un = 20 then shQ (mQ S 4) 20 else mQ S 4
def hiS (S : Mem) (un x : Nat) : Mem := sI (sX S (uq (hiF S un) (hiU un) (some x))) 3 1 (nI (hiU un + 1))
theorem hiS_20 (S : Mem) (x : Nat) : hiS S 20 x = sI (sX S (uq (shQ (mQ S 4) 20) 19 (some x))) 3 1 (nI 20) := rfl
theorem hiS_n (S : Mem) {un : Nat} (h : un ≠ 20) (x : Nat) : hiS S un x = sI (sX S (uq (mQ S 4) un (some x))) 3 1 (nI (un + 1)) := by
  unfold hiS hiF hiU
  rw [if_neg h, if_neg h]
set_option maxHeartbeats 4000000 in
set_option maxRecDepth 20000 in
theorem ok_X1_add (x : Nat) (S : Mem) (hx2 : mK S x = 2) (hR : Rs S) (hQ : QM S) (un : Nat) (hun : mI S 3 1 = nI un) (hu : un ≤ 20) : Ok yX1_add cX1_add 2 none 1 0 0 [.ref 3, .ref x] S (RV (hiS S un x)) := by
  refine Ok.of (by decide) (Nat.le_of_ble_eq_true rfl) rfl (fun κ C hx => ?_)
  have C : Cx RX1 cX1_add 2 none 1 false _ κ := C
  refine g_aload_0 C dX1_add_0 rfl ?_
  refine g_geti C 1 dX1_add_1 rfl rfl rfl fl_X1_17 ?_
  refine g_bipush (v := 20) C dX1_add_4 rfl (by decide) ?_
  refine g_icmp_lt (tgt := 13) C dX1_add_6 rfl (by decide) (fun h6 => ?_) (fun h6 => ?_)
  · skip
    have hlt : un < 20 := by rw [hun] at h6; exact n_lt' (b := 20) h6 (by omega) (by decide)
    refine g_aload_0 C dX1_add_13 rfl ?_
    refine g_getr C 0 dX1_add_14 rfl rfl rfl fl_X1_11 (hR 3 0 4 rfl) ?_
    refine g_aload_0 C dX1_add_17 rfl ?_
    refine g_geti C 1 dX1_add_18 rfl rfl rfl fl_X1_17 ?_
    rw [hun]
    refine g_aload_1 C dX1_add_21 rfl ?_
    refine g_aast (y := some x) C dX1_add_22 rfl rfl (n_in (show un < 20 by omega) (by decide)) (fun z e => by cases e; exact hx2) ?_
    rw [nI_clamp (show un < 2 ^ 31 by omega)]
    refine g_aload_0 C dX1_add_23 rfl ?_
    refine g_dup C dX1_add_24 rfl rfl ?_
    refine g_geti C 1 dX1_add_25 rfl rfl rfl fl_X1_17 ?_
    rw [show mI (sQ S 4 un (some x)) 3 1 = nI un from hun]
    refine g_iconst (v := 1) C dX1_add_28 rfl (by decide) ?_
    refine g_iadd C dX1_add_29 rfl ?_
    refine g_puti C 1 dX1_add_30 rfl rfl rfl (Or.inl rfl) fl_X1_17 ?_
    exact g_vret C rfl dX1_add_33 ⟨rfl, by rw [hiS_n S (by omega), sQ_sX, nI_1]⟩
  · skip
    refine g_aload_0 C dX1_add_9 rfl ?_
    refine g_cV0v C dX1_add_10 rfl ml_X1_21 mz_X1_loseOldest (ok_X1_loseOldest S hR hQ) (by decide) rfl rfl rfl rfl (Nat.le_of_ble_eq_true rfl) (fun hn10 => ?_)
    have hun2 : un = 20 := by rw [hun] at h6; have := n_nlt (b := 20) h6 (by omega) (by decide); omega
    subst hun2
    refine g_aload_0 C dX1_add_13 rfl ?_
    refine g_getr C 0 dX1_add_14 rfl rfl rfl fl_X1_11 (hR 3 0 4 rfl) ?_
    refine g_aload_0 C dX1_add_17 rfl ?_
    refine g_geti C 1 dX1_add_18 rfl rfl rfl fl_X1_17 ?_
    rw [show mI (sI (sX S (shQ (mQ S 4) 20)) 3 1 19) 3 1 = nI 19 from rfl]
    refine g_aload_1 C dX1_add_21 rfl ?_
    refine g_aast (y := some x) C dX1_add_22 rfl rfl (n_in (show 19 < 20 by decide) (by decide)) (fun z e => by cases e; exact hx2) ?_
    rw [nI_clamp (show 19 < 2 ^ 31 by decide)]
    refine g_aload_0 C dX1_add_23 rfl ?_
    refine g_dup C dX1_add_24 rfl rfl ?_
    refine g_geti C 1 dX1_add_25 rfl rfl rfl fl_X1_17 ?_
    rw [show mI (sQ (sI (sX S (shQ (mQ S 4) 20)) 3 1 19) 4 19 (some x)) 3 1 = nI 19 from rfl]
    refine g_iconst (v := 1) C dX1_add_28 rfl (by decide) ?_
    refine g_iadd C dX1_add_29 rfl ?_
    refine g_puti C 1 dX1_add_30 rfl rfl rfl (Or.inl rfl) fl_X1_17 ?_
    exact g_vret C rfl dX1_add_33 ⟨rfl, by rw [hiS_20, sQ_sX, show mQ (sI (sX S (shQ (mQ S 4) 20)) 3 1 19) 4 = shQ (mQ S 4) 20 from mQ_sX S _, show sX (sI (sX S (shQ (mQ S 4) 20)) 3 1 19) (uq (shQ (mQ S 4) 20) 19 (some x)) = sI (sX (sX S (shQ (mQ S 4) 20)) (uq (shQ (mQ S 4) 20) 19 (some x))) 3 1 19 from rfl, sX_sX, sI_sI]; rfl⟩

def tkV (S : Mem) (un : Nat) : Option Nat := if un = 0 then none else mQ S 4 (un - 1)
def tkS (S : Mem) (un : Nat) : Mem := if un = 0 then S else sI S 3 1 (nI (un - 1))
set_option maxHeartbeats 4000000 in
set_option maxRecDepth 20000 in
theorem ok_X1_takeLatest (S : Mem) (hR : Rs S) (un : Nat) (hun : mI S 3 1 = nI un) (hu : un ≤ 20) : Ok yX1_takeLatest cX1_takeLatest 1 (some (.object "BarrelMoon$Moment")) 0 0 0 [.ref 3] S (RR (tkV S un) (tkS S un)) := by
  refine Ok.of (by decide) (Nat.le_of_ble_eq_true rfl) rfl (fun κ C hx => ?_)
  have C : Cx RX1 cX1_takeLatest 1 (some (.object "BarrelMoon$Moment")) 0 false _ κ := C
  refine g_aload_0 C dX1_takeLatest_0 rfl ?_
  refine g_geti C 1 dX1_takeLatest_1 rfl rfl rfl fl_X1_17 ?_
  refine g_iconst (v := 1) C dX1_takeLatest_4 rfl (by decide) ?_
  refine g_icmp_ge (tgt := 10) C dX1_takeLatest_5 rfl (by decide) (fun h5 => ?_) (fun h5 => ?_)
  · skip
    refine g_aload_0 C dX1_takeLatest_10 rfl ?_
    have h0 : 1 ≤ un := by rw [hun] at h5; exact n_ge (b := 1) h5 (by omega) (by decide)
    refine g_dup C dX1_takeLatest_11 rfl rfl ?_
    refine g_geti C 1 dX1_takeLatest_12 rfl rfl rfl fl_X1_17 ?_
    rw [hun]
    refine g_iconst (v := 1) C dX1_takeLatest_15 rfl (by decide) ?_
    refine g_isub C dX1_takeLatest_16 rfl ?_
    rw [i_min1 (k := un) h0]
    refine g_puti C 1 dX1_takeLatest_17 rfl rfl rfl (Or.inl rfl) fl_X1_17 ?_
    refine g_aload_0 C dX1_takeLatest_20 rfl ?_
    refine g_getr C 0 dX1_takeLatest_21 rfl rfl rfl fl_X1_11 (hR 3 0 4 rfl) ?_
    refine g_aload_0 C dX1_takeLatest_24 rfl ?_
    refine g_geti C 1 dX1_takeLatest_25 rfl rfl rfl fl_X1_17 ?_
    rw [show mI (sI S 3 1 (nI (un - 1))) 3 1 = nI (un - 1) from rfl]
    refine g_aald C dX1_takeLatest_28 rfl rfl (n_in (show un - 1 < 20 by omega) (by decide)) ?_
    rw [nI_clamp (show un - 1 < 2 ^ 31 by omega)]
    exact g_aret (x := _) C rfl dX1_takeLatest_29 ⟨by unfold tkV; rw [if_neg (by omega)]; rfl, by unfold tkS; rw [if_neg (by omega)]⟩
  · skip
    refine g_null C dX1_takeLatest_8 rfl ?_
    exact g_aret (x := none) C rfl dX1_takeLatest_9 ⟨by unfold tkV; rw [if_pos (by rw [hun] at h5; have := n_lt (a := un) (b := 1) h5 (by omega) (by decide); omega)], by unfold tkS; rw [if_pos (by rw [hun] at h5; have := n_lt (a := un) (b := 1) h5 (by omega) (by decide); omega)]⟩

