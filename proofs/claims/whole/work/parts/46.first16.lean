theorem qN_sI (S : Mem) (p j : Nat) (v : Int32) : mN (sI S p j v) = mN S := rfl
theorem qK_sI (S : Mem) (p j : Nat) (v : Int32) : mK (sI S p j v) = mK S := rfl
theorem qI_sI (S : Mem) (p j : Nat) (v : Int32) : mI (sI S p j v) = u2 (mI S) p j v := rfl
theorem qR_sI (S : Mem) (p j : Nat) (v : Int32) : mR (sI S p j v) = mR S := rfl
theorem qA_sI (S : Mem) (p j : Nat) (v : Int32) : mA (sI S p j v) = mA S := rfl
theorem qL_sI (S : Mem) (p j : Nat) (v : Int32) : mL (sI S p j v) = mL S := rfl
theorem qQ_sI (S : Mem) (p j : Nat) (v : Int32) : mQ (sI S p j v) = mQ S := rfl
theorem qN_sR (S : Mem) (p j : Nat) (v : Option Nat) : mN (sR S p j v) = mN S := rfl
theorem qK_sR (S : Mem) (p j : Nat) (v : Option Nat) : mK (sR S p j v) = mK S := rfl
theorem qI_sR (S : Mem) (p j : Nat) (v : Option Nat) : mI (sR S p j v) = mI S := rfl
theorem qR_sR (S : Mem) (p j : Nat) (v : Option Nat) : mR (sR S p j v) = u2 (mR S) p j v := rfl
theorem qA_sR (S : Mem) (p j : Nat) (v : Option Nat) : mA (sR S p j v) = mA S := rfl
theorem qL_sR (S : Mem) (p j : Nat) (v : Option Nat) : mL (sR S p j v) = mL S := rfl
theorem qQ_sR (S : Mem) (p j : Nat) (v : Option Nat) : mQ (sR S p j v) = mQ S := rfl
theorem qN_sA (S : Mem) (p j : Nat) (v : Int32) : mN (sA S p j v) = mN S := rfl
theorem qK_sA (S : Mem) (p j : Nat) (v : Int32) : mK (sA S p j v) = mK S := rfl
theorem qI_sA (S : Mem) (p j : Nat) (v : Int32) : mI (sA S p j v) = mI S := rfl
theorem qR_sA (S : Mem) (p j : Nat) (v : Int32) : mR (sA S p j v) = mR S := rfl
theorem qA_sA (S : Mem) (p j : Nat) (v : Int32) : mA (sA S p j v) = u2 (mA S) p j v := rfl
theorem qL_sA (S : Mem) (p j : Nat) (v : Int32) : mL (sA S p j v) = mL S := rfl
theorem qQ_sA (S : Mem) (p j : Nat) (v : Int32) : mQ (sA S p j v) = mQ S := rfl
theorem qN_sL (S : Mem) (p j : Nat) (v : Int64) : mN (sL S p j v) = mN S := rfl
theorem qK_sL (S : Mem) (p j : Nat) (v : Int64) : mK (sL S p j v) = mK S := rfl
theorem qI_sL (S : Mem) (p j : Nat) (v : Int64) : mI (sL S p j v) = mI S := rfl
theorem qR_sL (S : Mem) (p j : Nat) (v : Int64) : mR (sL S p j v) = mR S := rfl
theorem qA_sL (S : Mem) (p j : Nat) (v : Int64) : mA (sL S p j v) = mA S := rfl
theorem qL_sL (S : Mem) (p j : Nat) (v : Int64) : mL (sL S p j v) = u2 (mL S) p j v := rfl
theorem qQ_sL (S : Mem) (p j : Nat) (v : Int64) : mQ (sL S p j v) = mQ S := rfl
theorem qN_sQ (S : Mem) (p j : Nat) (v : Option Nat) : mN (sQ S p j v) = mN S := rfl
theorem qK_sQ (S : Mem) (p j : Nat) (v : Option Nat) : mK (sQ S p j v) = mK S := rfl
theorem qI_sQ (S : Mem) (p j : Nat) (v : Option Nat) : mI (sQ S p j v) = mI S := rfl
theorem qR_sQ (S : Mem) (p j : Nat) (v : Option Nat) : mR (sQ S p j v) = mR S := rfl
theorem qA_sQ (S : Mem) (p j : Nat) (v : Option Nat) : mA (sQ S p j v) = mA S := rfl
theorem qL_sQ (S : Mem) (p j : Nat) (v : Option Nat) : mL (sQ S p j v) = mL S := rfl
theorem qQ_sQ (S : Mem) (p j : Nat) (v : Option Nat) : mQ (sQ S p j v) = u2 (mQ S) p j v := rfl
theorem qN_sW (S : Mem) (p : Nat) (f : Nat → Int32) : mN (sW S p f) = mN S := rfl
theorem qK_sW (S : Mem) (p : Nat) (f : Nat → Int32) : mK (sW S p f) = mK S := rfl
theorem qI_sW (S : Mem) (p : Nat) (f : Nat → Int32) : mI (sW S p f) = mI S := rfl
theorem qR_sW (S : Mem) (p : Nat) (f : Nat → Int32) : mR (sW S p f) = mR S := rfl
theorem qL_sW (S : Mem) (p : Nat) (f : Nat → Int32) : mL (sW S p f) = mL S := rfl
theorem qQ_sW (S : Mem) (p : Nat) (f : Nat → Int32) : mQ (sW S p f) = mQ S := rfl
theorem qN_sV (S : Mem) (p : Nat) (f : Nat → Int64) : mN (sV S p f) = mN S := rfl
theorem qK_sV (S : Mem) (p : Nat) (f : Nat → Int64) : mK (sV S p f) = mK S := rfl
theorem qI_sV (S : Mem) (p : Nat) (f : Nat → Int64) : mI (sV S p f) = mI S := rfl
theorem qR_sV (S : Mem) (p : Nat) (f : Nat → Int64) : mR (sV S p f) = mR S := rfl
theorem qA_sV (S : Mem) (p : Nat) (f : Nat → Int64) : mA (sV S p f) = mA S := rfl
theorem qQ_sV (S : Mem) (p : Nat) (f : Nat → Int64) : mQ (sV S p f) = mQ S := rfl
theorem qN_uS (S : Mem) (g : Nat → Int32) : mN (uS S g) = mN S := rfl
theorem qK_uS (S : Mem) (g : Nat → Int32) : mK (uS S g) = mK S := rfl
theorem qR_uS (S : Mem) (g : Nat → Int32) : mR (uS S g) = mR S := rfl
theorem qA_uS (S : Mem) (g : Nat → Int32) : mA (uS S g) = mA S := rfl
theorem qL_uS (S : Mem) (g : Nat → Int32) : mL (uS S g) = mL S := rfl
theorem qQ_uS (S : Mem) (g : Nat → Int32) : mQ (uS S g) = mQ S := rfl
theorem ok_X5_readIntoS (S : Mem) (hR : Rs S) (tn : Nat) (hX : Tx (mA S 2) tn) (h1 : mI S 1 1 = nI tn) (dr : Nat) (hdr : 16 ≤ dr) (hK : TwK S dr) : Ok yX5_readInto cX5_readInto 3 none 5 0 0 [.ref 1, .ref dr] S (RW (fun S2 => ∃ D g2, S2 = uS D g2 ∧ Fdr dr S D ∧ g2 1 = nI tn ∧ riQ D dr g2 tn (prF (mA S 2) tn (tn + 1) (0, 0, 0, mA S (dr + 1), mA S (dr + 2), mA S (dr + 3), 0)))) := by
  have h := ok_X5_readInto S hR tn hX (mI S 1) h1 dr hdr hK
  rw [uS_self] at h
  exact h
theorem be7_e (M : Mem) (se : Int32) : be7 M se = sR (moS M se 0 0 0) 0 10 (some (mN M)) := rfl
theorem be7_I (M : Mem) (se : Int32) {p : Nat} (hp : p < mN M) : mI (be7 M se) p = mI M p := by rw [be7_e, qI_sR]; exact ((moS_ext M se 0 0 0).2 p hp).2.1
theorem be7_K (M : Mem) (se : Int32) {p : Nat} (hp : p < mN M) : mK (be7 M se) p = mK M p := by rw [be7_e, qK_sR]; exact ((moS_ext M se 0 0 0).2 p hp).1
theorem be7_A (M : Mem) (se : Int32) {p : Nat} (hp : p < mN M) : mA (be7 M se) p = mA M p := by rw [be7_e, qA_sR]; exact ((moS_ext M se 0 0 0).2 p hp).2.2.2.1
theorem be7_L (M : Mem) (se : Int32) {p : Nat} (hp : p < mN M) : mL (be7 M se) p = mL M p := by rw [be7_e, qL_sR]; exact ((moS_ext M se 0 0 0).2 p hp).2.2.2.2.1
theorem be7_Q (M : Mem) (se : Int32) {p : Nat} (hp : p < mN M) : mQ (be7 M se) p = mQ M p := by rw [be7_e, qQ_sR]; exact ((moS_ext M se 0 0 0).2 p hp).2.2.2.2.2
theorem be7_Rj (M : Mem) (se : Int32) {p j : Nat} (hp : p < mN M) (hj : j ≠ 10) : mR (be7 M se) p j = mR M p j := by
  rw [be7_e, qR_sR, u2_jn _ _ p _ hj]
  exact congrFun ((moS_ext M se 0 0 0).2 p hp).2.2.1 j
theorem be7c_e (M : Mem) : be7c M = sQ (sQ (sI (sI (sI M 3 1 0) 5 3 0) 9 2 0) 12 0 none) 12 1 none := rfl
theorem be7c_I (M : Mem) {p : Nat} (h3 : p ≠ 3) (h5 : p ≠ 5) (h9 : p ≠ 9) : mI (be7c M) p = mI M p := by rw [be7c_e, qI_sQ, qI_sQ, qI_sI, u2_nep _ _ _ _ h9, qI_sI, u2_nep _ _ _ _ h5, qI_sI, u2_nep _ _ _ _ h3]
theorem be7c_R (M : Mem) : mR (be7c M) = mR M := by rw [be7c_e, qR_sQ, qR_sQ, qR_sI, qR_sI, qR_sI]
theorem be7c_K (M : Mem) : mK (be7c M) = mK M := by rw [be7c_e, qK_sQ, qK_sQ, qK_sI, qK_sI, qK_sI]
theorem be7S_e (M : Mem) (se : Int32) : be7S M se = be7c (be7 M se) := rfl
def twQ (S : Mem) (dr t tn : Nat) : Int32 → Mem → Prop := fun v S2 => match prF (mA S 2) tn (tn + 1) (0, 0, 0, mA S (dr + 1), mA S (dr + 2), mA S (dr + 3), 0) with
  | .inl (k, pl) => (1 ≤ k ∧ k ≤ 4) ∧ v = -10 - nI k ∧ ∃ D g2, S2 = uS D g2 ∧ Fdr dr S D ∧ g2 1 = 0 ∧ g2 5 = nI pl
  | .inr τ => TauOk tn τ ∧ v = nI τ.2.2.1 ∧ ∃ D g2, S2 = be7S (sR (sR (uS D g2) 0 8 (some dr)) 0 9 (some t)) τ.2.2.2.2.2.2 ∧ Fdr dr S D ∧ g2 1 = 0 ∧ g2 5 = -1 ∧ Dr D dr τ
theorem R0_8 (j : Nat) (h : j = 8 ∨ j = 9 ∨ j = 10) : R0 0 j = none := by rcases h with rfl | rfl | rfl <;> rfl
theorem Rs.up {S : Mem} (h : Rs S) {j : Nat} (hj : j = 8 ∨ j = 9 ∨ j = 10) (x : Option Nat) : Rs (sR S 0 j x) := fun p i r e => by
  show u2 (mR S) 0 j x p i = some r
  unfold u2
  by_cases hp : p = 0
  · by_cases hi : i = j
    · rw [hp, hi, R0_8 j hj] at e; cases e
    · rw [if_pos hp, if_neg hi]; exact h p i r e
  · rw [if_neg hp]; exact h p i r e
