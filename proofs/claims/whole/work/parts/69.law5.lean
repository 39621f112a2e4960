/-! the law's loop -/
theorem b_f31 : ∀ i, i < 32 → bt 31 i = decide (i < 5) := by decide +kernel
theorem and31 (x : Int32) : ∃ k : Nat, k < 32 ∧ x &&& 31 = nI k := by
  have h := low_nat (x := x &&& 31) (n := 5) (fun i h1 h2 => by rw [b_and, b_f31 i h2, decide_eq_false (by omega), Bool.and_false])
  exact ⟨_, h.2, h.1⟩
theorem l_m4 : ∀ L, L ≤ 256 → (nI L - 4).toInt = (L : Int) - 4 := by decide +kernel
theorem i_up {L i : Nat} (hL : L ≤ 256) (hi : i < 1000) (h : ¬ nI L - 4 < nI i) : i + 4 ≤ L := by
  rw [Int32.lt_iff_toInt_lt, l_m4 L hL] at h
  have e : (nI i).toInt = (i : Int) := by
    have : ∀ i, i < 1000 → (nI i).toInt = (i : Int) := by decide +kernel
    exact this i hi
  omega
set_option maxHeartbeats 4000000 in
set_option maxRecDepth 20000 in
theorem lp_law {κ : Kx} {b L : Nat} {xs : Nat → Int32} (C : Cx RL cL_law 4 (some .boolean) 20 false (fun r _ => r = some (.int 1)) κ) (hsc : Sc9 κ b L xs) (hL : L ≤ 256) : ∀ (n i : Nat) (S : Mem), Rel9 S → i ≤ L + 4 → L + 1 ≤ i + n → G κ n (4 * n) S 18 [.float 0, .ref 0, .ref 25, .int (nI i)] [] := by
  intro n
  induction n with
  | zero =>
    intro i S hR h1 h2
    refine g_iload_3 C dL_law_18 rfl ?_
    refine g_slen C hsc dL_law_19 dL_law_20 rfl ?_
    refine g_iconst (v := 4) C dL_law_21 rfl (by decide) ?_
    refine g_isub C dL_law_22 rfl ?_
    refine g_icmp_gt (tgt := 865) C dL_law_23 rfl (by decide) (fun h => ?_) (fun h => absurd (i_up hL (by omega) h) (by omega))
    refine g_iconst (v := 1) C dL_law_865 rfl (by decide) ?_
    exact g_zret C rfl dL_law_866 (Or.inr rfl) rfl
  | succ n ih =>
    intro i S hR h1 h2
    refine g_iload_3 C dL_law_18 rfl ?_
    refine g_slen C hsc dL_law_19 dL_law_20 rfl ?_
    refine g_iconst (v := 4) C dL_law_21 rfl (by decide) ?_
    refine g_isub C dL_law_22 rfl ?_
    refine g_icmp_gt (tgt := 865) C dL_law_23 rfl (by decide) (fun h => ?_) (fun h => ?_)
    · refine g_iconst (v := 1) C dL_law_865 rfl (by decide) ?_
      exact g_zret C rfl dL_law_866 (Or.inr rfl) rfl
    · have hi := i_up hL (by omega) h
      have K : ∀ S2, Rel9 S2 → G κ n (4 * n) S2 859 [.float 0, .ref 0, .ref 25, .int (nI i)] [] := fun S2 rl => by
        refine g_iinc_3 (z := 4) C rfl dL_law_859 rfl (by decide) ?_
        refine g_goto (tgt := 18) C dL_law_862 (by decide) ?_
        rw [show nI i + 4 = nI (i + 4) from nI_add i 4]
        exact ih (i + 4) S2 rl (by omega) (by omega)
      refine g_scr0 C hsc dL_law_26 dL_law_27 dL_law_28 (by omega) hL rfl ?_
      refine g_bipush (v := 31) C dL_law_29 rfl (by decide) ?_
      refine g_iand C dL_law_31 rfl ?_
      obtain ⟨k, hk, e⟩ := and31 (xs i)
      rw [e]
      match k, hk with
      | 0, _ =>
        refine g_tableIn (off := 132) (tgt := 164) C dL_law_32 (by decide) (by decide) (by decide) (by decide) ?_
        exact g_mono (rc := n + 1) (rs := 4 * n + 4) (by omega) (by omega) (cs_0 C hsc hL hi hR K)
      | 1, _ =>
        refine g_tableIn (off := 155) (tgt := 187) C dL_law_32 (by decide) (by decide) (by decide) (by decide) ?_
        exact g_mono (rc := n + 1) (rs := 4 * n + 4) (by omega) (by omega) (cs_1 C hsc hL hi hR K)
      | 2, _ =>
        refine g_tableIn (off := 168) (tgt := 200) C dL_law_32 (by decide) (by decide) (by decide) (by decide) ?_
        exact g_mono (rc := n + 1) (rs := 4 * n + 4) (by omega) (by omega) (cs_2 C hsc hL hi hR K)
      | 3, _ =>
        refine g_tableIn (off := 181) (tgt := 213) C dL_law_32 (by decide) (by decide) (by decide) (by decide) ?_
        exact g_mono (rc := n + 1) (rs := 4 * n + 1 + 3) (by omega) (by omega) (cs_3 C hsc hL hi hR K)
      | 4, _ =>
        refine g_tableIn (off := 204) (tgt := 236) C dL_law_32 (by decide) (by decide) (by decide) (by decide) ?_
        exact g_mono (rc := n + 1) (rs := 4 * n + 4) (by omega) (by omega) (cs_4 C hsc hL hi hR K)
      | 5, _ =>
        refine g_tableIn (off := 237) (tgt := 269) C dL_law_32 (by decide) (by decide) (by decide) (by decide) ?_
        exact g_mono (rc := n + 1) (rs := 4 * n + 4) (by omega) (by omega) (cs_5 C hsc hL hi hR K)
      | 6, _ =>
        refine g_tableIn (off := 286) (tgt := 318) C dL_law_32 (by decide) (by decide) (by decide) (by decide) ?_
        exact g_mono (rc := n + 1) (rs := 4 * n + 4) (by omega) (by omega) (cs_6 C hsc hL hi hR K)
      | 7, _ =>
        refine g_tableIn (off := 335) (tgt := 367) C dL_law_32 (by decide) (by decide) (by decide) (by decide) ?_
        exact g_mono (rc := n + 1) (rs := 4 * n + 4) (by omega) (by omega) (cs_7 C hsc hL hi hR K)
      | 8, _ =>
        refine g_tableIn (off := 348) (tgt := 380) C dL_law_32 (by decide) (by decide) (by decide) (by decide) ?_
        exact g_mono (rc := n + 1) (rs := 4 * n + 4) (by omega) (by omega) (cs_8 C hsc hL hi hR K)
      | 9, _ =>
        refine g_tableIn (off := 361) (tgt := 393) C dL_law_32 (by decide) (by decide) (by decide) (by decide) ?_
        exact g_mono (rc := n + 1) (rs := 4 * n + 4) (by omega) (by omega) (cs_9 C hsc hL hi hR K)
      | 10, _ =>
        refine g_tableIn (off := 384) (tgt := 416) C dL_law_32 (by decide) (by decide) (by decide) (by decide) ?_
        exact g_mono (rc := n + 1) (rs := 4 * n + 4) (by omega) (by omega) (cs_10 C hsc hL hi hR K)
      | 11, _ =>
        refine g_tableIn (off := 397) (tgt := 429) C dL_law_32 (by decide) (by decide) (by decide) (by decide) ?_
        exact g_mono (rc := n + 1) (rs := 4 * n + 4) (by omega) (by omega) (cs_11 C hsc hL hi hR K)
      | 12, _ =>
        refine g_tableIn (off := 420) (tgt := 452) C dL_law_32 (by decide) (by decide) (by decide) (by decide) ?_
        exact g_mono (rc := n + 1) (rs := 4 * n + 1 + 3) (by omega) (by omega) (cs_12 C hsc hL hi hR K)
      | 13, _ =>
        refine g_tableIn (off := 453) (tgt := 485) C dL_law_32 (by decide) (by decide) (by decide) (by decide) ?_
        exact g_mono (rc := n + 1) (rs := 4 * n + 1 + 3) (by omega) (by omega) (cs_13 C hsc hL hi hR K)
      | 14, _ =>
        refine g_tableIn (off := 476) (tgt := 508) C dL_law_32 (by decide) (by decide) (by decide) (by decide) ?_
        exact g_mono (rc := n + 1) (rs := 4 * n + 1 + 3) (by omega) (by omega) (cs_14 C hsc hL hi hR K)
      | 15, _ =>
        refine g_tableIn (off := 499) (tgt := 531) C dL_law_32 (by decide) (by decide) (by decide) (by decide) ?_
        exact g_mono (rc := n + 1) (rs := 4 * n + 1 + 3) (by omega) (by omega) (cs_15 C hsc hL hi hR K)
      | 16, _ =>
        refine g_tableIn (off := 522) (tgt := 554) C dL_law_32 (by decide) (by decide) (by decide) (by decide) ?_
        exact g_mono (rc := n + 1) (rs := 4 * n + 1 + 3) (by omega) (by omega) (cs_16 C hsc hL hi hR K)
      | 17, _ =>
        refine g_tableIn (off := 545) (tgt := 577) C dL_law_32 (by decide) (by decide) (by decide) (by decide) ?_
        exact g_mono (rc := n + 1) (rs := 4 * n + 4) (by omega) (by omega) (cs_17 C hsc hL hi hR K)
      | 18, _ =>
        refine g_tableIn (off := 558) (tgt := 590) C dL_law_32 (by decide) (by decide) (by decide) (by decide) ?_
        exact g_mono (rc := n + 1) (rs := 4 * n + 1 + 3) (by omega) (by omega) (cs_18 C hsc hL hi hR K)
      | 19, _ =>
        refine g_tableIn (off := 571) (tgt := 603) C dL_law_32 (by decide) (by decide) (by decide) (by decide) ?_
        exact g_mono (rc := n + 1) (rs := 4 * n + 4) (by omega) (by omega) (cs_19 C hsc hL hi hR K)
      | 20, _ =>
        refine g_tableIn (off := 604) (tgt := 636) C dL_law_32 (by decide) (by decide) (by decide) (by decide) ?_
        exact g_mono (rc := n + 1) (rs := 4 * n + 4) (by omega) (by omega) (cs_20 C hsc hL hi hR K)
      | 21, _ =>
        refine g_tableIn (off := 663) (tgt := 695) C dL_law_32 (by decide) (by decide) (by decide) (by decide) ?_
        exact g_mono (rc := n + 1) (rs := 4 * n + 4) (by omega) (by omega) (cs_21 C hsc hL hi hR K)
      | 22, _ =>
        refine g_tableIn (off := 686) (tgt := 718) C dL_law_32 (by decide) (by decide) (by decide) (by decide) ?_
        exact g_mono (rc := n + 1) (rs := 4 * n + 4) (by omega) (by omega) (cs_22 C hsc hL hi hR K)
      | 23, _ =>
        refine g_tableIn (off := 699) (tgt := 731) C dL_law_32 (by decide) (by decide) (by decide) (by decide) ?_
        exact g_mono (rc := n + 1) (rs := 4 * n + 4) (by omega) (by omega) (cs_23 C hsc hL hi hR K)
      | 24, _ =>
        refine g_tableIn (off := 732) (tgt := 764) C dL_law_32 (by decide) (by decide) (by decide) (by decide) ?_
        exact g_mono (rc := n + 1) (rs := 4 * n + 4) (by omega) (by omega) (cs_24 C hsc hL hi hR K)
      | 25, _ =>
        refine g_tableIn (off := 745) (tgt := 777) C dL_law_32 (by decide) (by decide) (by decide) (by decide) ?_
        exact g_mono (rc := n + 1) (rs := 4 * n + 1 + 3) (by omega) (by omega) (cs_25 C hsc hL hi hR K)
      | 26, _ =>
        refine g_tableIn (off := 758) (tgt := 790) C dL_law_32 (by decide) (by decide) (by decide) (by decide) ?_
        exact g_mono (rc := n + 1) (rs := 4 * n + 4) (by omega) (by omega) (cs_26 C hsc hL hi hR K)
      | 27, _ =>
        refine g_tableIn (off := 781) (tgt := 813) C dL_law_32 (by decide) (by decide) (by decide) (by decide) ?_
        exact g_mono (rc := n + 1) (rs := 4 * n + 4) (by omega) (by omega) (cs_27 C hsc hL hi hR K)
      | 28, _ =>
        refine g_tableIn (off := 804) (tgt := 836) C dL_law_32 (by decide) (by decide) (by decide) (by decide) ?_
        exact g_mono (rc := n + 1) (rs := 4 * n + 4) (by omega) (by omega) (cs_28 C hsc hL hi hR K)
      | 29, _ =>
        refine g_tableOut (tgt := 859) C dL_law_32 (by decide) (by decide) ?_
        exact g_mono (by omega) (by omega) (K S hR)
      | 30, _ =>
        refine g_tableOut (tgt := 859) C dL_law_32 (by decide) (by decide) ?_
        exact g_mono (by omega) (by omega) (K S hR)
      | 31, _ =>
        refine g_tableOut (tgt := 859) C dL_law_32 (by decide) (by decide) ?_
        exact g_mono (by omega) (by omega) (K S hR)
      | k + 32, h => exact absurd h (by omega)

set_option maxHeartbeats 4000000 in
set_option maxRecDepth 20000 in
theorem law_all {κ : Kx} {b L : Nat} {xs : Nat → Int32} (C : Cx RL cL_law 4 (some .boolean) 20 false (fun r _ => r = some (.int 1)) κ) (hsc : Sc9 κ b L xs) (hL : L ≤ 256) : G κ (L + 1 + 18 + 1 + 24 + 1) (4 * (L + 1) + 470 + 32 + 429 + 12) S09 0 [.float 0, .float 0, .float 0, .float 0] [] := by
  refine g_new (rc := L + 1 + 18 + 1 + 24) (rs := 4 * (L + 1) + 470 + 32 + 429) C 7 dL_law_0 rfl (by decide) cl_L_7 ic_X7 in_X7 (fun _ => rfl) ?_
  rw [show mN S09 = 0 from rfl]
  refine g_dup C dL_law_3 rfl rfl ?_
  refine g_cI0 (rc := L + 1 + 18 + 1) (rs := 4 * (L + 1) + 470 + 32) C dL_law_4 rfl ml_L_9 mz_X7_init (ok_X7_init (sN S09 7) rfl) (by decide) rfl rfl (Nat.le_of_ble_eq_true rfl) (fun _ => ?_)
  rw [show i7S (sN S09 7) = Z19 from rfl]
  refine g_astore_1 C rfl dL_law_7 rfl ?_
  refine g_new (rc := L + 1 + 18) (rs := 4 * (L + 1) + 470) C 8 dL_law_8 rfl (by decide) cl_L_10 ic_X8 in_X8 (fun _ => by rw [z1_N]; rfl) ?_
  rw [z1_N]
  refine g_dup C dL_law_11 rfl rfl ?_
  refine g_cI0 (rc := L + 1) (rs := 4 * (L + 1)) C dL_law_12 rfl ml_L_12 mz_X8_init (ok_X8_init (sN Z19 8) ((qN_sN Z19 8).trans (by rw [z1_N]))) (by decide) rfl rfl (Nat.le_of_ble_eq_true rfl) (fun _ => ?_)
  rw [show i8S (sN Z19 8) = Z29 from rfl]
  refine g_astore_2 C rfl dL_law_15 rfl ?_
  refine g_iconst (v := 0) C dL_law_16 rfl (by decide) ?_
  refine g_istore_3 C rfl dL_law_17 rfl ?_
  exact lp_law C hsc hL (L + 1) 0 Z29 z_rel (by omega) (by omega)
