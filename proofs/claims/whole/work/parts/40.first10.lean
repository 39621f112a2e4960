theorem hasB_f {x k : Int32} (h : hasB x k = false) : bitI x k = 0 := (and1 (x >>> (k &&& 31))).elim id (fun e => absurd e (of_decide_eq_false h))
theorem hasB_t {x k : Int32} (h : hasB x k = true) : bitI x k = 1 := of_decide_eq_true h
theorem ad0 (x : Int32) : x + 0 = x := Int32.add_zero x
theorem adF_n (c : Nat → Int32) (all : Int32) (s : Nat) (h : bitI all (nI s) = 0) : adF c all (s + 1) = adF c all s := by
  rw [← adF_s, h]
  funext j
  unfold upd adF
  by_cases h1 : j = s
  · rw [if_pos h1, if_neg (by omega), h1, ad0]
  · rw [if_neg h1]
set_option maxHeartbeats 4000000 in
set_option maxRecDepth 20000 in
theorem lp_X7_countYes {κ : Kx} {Φ : Option Value → Mem → Prop} (C : Cx RX7 cX7_countYes 3 none 1 false Φ κ) (S : Mem) (hR : Rs S) (f c : Nat → Int32) (all : Int32) (hΦ : Φ none (sW S 15 (gl (adF c all 16) f 16))) : ∀ (n k : Nat), k ≤ 16 → 16 + 1 ≤ k + n → G κ 0 0 (sW S 15 (gl (adF c all k) f 16)) 2 [.ref 0, .int all, .int (nI k)] [] := by
  intro n
  induction n with
  | zero => intro k h1 h2; exact absurd h2 (by omega)
  | succ n ih =>
    intro k hk1 hk2
    refine g_iload_2 C dX7_countYes_2 rfl ?_
    refine g_bipush (v := 16) C dX7_countYes_3 rfl (by decide) ?_
    refine g_icmp_ge (tgt := 32) C dX7_countYes_5 rfl (by decide) (fun h5 => ?_) (fun h5 => ?_)
    · skip
      have hk : k = 16 := by have := n_ge (b := 16) h5 (by omega) (by omega); omega
      rw [hk]
      exact g_vret C rfl dX7_countYes_32 hΦ
    · skip
      refine g_iload_1 C dX7_countYes_8 rfl ?_
      refine g_iload_2 C dX7_countYes_9 rfl ?_
      refine g_cS2i C dX7_countYes_10 rfl ml_X7_158 mz_X7_has (ok_X7_has _ _ _) (by decide) rfl rfl (Nat.le_of_ble_eq_true rfl) (fun hn10 => ?_)
      refine g_if_eq (tgt := 26) C dX7_countYes_13 rfl (by decide) (fun h13 => ?_) (fun h13 => ?_)
      · skip
        refine g_iinc_2 (z := 1) C rfl dX7_countYes_26 rfl (by decide) ?_
        refine g_goto (tgt := 2) C dX7_countYes_29 (by decide) ?_
        have hk : k < 16 := n_lt (b := 16) h5 (by omega) (by omega)
        rw [nI_1]
        have := ih (k + 1) (by omega) (by omega)
        rw [adF_n c all k (hasB_f ((bI_0 _).mp h13))] at this
        exact this
      · skip
        refine g_aload_0 C dX7_countYes_16 rfl ?_
        have hk : k < 16 := n_lt (b := 16) h5 (by omega) (by omega)
        refine g_getr C 7 dX7_countYes_17 rfl rfl rfl fl_X7_51 (hR 0 7 15 rfl) ?_
        refine g_iload_2 C dX7_countYes_20 rfl ?_
        refine g_dup2 C dX7_countYes_21 rfl rfl rfl ?_
        refine g_iald C dX7_countYes_22 rfl rfl (n_in (show k < 16 by have := n_lt (b := 16) h5 (by omega) (by omega); omega) (by decide)) ?_
        rw [nI_clamp (show k < 2 ^ 31 by omega), mA_sW, gl_at _ _ (show k < 16 by omega), show adF c all k k = c k from if_neg (by omega)]
        refine g_iconst (v := 1) C dX7_countYes_23 rfl (by decide) ?_
        refine g_iadd C dX7_countYes_24 rfl ?_
        refine g_iast C dX7_countYes_25 rfl rfl (n_in (show k < 16 by have := n_lt (b := 16) h5 (by omega) (by omega); omega) (by decide)) ?_
        rw [nI_clamp (show k < 2 ^ 31 by omega), sA_sW, mA_sW, sW_sW, gl_upd _ _ (show k < 16 by omega), ← hasB_t (x := all) (k := nI k) (nf_t (fun q => h13 ((bI_0 _).mpr q))), adF_s]
        refine g_iinc_2 (z := 1) C rfl dX7_countYes_26 rfl (by decide) ?_
        refine g_goto (tgt := 2) C dX7_countYes_29 (by decide) ?_
        have hk : k < 16 := n_lt (b := 16) h5 (by omega) (by omega)
        rw [nI_1]
        have := ih (k + 1) (by omega) (by omega)
        exact this

set_option maxHeartbeats 4000000 in
set_option maxRecDepth 20000 in
theorem ok_X7_countYes (f c : Nat → Int32) (all : Int32) (S : Mem) (hR : Rs S) : Ok yX7_countYes cX7_countYes 3 none 1 0 0 [.ref 0, .int all] (sW S 15 (gl c f 16)) (RV (sW S 15 (gl (adF c all 16) f 16))) := by
  refine Ok.of (by decide) (Nat.le_of_ble_eq_true rfl) rfl (fun κ C hx => ?_)
  have C : Cx RX7 cX7_countYes 3 none 1 false _ κ := C
  refine g_iconst (v := 0) C dX7_countYes_0 rfl (by decide) ?_
  refine g_istore_2 C rfl dX7_countYes_1 rfl ?_
  have h0 := lp_X7_countYes C S hR f c all ⟨rfl, rfl⟩ 17 0 (by omega) (by omega)
  rw [adF_0] at h0
  exact h0

theorem CW.sw {S : Mem} {t nw th nr : Nat} (h : CW S t nw th nr) (ht : 16 ≤ t) (g : Nat → Int32) : CW (sW S 15 g) t nw th nr :=
  ⟨h.1, h.2.1, h.2.2.1, h.2.2.2.1, h.2.2.2.2.1, h.2.2.2.2.2.1, by rw [mA_sW_ne S g (show t + 2 ≠ 15 by omega)]; exact h.2.2.2.2.2.2.1, by rw [mA_sW_ne S g (show t + 1 ≠ 15 by omega)]; exact h.2.2.2.2.2.2.2⟩
def anG (F : Nat → Bool) (cl : Nat → Int32) : Nat → Int32 × (Nat → Int32)
  | 0 => (0, fun _ => 0)
  | k + 1 => if F k = true then ((anG F cl k).1 + 1, adF (anG F cl k).2 (cl k) 16) else anG F cl k
noncomputable def an7 (S : Mem) (t nw nr an k : Nat) : Int32 × (Nat → Int32) := anG (ft7 S t nr an) (fun k => clo nr (mA S (t + 2)) (mA S (t + 3)) (nI k) (mI S nw 0)) k
theorem prt_max (m a : Int32) : (if a < m - a then m - a else a) = prt m a := by
  unfold prt
  by_cases h : a < m - a
  · rw [if_pos h, if_pos (i_lt_le (fun q => by rw [Int32.lt_iff_toInt_lt] at h q; omega))]
  · rw [if_neg h]
    by_cases h2 : a ≤ m - a
    · rw [if_pos h2]
      rw [Int32.lt_iff_toInt_lt] at h
      rw [Int32.le_iff_toInt_le] at h2
      exact Int32.toInt_inj.mp (by omega)
    · rw [if_neg h2]
set_option maxHeartbeats 4000000 in
set_option maxRecDepth 20000 in
theorem lp_X7_ca1 {κ : Kx} {Φ : Option Value → Mem → Prop} (C : Cx RX7 cX7_countAnswers 3 (some .int) 3 false Φ κ) (S : Mem) (hR : Rs S) (f : Nat → Int32) (v2 : Value) (K : ∀ v1 : Value, G κ 0 0 (sW S 15 (gl (fun _ => 0) f 16)) 21 [.ref 0, v1, v2] []) : ∀ (n k : Nat), k ≤ 16 → 16 + 1 ≤ k + n → G κ 0 0 (sW S 15 (gl (fun _ => 0) f k)) 2 [.ref 0, .int (nI k), v2] [] := by
  intro n
  induction n with
  | zero => intro k h1 h2; exact absurd h2 (by omega)
  | succ n ih =>
    intro k hk1 hk2
    refine g_iload_1 C dX7_countAnswers_2 rfl ?_
    refine g_bipush (v := 16) C dX7_countAnswers_3 rfl (by decide) ?_
    refine g_icmp_ge (tgt := 21) C dX7_countAnswers_5 rfl (by decide) (fun h5 => ?_) (fun h5 => ?_)
    · skip
      have hk : k = 16 := by have := n_ge (b := 16) h5 (by omega) (by omega); omega
      rw [hk]
      exact K _
    · skip
      refine g_aload_0 C dX7_countAnswers_8 rfl ?_
      refine g_getr C 7 dX7_countAnswers_9 rfl rfl rfl fl_X7_51 (hR 0 7 15 rfl) ?_
      refine g_iload_1 C dX7_countAnswers_12 rfl ?_
      refine g_iconst (v := 0) C dX7_countAnswers_13 rfl (by decide) ?_
      refine g_iast C dX7_countAnswers_14 rfl rfl (n_in (show k < 16 by have := n_lt (b := 16) h5 (by omega) (by omega); omega) (by decide)) ?_
      rw [nI_clamp (show k < 2 ^ 31 by omega), sA_sW, mA_sW, sW_sW, gl_s (fun _ => 0)]
      refine g_iinc_1 (z := 1) C rfl dX7_countAnswers_15 rfl (by decide) ?_
      refine g_goto (tgt := 2) C dX7_countAnswers_18 (by decide) ?_
      have hk : k < 16 := n_lt (b := 16) h5 (by omega) (by omega)
      rw [nI_1]
      exact ih (k + 1) (by omega) (by omega)

set_option maxHeartbeats 4000000 in
set_option maxRecDepth 20000 in
theorem lp_X7_ca2 {κ : Kx} {Φ : Option Value → Mem → Prop} (C : Cx RX7 cX7_countAnswers 3 (some .int) 3 false Φ κ) (S : Mem) (t nw th nr : Nat) (hC : CW S t nw th nr) (ht : 16 ≤ t) (an : Nat) (han : mI S 5 3 = nI an) (ha : an ≤ 6) (f : Nat → Int32) (hΦ : Φ (some (.int (an7 S t nw nr an (2 ^ nr)).1)) (sW S 15 (gl (an7 S t nw nr an (2 ^ nr)).2 f 16))) : ∀ (n k : Nat), k ≤ 2 ^ nr → 2 ^ nr + 1 ≤ k + n → G κ 0 0 (sW S 15 (gl (an7 S t nw nr an k).2 f 16)) 25 [.ref 0, .int (an7 S t nw nr an k).1, .int (nI k)] [] := by
  have hR := hC.1.1
  have h10 := hC.2.2.2.2.2.2.1.1
  have hp := pw10 h10
  have hp1 := Nat.one_le_two_pow (n := nr)
  intro n
  induction n with
  | zero => intro k h1 h2; exact absurd h2 (by omega)
  | succ n ih =>
    intro k hk1 hk2
    refine g_iload_2 C dX7_countAnswers_25 rfl ?_
    refine g_aload_0 C dX7_countAnswers_26 rfl ?_
    refine g_getr C 8 dX7_countAnswers_27 rfl rfl rfl fl_X7_57 (hC.sw ht _).2.1.1 ?_
    refine g_cD0i C dX7_countAnswers_30 rfl ml_X7_247 mz_X4_allRules (ok_X4_allRules t (sW S 15 (gl (an7 S t nw nr an k).2 f 16)) (hC.sw ht _).2.2.1) (by decide) rfl rfl (hC.sw ht _).2.2.1.1 (by decide) rfl (Nat.le_of_ble_eq_true rfl) (fun hn30 => ?_)
    rw [show mI (sW S 15 (gl (an7 S t nw nr an k).2 f 16)) t 4 = nI nr from hC.2.2.2.2.2.1, mask_nI nr (by omega)]
    refine g_icmp_gt (tgt := 79) C dX7_countAnswers_33 rfl (by decide) (fun h33 => ?_) (fun h33 => ?_)
    · skip
      have hk : k = 2 ^ nr := by have := n_lt' (a := 2 ^ nr - 1) (b := k) h33 (by omega) (by omega); omega
      rw [hk]
      refine g_iload_1 C dX7_countAnswers_79 rfl ?_
      exact g_iret C rfl dX7_countAnswers_80 hΦ
    · skip
      refine g_aload_0 C dX7_countAnswers_36 rfl ?_
      refine g_getr C 2 dX7_countAnswers_37 rfl rfl rfl fl_X7_26 (hR 0 2 5 rfl) ?_
      refine g_aload_0 C dX7_countAnswers_40 rfl ?_
      refine g_getr C 8 dX7_countAnswers_41 rfl rfl rfl fl_X7_57 (hC.sw ht _).2.1.1 ?_
      refine g_iload_2 C dX7_countAnswers_44 rfl ?_
      refine g_cV2i C dX7_countAnswers_45 rfl ml_X7_250 mz_X3_fit (ok_X3_fit _ t (sW S 15 (gl (an7 S t nw nr an k).2 f 16)) (hC.sw ht _).2.2.1 hR nr (hC.sw ht _).2.2.2.2.2.1 (hC.sw ht _).2.2.2.2.2.2.1 an han ha) (by decide) rfl rfl rfl rfl (Nat.le_of_ble_eq_true rfl) (fun hn45 => ?_)
      rw [mA_sW_ne S _ (show t + 2 ≠ 15 by omega), mA_sW_ne S _ (show t + 3 ≠ 15 by omega)]
      refine g_if_eq (tgt := 73) C dX7_countAnswers_48 rfl (by decide) (fun h48 => ?_) (fun h48 => ?_)
      · skip
        refine g_iinc_2 (z := 1) C rfl dX7_countAnswers_73 rfl (by decide) ?_
        refine g_goto (tgt := 25) C dX7_countAnswers_76 (by decide) ?_
        have hk : k < 2 ^ nr := by have := n_nlt (a := 2 ^ nr - 1) (b := k) h33 (by omega) (by omega); omega
        rw [nI_1]
        have e : an7 S t nw nr an (k + 1) = (an7 S t nw nr an k) := if_neg (by rw [show ft7 S t nr an k = false from (bI_0 _).mp h48]; decide)
        have := ih (k + 1) (by omega) (by omega)
        rw [e] at this
        exact this
      · skip
        refine g_aload_0 C dX7_countAnswers_51 rfl ?_
        refine g_aload_0 C dX7_countAnswers_52 rfl ?_
        refine g_getr C 8 dX7_countAnswers_53 rfl rfl rfl fl_X7_57 (hC.sw ht _).2.1.1 ?_
        refine g_aload_0 C dX7_countAnswers_56 rfl ?_
        refine g_getr C 10 dX7_countAnswers_57 rfl rfl rfl fl_X7_67 (hC.sw ht _).2.1.2 ?_
        refine g_getiD C 0 dX7_countAnswers_60 rfl (hC.sw ht _).2.2.2.1 (by decide) (by decide) rfl fl_X7_115 ?_
        refine g_iload_2 C dX7_countAnswers_63 rfl ?_
        refine g_cD2i C dX7_countAnswers_64 rfl ml_X7_181 mz_X4_closure (ok_X4_closure _ _ t (sW S 15 (gl (an7 S t nw nr an k).2 f 16)) (hC.sw ht _).2.2.1 nr (hC.sw ht _).2.2.2.2.2.1 (hC.sw ht _).2.2.2.2.2.2.1) (by decide) rfl rfl (hC.sw ht _).2.2.1.1 (by decide) rfl (Nat.le_of_ble_eq_true rfl) (fun hn64 => ?_)
        rw [mA_sW_ne S _ (show t + 2 ≠ 15 by omega), mA_sW_ne S _ (show t + 3 ≠ 15 by omega)]
        refine g_cV1v C dX7_countAnswers_67 rfl ml_X7_262 mz_X7_countYes (ok_X7_countYes f (an7 S t nw nr an k).2 _ S hR) (by decide) rfl rfl rfl rfl (Nat.le_of_ble_eq_true rfl) (fun hn67 => ?_)
        refine g_iinc_1 (z := 1) C rfl dX7_countAnswers_70 rfl (by decide) ?_
        refine g_iinc_2 (z := 1) C rfl dX7_countAnswers_73 rfl (by decide) ?_
        refine g_goto (tgt := 25) C dX7_countAnswers_76 (by decide) ?_
        have hk : k < 2 ^ nr := by have := n_nlt (a := 2 ^ nr - 1) (b := k) h33 (by omega) (by omega); omega
        rw [nI_1]
        have e : an7 S t nw nr an (k + 1) = _ := if_pos (show ft7 S t nr an k = true from (nf_t (fun q => h48 ((bI_0 _).mpr q))))
        have := ih (k + 1) (by omega) (by omega)
        rw [e] at this
        exact this

set_option maxHeartbeats 4000000 in
set_option maxRecDepth 20000 in
theorem ok_X7_countAnswers (S : Mem) (t nw th nr : Nat) (hC : CW S t nw th nr) (ht : 16 ≤ t) (an : Nat) (han : mI S 5 3 = nI an) (ha : an ≤ 6) : Ok yX7_countAnswers cX7_countAnswers 3 (some .int) 3 0 0 [.ref 0] S (RI (an7 S t nw nr an (2 ^ nr)).1 (sW S 15 (gl (an7 S t nw nr an (2 ^ nr)).2 (mA S 15) 16))) := by
  have hR := hC.1.1
  refine Ok.of (by decide) (Nat.le_of_ble_eq_true rfl) rfl (fun κ C hx => ?_)
  have C : Cx RX7 cX7_countAnswers 3 (some .int) 3 false _ κ := C
  refine g_iconst (v := 0) C dX7_countAnswers_0 rfl (by decide) ?_
  refine g_istore_1 C rfl dX7_countAnswers_1 rfl ?_
  have h0 := lp_X7_ca1 C S hR (mA S 15) (.float 0) (fun v1 => ?_) 17 0 (by omega) (by omega)
  · rw [gl_0, sW_self] at h0
    exact h0
  · refine g_iconst (v := 0) C dX7_countAnswers_21 rfl (by decide) ?_
    refine g_istore_1 C rfl dX7_countAnswers_22 rfl ?_
    refine g_iconst (v := 0) C dX7_countAnswers_23 rfl (by decide) ?_
    refine g_istore_2 C rfl dX7_countAnswers_24 rfl ?_
    exact lp_X7_ca2 C S t nw th nr hC ht an han ha (mA S 15) ⟨rfl, rfl⟩ (2 ^ nr + 1) 0 (Nat.zero_le _) (by omega)

