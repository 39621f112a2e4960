set_option maxHeartbeats 4000000 in
set_option maxRecDepth 20000 in
theorem lp_X7_sv1 {κ : Kx} {Φ : Option Value → Mem → Prop} (C : Cx RX7 cX7_shareVotes 7 none 0 false Φ κ) (S : Mem) (hR : Rs S) (f : Nat → Int64) (n q : Int32) (v4 v5 v6 : Value) (K : ∀ v3 : Value, G κ 0 0 (sV S 14 (gl (fun _ => 0) f 10)) 21 [.ref 0, .int n, .int q, v3, v4, v5, v6] []) : ∀ (m k : Nat), k ≤ 10 → 10 + 1 ≤ k + m → G κ 0 0 (sV S 14 (gl (fun _ => 0) f k)) 2 [.ref 0, .int n, .int q, .int (nI k), v4, v5, v6] [] := by
  intro m
  induction m with
  | zero => intro k h1 h2; exact absurd h2 (by omega)
  | succ m ih =>
    intro k hk1 hk2
    refine g_iload_3 C dX7_shareVotes_2 rfl ?_
    refine g_bipush (v := 9) C dX7_shareVotes_3 rfl (by decide) ?_
    refine g_icmp_gt (tgt := 21) C dX7_shareVotes_5 rfl (by decide) (fun h5 => ?_) (fun h5 => ?_)
    · skip
      have hk : k = 10 := by have := n_lt' (a := 9) (b := k) h5 (by omega) (by omega); omega
      rw [hk]
      exact K _
    · skip
      refine g_aload_0 C dX7_shareVotes_8 rfl ?_
      have hk : k < 10 := by have := n_nlt (a := 9) (b := k) h5 (by omega) (by omega); omega
      refine g_getr C 6 dX7_shareVotes_9 rfl rfl rfl fl_X7_47 (hR 0 6 14 rfl) ?_
      refine g_iload_3 C dX7_shareVotes_12 rfl ?_
      refine g_lconst (v := 0) C dX7_shareVotes_13 rfl (by decide) ?_
      refine g_last C dX7_shareVotes_14 rfl rfl (n_in (show k < 10 by omega) (by decide)) ?_
      refine g_iinc_3 (z := 1) C rfl dX7_shareVotes_15 rfl (by decide) ?_
      refine g_goto (tgt := 2) C dX7_shareVotes_18 (by decide) ?_
      rw [nI_clamp (show k < 2 ^ 31 by omega), sL_sV, mL_sV, sV_sV, gl_sL (fun _ => 0), nI_1]
      exact ih (k + 1) (by omega) (by omega)

set_option maxHeartbeats 4000000 in
set_option maxRecDepth 20000 in
theorem lp_X7_sv3 {κ : Kx} {Φ : Option Value → Mem → Prop} (C : Cx RX7 cX7_shareVotes 7 none 0 false Φ κ) (S : Mem) (hR : Rs S) (f : Nat → Int64) (n q : Int32) (m : Int32) : ∀ (c : Nat) (b : Nat → Int64) (v5 v6 : Value), c ≤ 9 → (∀ v4 v5 v6 : Value, G κ 0 0 (sV S 14 (gl (dnF q c b) f 10)) 93 [.ref 0, .int n, .int q, .int m, v4, v5, v6] []) → G κ 0 0 (sV S 14 (gl b f 10)) 40 [.ref 0, .int n, .int q, .int m, .int (lcI c), v5, v6] [] := by
  intro c
  induction c with
  | zero =>
    intro b v5 v6 hc K
    refine g_iload_4 C dX7_shareVotes_40 rfl ?_
    refine g_if_lt (tgt := 93) C dX7_shareVotes_42 rfl (by decide) (fun h42 => ?_) (fun h42 => absurd (show (lcI 0) < 0 by decide) h42)
    exact K _ _ _
  | succ c ih =>
    intro b v5 v6 hc K
    rw [show lcI (c + 1) = nI c from rfl]
    refine g_iload_4 C dX7_shareVotes_40 rfl ?_
    refine g_if_lt (tgt := 93) C dX7_shareVotes_42 rfl (by decide) (fun h42 => absurd h42 (nI_pos (show c < 2147483648 by omega))) (fun h42 => ?_)
    refine g_aload_0 C dX7_shareVotes_45 rfl ?_
    refine g_getr C 6 dX7_shareVotes_46 rfl rfl rfl fl_X7_47 (hR 0 6 14 rfl) ?_
    refine g_iload_4 C dX7_shareVotes_49 rfl ?_
    refine g_lald C dX7_shareVotes_51 rfl rfl (n_in (show c < 10 by omega) (by decide)) ?_
    rw [nI_clamp (show c < 2 ^ 31 by omega), mL_sV, gl_at _ _ (show c < 10 by omega)]
    refine g_iload_2 C dX7_shareVotes_52 rfl ?_
    refine g_i2l C dX7_shareVotes_53 rfl ?_
    refine g_lmul C dX7_shareVotes_54 rfl ?_
    refine g_ldc2 C dX7_shareVotes_55 rfl kl_X7_242 ?_
    refine g_ldiv C dX7_shareVotes_58 rfl (by decide) ?_
    refine g_lstore_5 C rfl dX7_shareVotes_59 rfl ?_
    refine g_aload_0 C dX7_shareVotes_61 rfl ?_
    refine g_getr C 6 dX7_shareVotes_62 rfl rfl rfl fl_X7_47 (hR 0 6 14 rfl) ?_
    refine g_iload_4 C dX7_shareVotes_65 rfl ?_
    refine g_iconst (v := 1) C dX7_shareVotes_67 rfl (by decide) ?_
    refine g_iadd C dX7_shareVotes_68 rfl ?_
    rw [nI_1]
    refine g_dup2 C dX7_shareVotes_69 rfl rfl rfl ?_
    refine g_lald C dX7_shareVotes_70 rfl rfl (n_in (show c + 1 < 10 by omega) (by decide)) ?_
    rw [nI_clamp (show c + 1 < 2 ^ 31 by omega), mL_sV, gl_at _ _ (show c + 1 < 10 by omega)]
    refine g_lload_5 C dX7_shareVotes_71 rfl ?_
    refine g_ladd C dX7_shareVotes_73 rfl ?_
    refine g_last C dX7_shareVotes_74 rfl rfl (n_in (show c + 1 < 10 by omega) (by decide)) ?_
    rw [nI_clamp (show c + 1 < 2 ^ 31 by omega), sL_sV, mL_sV, sV_sV, gl_updL _ _ (show c + 1 < 10 by omega)]
    refine g_aload_0 C dX7_shareVotes_75 rfl ?_
    refine g_getr C 6 dX7_shareVotes_76 rfl rfl rfl fl_X7_47 (hR 0 6 14 rfl) ?_
    refine g_iload_4 C dX7_shareVotes_79 rfl ?_
    refine g_dup2 C dX7_shareVotes_81 rfl rfl rfl ?_
    refine g_lald C dX7_shareVotes_82 rfl rfl (n_in (show c < 10 by omega) (by decide)) ?_
    rw [nI_clamp (show c < 2 ^ 31 by omega), mL_sV, gl_at _ _ (show c < 10 by omega)]
    refine g_lload_5 C dX7_shareVotes_83 rfl ?_
    refine g_lsub C dX7_shareVotes_85 rfl ?_
    refine g_last C dX7_shareVotes_86 rfl rfl (n_in (show c < 10 by omega) (by decide)) ?_
    rw [nI_clamp (show c < 2 ^ 31 by omega), sL_sV, mL_sV, sV_sV, gl_updL _ _ (show c < 10 by omega)]
    refine g_iinc_4 (z := -1) C rfl dX7_shareVotes_87 rfl (by decide) ?_
    refine g_goto (tgt := 40) C dX7_shareVotes_90 (by decide) ?_
    rw [lcI_p]
    exact ih (vst q b c) _ _ (by omega) K

set_option maxHeartbeats 4000000 in
set_option maxRecDepth 20000 in
theorem lp_X7_sv2 {κ : Kx} {Φ : Option Value → Mem → Prop} (C : Cx RX7 cX7_shareVotes 7 none 0 false Φ κ) (S : Mem) (hR : Rs S) (f : Nat → Int64) (q : Int32) (N : Nat) (hN : N ≤ 9) (hΦ : Φ none (sV S 14 (gl (upF q N) f 10))) : ∀ (n k : Nat) (v4 v5 v6 : Value), k ≤ N → N + 1 ≤ k + n → G κ 0 0 (sV S 14 (gl (upF q k) f 10)) 32 [.ref 0, .int (nI N), .int q, .int (nI k), v4, v5, v6] [] := by
  intro n
  induction n with
  | zero => intro k v4 v5 v6 h1 h2; exact absurd h2 (by omega)
  | succ n ih =>
    intro k v4 v5 v6 hk1 hk2
    refine g_iload_3 C dX7_shareVotes_32 rfl ?_
    refine g_iload_1 C dX7_shareVotes_33 rfl ?_
    refine g_icmp_ge (tgt := 99) C dX7_shareVotes_34 rfl (by decide) (fun h34 => ?_) (fun h34 => ?_)
    · skip
      have hk : k = N := by have := n_ge (b := N) h34 (by omega) (by omega); omega
      rw [hk]
      exact g_vret C rfl dX7_shareVotes_99 hΦ
    · skip
      refine g_iload_3 C dX7_shareVotes_37 rfl ?_
      refine g_istore_4 C rfl dX7_shareVotes_38 rfl ?_
      have hk : k < N := n_lt (b := N) h34 (by omega) (by omega)
      refine lp_X7_sv3 C S hR f (nI N) q (nI k) (k + 1) (upF q k) _ _ (by omega) (fun v4 v5 v6 => ?_)
      refine g_iinc_3 (z := 1) C rfl dX7_shareVotes_93 rfl (by decide) ?_
      refine g_goto (tgt := 32) C dX7_shareVotes_96 (by decide) ?_
      rw [nI_1]
      exact ih (k + 1) _ _ _ (by omega) (by omega)

theorem vb0_u : vp_updL (fun _ => (0 : Int64)) 0 1000000000 = vb0 := by
  funext j
  unfold vp_updL vb0
  rfl
set_option maxHeartbeats 4000000 in
set_option maxRecDepth 20000 in
theorem ok_X7_shareVotes (N : Nat) (hN : N ≤ 9) (q : Int32) (S : Mem) (hR : Rs S) : Ok yX7_shareVotes cX7_shareVotes 7 none 0 0 0 [.ref 0, .int (nI N), .int q] S (RV (sV S 14 (gl (upF q N) (mL S 14) 10))) := by
  refine Ok.of (by decide) (Nat.le_of_ble_eq_true rfl) rfl (fun κ C hx => ?_)
  have C : Cx RX7 cX7_shareVotes 7 none 0 false _ κ := C
  refine g_iconst (v := 0) C dX7_shareVotes_0 rfl (by decide) ?_
  refine g_istore_3 C rfl dX7_shareVotes_1 rfl ?_
  have h0 := lp_X7_sv1 C S hR (mL S 14) (nI N) q (.float 0) (.float 0) (.float 0) (fun v3 => ?_) 11 0 (by omega) (by omega)
  · rw [gl_0, sV_self] at h0
    exact h0
  · refine g_aload_0 C dX7_shareVotes_21 rfl ?_
    refine g_getr C 6 dX7_shareVotes_22 rfl rfl rfl fl_X7_47 (hR 0 6 14 rfl) ?_
    refine g_iconst (v := 0) C dX7_shareVotes_25 rfl (by decide) ?_
    refine g_ldc2 C dX7_shareVotes_26 rfl kl_X7_240 ?_
    refine g_last C dX7_shareVotes_29 rfl rfl (n_in (k := 0) (N := 10) (by decide) (by decide)) ?_
    rw [show Int32.toNatClampNeg 0 = 0 from rfl, sL_sV, mL_sV, sV_sV, gl_updL _ _ (show 0 < 10 by decide), vb0_u]
    refine g_iconst (v := 0) C dX7_shareVotes_30 rfl (by decide) ?_
    refine g_istore_3 C rfl dX7_shareVotes_31 rfl ?_
    exact lp_X7_sv2 C S hR (mL S 14) q N hN ⟨rfl, rfl⟩ (N + 1) 0 _ _ _ (Nat.zero_le _) (by omega)

set_option maxHeartbeats 4000000 in
set_option maxRecDepth 20000 in
theorem lp_X7_vote {κ : Kx} {Φ : Option Value → Mem → Prop} (C : Cx RX7 cX7_vote 6 (some .int) 1 false Φ κ) (S : Mem) (hR : Rs S) (f : Nat → Int64) (q : Int32) (N k0 : Nat) (hN : N ≤ 9) (hk0 : k0 ≤ N + 1) (b : Nat → Int64) (hΦ : Φ (some (.int (smA b k0 (N + 1 - k0)).toInt32)) (sV S 14 (gl b f 10))) : ∀ (n c : Nat), c + k0 ≤ N + 1 → N + 2 ≤ c + k0 + n → G κ 0 0 (sV S 14 (gl b f 10)) 39 [.ref 0, .int (nI N), .int q, .long (smA b k0 c), .float 0, .int (nI (k0 + c))] [] := by
  intro n
  induction n with
  | zero => intro c h1 h2; exact absurd h2 (by omega)
  | succ n ih =>
    intro c hk1 hk2
    refine g_iload_5 C dX7_vote_39 rfl ?_
    refine g_iload_1 C dX7_vote_41 rfl ?_
    refine g_icmp_gt (tgt := 61) C dX7_vote_42 rfl (by decide) (fun h42 => ?_) (fun h42 => ?_)
    · skip
      have hk : c = N + 1 - k0 := by have := n_lt' (a := N) (b := k0 + c) h42 (by omega) (by omega); omega
      rw [hk]
      refine g_lload_3 C dX7_vote_61 rfl ?_
      refine g_l2i C dX7_vote_62 rfl ?_
      exact g_iret C rfl dX7_vote_63 hΦ
    · skip
      refine g_lload_3 C dX7_vote_45 rfl ?_
      have hk : k0 + c ≤ N := n_nlt (a := N) (b := k0 + c) h42 (by omega) (by omega)
      refine g_aload_0 C dX7_vote_46 rfl ?_
      refine g_getr C 6 dX7_vote_47 rfl rfl rfl fl_X7_47 (hR 0 6 14 rfl) ?_
      refine g_iload_5 C dX7_vote_50 rfl ?_
      refine g_lald C dX7_vote_52 rfl rfl (n_in (show k0 + c < 10 by omega) (by decide)) ?_
      rw [nI_clamp (show k0 + c < 2 ^ 31 by omega), mL_sV, gl_at _ _ (show k0 + c < 10 by omega)]
      refine g_ladd C dX7_vote_53 rfl ?_
      refine g_lstore_3 C rfl dX7_vote_54 rfl ?_
      refine g_iinc_5 (z := 1) C rfl dX7_vote_55 rfl (by decide) ?_
      refine g_goto (tgt := 39) C dX7_vote_58 (by decide) ?_
      rw [nI_1]
      exact ih (c + 1) (by omega) (by omega)

def vt7S (S : Mem) (n q : Int32) : Mem := if inI n 1 9 = true ∧ inI q 0 100 = true then sV S 14 (gl (upF q n.toNatClampNeg) (mL S 14) 10) else S
set_option maxHeartbeats 4000000 in
set_option maxRecDepth 20000 in
theorem ok_X7_vote (n q : Int32) (S : Mem) (hR : Rs S) : Ok yX7_vote cX7_vote 6 (some .int) 1 0 0 [.ref 0, .int n, .int q] S (RI (vtV n q) (vt7S S n q)) := by
  refine Ok.of (by decide) (Nat.le_of_ble_eq_true rfl) rfl (fun κ C hx => ?_)
  have C : Cx RX7 cX7_vote 6 (some .int) 1 false _ κ := C
  refine g_iload_1 C dX7_vote_0 rfl ?_
  refine g_iconst (v := 1) C dX7_vote_1 rfl (by decide) ?_
  refine g_icmp_lt (tgt := 21) C dX7_vote_2 rfl (by decide) (fun h2 => ?_) (fun h2 => ?_)
  · skip
    refine g_ldc C dX7_vote_21 rfl kc_X7_75 ?_
    exact g_iret C rfl dX7_vote_23 ⟨by unfold vtV; rw [if_neg (fun e => i_not_lt (of_decide_eq_true e.1).1 h2)], by unfold vt7S; rw [if_neg (fun e => i_not_lt (of_decide_eq_true e.1).1 h2)]⟩
  · skip
    refine g_iload_1 C dX7_vote_5 rfl ?_
    refine g_bipush (v := 9) C dX7_vote_6 rfl (by decide) ?_
    refine g_icmp_gt (tgt := 21) C dX7_vote_8 rfl (by decide) (fun h8 => ?_) (fun h8 => ?_)
    · skip
      refine g_ldc C dX7_vote_21 rfl kc_X7_75 ?_
      exact g_iret C rfl dX7_vote_23 ⟨by unfold vtV; rw [if_neg (fun e => i_not_lt (of_decide_eq_true e.1).2 h8)], by unfold vt7S; rw [if_neg (fun e => i_not_lt (of_decide_eq_true e.1).2 h8)]⟩
    · skip
      refine g_iload_2 C dX7_vote_11 rfl ?_
      refine g_if_lt (tgt := 21) C dX7_vote_12 rfl (by decide) (fun h12 => ?_) (fun h12 => ?_)
      · skip
        refine g_ldc C dX7_vote_21 rfl kc_X7_75 ?_
        exact g_iret C rfl dX7_vote_23 ⟨by unfold vtV; rw [if_neg (fun e => i_not_lt (of_decide_eq_true e.2).1 h12)], by unfold vt7S; rw [if_neg (fun e => i_not_lt (of_decide_eq_true e.2).1 h12)]⟩
      · skip
        refine g_iload_2 C dX7_vote_15 rfl ?_
        refine g_bipush (v := 100) C dX7_vote_16 rfl (by decide) ?_
        refine g_icmp_le (tgt := 24) C dX7_vote_18 rfl (by decide) (fun h18 => ?_) (fun h18 => ?_)
        · skip
          have hn1 : inI n 1 9 = true := decide_eq_true ⟨i_lt_le h2, i_lt_le h8⟩
          have hq1 : inI q 0 100 = true := decide_eq_true ⟨lt0_n h12, h18⟩
          obtain ⟨N, hN1, hN, e⟩ := in9 hn1
          have eV : vtV n q = vtN N q := by unfold vtV; rw [if_pos ⟨hn1, hq1⟩, e, nI_clamp (by omega)]
          have eS : vt7S S n q = sV S 14 (gl (upF q N) (mL S 14) 10) := by unfold vt7S; rw [if_pos ⟨hn1, hq1⟩, e, nI_clamp (by omega)]
          rw [e]
          refine g_aload_0 C dX7_vote_24 rfl ?_
          refine g_iload_1 C dX7_vote_25 rfl ?_
          refine g_iload_2 C dX7_vote_26 rfl ?_
          refine g_cV2v C dX7_vote_27 rfl ml_X7_236 mz_X7_shareVotes (ok_X7_shareVotes N hN q S hR) (by decide) rfl rfl rfl rfl (Nat.le_of_ble_eq_true rfl) (fun hn27 => ?_)
          refine g_lconst (v := 0) C dX7_vote_30 rfl (by decide) ?_
          refine g_lstore_3 C rfl dX7_vote_31 rfl ?_
          refine g_iload_1 C dX7_vote_32 rfl ?_
          refine g_iconst (v := 2) C dX7_vote_33 rfl (by decide) ?_
          refine g_idiv C dX7_vote_34 rfl (by decide) ?_
          rw [show nI N / 2 = nI (N / 2) from pk_div (d := 2) (by omega) (by omega) (by omega)]
          refine g_iconst (v := 1) C dX7_vote_35 rfl (by decide) ?_
          refine g_iadd C dX7_vote_36 rfl ?_
          rw [nI_1]
          refine g_istore_5 C rfl dX7_vote_37 rfl ?_
          exact lp_X7_vote C S hR (mL S 14) q N (N / 2 + 1) hN (by omega) (upF q N) ⟨by rw [eV]; rfl, by rw [eS]⟩ (N + 2) 0 (by omega) (by omega)
        · skip
          refine g_ldc C dX7_vote_21 rfl kc_X7_75 ?_
          exact g_iret C rfl dX7_vote_23 ⟨by unfold vtV; rw [if_neg (fun e => h18 (of_decide_eq_true e.2).2)], by unfold vt7S; rw [if_neg (fun e => h18 (of_decide_eq_true e.2).2)]⟩

