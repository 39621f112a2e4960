set_option maxHeartbeats 4000000 in
set_option maxRecDepth 20000 in
theorem lp_X7_askNext {κ : Kx} {Φ : Option Value → Mem → Prop} (C : Cx RX7 cX7_askNext 6 (some .int) 4 false Φ κ) (S : Mem) (t nw th nr : Nat) (hC : CW S t nw th nr) (ht : 16 ≤ t) (f c : Nat → Int32) (m : Int32) (hΦ : Φ (some (.int (azF c m (2 * th)).1)) (sW S 15 (gl c f 16))) : ∀ (n k : Nat) (v5 : Value), k ≤ 2 * th → 2 * th + 1 ≤ k + n → G κ 0 0 (sW S 15 (gl c f 16)) 12 [.ref 0, .int m, .int (azF c m k).1, .int (azF c m k).2, .int (nI k), v5] [] := by
  have hR := hC.1.1
  have h8 := hC.2.2.2.2.1.2
  intro n
  induction n with
  | zero => intro k v5 h1 h2; exact absurd h2 (by omega)
  | succ n ih =>
    intro k v5 hk1 hk2
    refine g_iload_4 C dX7_askNext_12 rfl ?_
    refine g_aload_0 C dX7_askNext_14 rfl ?_
    refine g_getr C 8 dX7_askNext_15 rfl rfl rfl fl_X7_57 (hC.sw ht _).2.1.1 ?_
    refine g_cD0i C dX7_askNext_18 rfl ml_X7_185 mz_X4_sayings (ok_X4_sayings t (sW S 15 (gl c f 16)) (hC.sw ht _).2.2.1) (by decide) rfl rfl (hC.sw ht _).2.2.1.1 (by decide) rfl (Nat.le_of_ble_eq_true rfl) (fun hn18 => ?_)
    rw [show mI (sW S 15 (gl c f 16)) t 3 = nI th from hC.2.2.2.2.1.1, two_nI th (by omega)]
    refine g_icmp_ge (tgt := 63) C dX7_askNext_21 rfl (by decide) (fun h21 => ?_) (fun h21 => ?_)
    · skip
      have hk : k = 2 * th := by have := n_ge (b := 2 * th) h21 (by omega) (by omega); omega
      rw [hk]
      refine g_iload_2 C dX7_askNext_63 rfl ?_
      exact g_iret C rfl dX7_askNext_64 hΦ
    · skip
      refine g_aload_0 C dX7_askNext_24 rfl ?_
      refine g_getr C 7 dX7_askNext_25 rfl rfl rfl fl_X7_51 (hR 0 7 15 rfl) ?_
      refine g_iload_4 C dX7_askNext_28 rfl ?_
      refine g_iald C dX7_askNext_30 rfl rfl (n_in (show k < 16 by have := n_lt (b := 2 * th) h21 (by omega) (by omega); omega) (by decide)) ?_
      rw [nI_clamp (show k < 2 ^ 31 by omega), mA_sW, gl_at _ _ (show k < 16 by have := n_lt (b := 2 * th) h21 (by omega) (by omega); omega)]
      refine g_iload_1 C dX7_askNext_31 rfl ?_
      refine g_aload_0 C dX7_askNext_32 rfl ?_
      refine g_getr C 7 dX7_askNext_33 rfl rfl rfl fl_X7_51 (hR 0 7 15 rfl) ?_
      refine g_iload_4 C dX7_askNext_36 rfl ?_
      refine g_iald C dX7_askNext_38 rfl rfl (n_in (show k < 16 by have := n_lt (b := 2 * th) h21 (by omega) (by omega); omega) (by decide)) ?_
      rw [nI_clamp (show k < 2 ^ 31 by omega), mA_sW, gl_at _ _ (show k < 16 by have := n_lt (b := 2 * th) h21 (by omega) (by omega); omega)]
      refine g_isub C dX7_askNext_39 rfl ?_
      refine g_max C dX7_askNext_40 rfl ml_X7_257 (by decide) (Nat.le_of_ble_eq_true rfl) ?_
      rw [prt_max]
      refine g_istore_5 C rfl dX7_askNext_43 rfl ?_
      refine g_iload_5 C dX7_askNext_45 rfl ?_
      refine g_iload_3 C dX7_askNext_47 rfl ?_
      refine g_icmp_ge (tgt := 57) C dX7_askNext_48 rfl (by decide) (fun h48 => ?_) (fun h48 => ?_)
      · skip
        refine g_iinc_4 (z := 1) C rfl dX7_askNext_57 rfl (by decide) ?_
        refine g_goto (tgt := 12) C dX7_askNext_60 (by decide) ?_
        have hk : k < 2 * th := n_lt (b := 2 * th) h21 (by omega) (by omega)
        rw [nI_1]
        have e : azF c m (k + 1) = azF c m k := if_pos h48
        have := ih (k + 1) (.int (prt m (c k))) (by omega) (by omega)
        rw [e] at this
        exact this
      · skip
        refine g_iload_5 C dX7_askNext_51 rfl ?_
        refine g_istore_3 C rfl dX7_askNext_53 rfl ?_
        refine g_iload_4 C dX7_askNext_54 rfl ?_
        refine g_istore_2 C rfl dX7_askNext_56 rfl ?_
        refine g_iinc_4 (z := 1) C rfl dX7_askNext_57 rfl (by decide) ?_
        refine g_goto (tgt := 12) C dX7_askNext_60 (by decide) ?_
        have hk : k < 2 * th := n_lt (b := 2 * th) h21 (by omega) (by omega)
        rw [nI_1]
        have e : azF c m (k + 1) = (nI k, prt m (c k)) := if_neg h48
        have := ih (k + 1) (.int (prt m (c k))) (by omega) (by omega)
        rw [e] at this
        exact this

noncomputable def an7V (S : Mem) (t nw th nr an : Nat) : Int32 := (azF (an7 S t nw nr an (2 ^ nr)).2 (an7 S t nw nr an (2 ^ nr)).1 (2 * th)).1
noncomputable def an7S (S : Mem) (t nw nr an : Nat) : Mem := sW S 15 (gl (an7 S t nw nr an (2 ^ nr)).2 (mA S 15) 16)
set_option maxHeartbeats 4000000 in
set_option maxRecDepth 20000 in
theorem ok_X7_askNext (S : Mem) (t nw th nr : Nat) (hC : CW S t nw th nr) (ht : 16 ≤ t) (an : Nat) (han : mI S 5 3 = nI an) (ha : an ≤ 6) : Ok yX7_askNext cX7_askNext 6 (some .int) 4 0 0 [.ref 0] S (RI (an7V S t nw th nr an) (an7S S t nw nr an)) := by
  have hR := hC.1.1
  refine Ok.of (by decide) (Nat.le_of_ble_eq_true rfl) rfl (fun κ C hx => ?_)
  have C : Cx RX7 cX7_askNext 6 (some .int) 4 false _ κ := C
  refine g_aload_0 C dX7_askNext_0 rfl ?_
  refine g_cV0i C dX7_askNext_1 rfl ml_X7_254 mz_X7_countAnswers (ok_X7_countAnswers S t nw th nr hC ht an han ha) (by decide) rfl rfl rfl rfl (Nat.le_of_ble_eq_true rfl) (fun hn1 => ?_)
  refine g_istore_1 C rfl dX7_askNext_4 rfl ?_
  refine g_iconst (v := -1) C dX7_askNext_5 rfl (by decide) ?_
  refine g_istore_2 C rfl dX7_askNext_6 rfl ?_
  refine g_iload_1 C dX7_askNext_7 rfl ?_
  refine g_istore_3 C rfl dX7_askNext_8 rfl ?_
  refine g_iconst (v := 0) C dX7_askNext_9 rfl (by decide) ?_
  refine g_istore_4 C rfl dX7_askNext_10 rfl ?_
  exact lp_X7_askNext C S t nw th nr hC ht (mA S 15) _ _ ⟨rfl, rfl⟩ (2 * th + 1) 0 _ (Nat.zero_le _) (by omega)

def be7 (S : Mem) (se : Int32) : Mem := sR (moS S se 0 0 0) 0 10 (some (mN S))
def be7c (M : Mem) : Mem := sQ (sQ (sI (sI (sI M 3 1 0) 5 3 0) 9 2 0) 12 0 none) 12 1 none
def be7S (S : Mem) (se : Int32) : Mem := be7c (be7 S se)
theorem be7_R {S : Mem} (h : Rs S) (h44 : 44 ≤ mN S) (se : Int32) : Rs (be7 S se) := fun p j r e => by
  have h0 := (h.ext h44 (moS_ext S se 0 0 0)) p j r e
  show u2 (mR (moS S se 0 0 0)) 0 10 (some (mN S)) p j = some r
  unfold u2
  by_cases hp : p = 0
  · by_cases hj : j = 10
    · rw [hp, hj] at e; exact absurd (show (none : Option Nat) = some r from e) (by simp)
    · rw [if_pos hp, if_neg hj]; exact h0
  · rw [if_neg hp]; exact h0
set_option maxHeartbeats 4000000 in
set_option maxRecDepth 20000 in
theorem lp_X7_be0 {κ : Kx} {Φ : Option Value → Mem → Prop} (C : Cx RX7 cX7_beginAnew 2 none 2 false Φ κ) (M : Mem) (hR0 : Rs M) (K : G κ 0 0 (sQ M 12 0 none) 44 [.ref 0, .int 1] []) : G κ 0 0 M 44 [.ref 0, .int 0] [] := by
  refine g_iload_1 C dX7_beginAnew_44 rfl ?_
  refine g_iconst (v := 2) C dX7_beginAnew_45 rfl (by decide) ?_
  refine g_icmp_ge (tgt := 62) C dX7_beginAnew_46 rfl (by decide) (fun h46 => absurd h46 (by decide)) (fun h46 => ?_)
  refine g_aload_0 C dX7_beginAnew_49 rfl ?_
  refine g_getr C 4 dX7_beginAnew_50 rfl rfl rfl fl_X7_39 (hR0 0 4 12 rfl) ?_
  refine g_iload_1 C dX7_beginAnew_53 rfl ?_
  refine g_null C dX7_beginAnew_54 rfl ?_
  refine g_aast (y := none) C dX7_beginAnew_55 rfl rfl (n_in (k := 0) (N := 2) (by decide) (by decide)) (fun z e => by cases e) ?_
  refine g_iinc_1 (z := 1) C rfl dX7_beginAnew_56 rfl (by decide) ?_
  refine g_goto (tgt := 44) C dX7_beginAnew_59 (by decide) ?_
  exact K

set_option maxHeartbeats 4000000 in
set_option maxRecDepth 20000 in
theorem lp_X7_be1 {κ : Kx} {Φ : Option Value → Mem → Prop} (C : Cx RX7 cX7_beginAnew 2 none 2 false Φ κ) (M : Mem) (hR0 : Rs M) (K : G κ 0 0 (sQ M 12 1 none) 44 [.ref 0, .int 2] []) : G κ 0 0 M 44 [.ref 0, .int 1] [] := by
  refine g_iload_1 C dX7_beginAnew_44 rfl ?_
  refine g_iconst (v := 2) C dX7_beginAnew_45 rfl (by decide) ?_
  refine g_icmp_ge (tgt := 62) C dX7_beginAnew_46 rfl (by decide) (fun h46 => absurd h46 (by decide)) (fun h46 => ?_)
  refine g_aload_0 C dX7_beginAnew_49 rfl ?_
  refine g_getr C 4 dX7_beginAnew_50 rfl rfl rfl fl_X7_39 (hR0 0 4 12 rfl) ?_
  refine g_iload_1 C dX7_beginAnew_53 rfl ?_
  refine g_null C dX7_beginAnew_54 rfl ?_
  refine g_aast (y := none) C dX7_beginAnew_55 rfl rfl (n_in (k := 1) (N := 2) (by decide) (by decide)) (fun z e => by cases e) ?_
  refine g_iinc_1 (z := 1) C rfl dX7_beginAnew_56 rfl (by decide) ?_
  refine g_goto (tgt := 44) C dX7_beginAnew_59 (by decide) ?_
  exact K

set_option maxHeartbeats 4000000 in
set_option maxRecDepth 20000 in
theorem lp_X7_be {κ : Kx} {Φ : Option Value → Mem → Prop} (C : Cx RX7 cX7_beginAnew 2 none 2 false Φ κ) (M : Mem) (hR0 : Rs M) (v1 : Value) (hΦ : Φ none (be7c M)) : G κ 0 0 M 21 [.ref 0, v1] [] := by
  refine g_aload_0 C dX7_beginAnew_21 rfl ?_
  refine g_getr C 1 dX7_beginAnew_22 rfl rfl rfl fl_X7_19 (hR0 0 1 3 rfl) ?_
  refine g_cV0v C dX7_beginAnew_25 rfl ml_X7_104 mz_X1_clear (ok_X1_clear _) (by decide) rfl rfl rfl rfl (Nat.le_of_ble_eq_true rfl) (fun hn25 => ?_)
  refine g_aload_0 C dX7_beginAnew_28 rfl ?_
  refine g_getr C 2 dX7_beginAnew_29 rfl rfl rfl fl_X7_26 (hR0 0 2 5 rfl) ?_
  refine g_cV0v C dX7_beginAnew_32 rfl ml_X7_107 mz_X3_clear (ok_X3_clear _) (by decide) rfl rfl rfl rfl (Nat.le_of_ble_eq_true rfl) (fun hn32 => ?_)
  refine g_aload_0 C dX7_beginAnew_35 rfl ?_
  refine g_getr C 3 dX7_beginAnew_36 rfl rfl rfl fl_X7_33 (hR0 0 3 9 rfl) ?_
  refine g_cV0v C dX7_beginAnew_39 rfl ml_X7_108 mz_X0_clear (ok_X0_clear _) (by decide) rfl rfl rfl rfl (Nat.le_of_ble_eq_true rfl) (fun hn39 => ?_)
  refine g_iconst (v := 0) C dX7_beginAnew_42 rfl (by decide) ?_
  refine g_istore_1 C rfl dX7_beginAnew_43 rfl ?_
  refine lp_X7_be0 C _ hR0 (lp_X7_be1 C _ hR0 ?_)
  refine g_iload_1 C dX7_beginAnew_44 rfl ?_
  refine g_iconst (v := 2) C dX7_beginAnew_45 rfl (by decide) ?_
  refine g_icmp_ge (tgt := 62) C dX7_beginAnew_46 rfl (by decide) (fun h46 => ?_) (fun h46 => absurd (by decide) h46)
  exact g_vret C rfl dX7_beginAnew_62 hΦ
set_option maxHeartbeats 4000000 in
set_option maxRecDepth 20000 in
theorem ok_X7_beginAnew (S : Mem) (hR : Rs S) (h44 : 44 ≤ mN S) (t : Nat) (htn : t < mN S) (ht : mR S 0 8 = some t) (hK : mK S t = 4) : Ok yX7_beginAnew cX7_beginAnew 2 none 2 1 4 [.ref 0] S (RV (be7S S (mI S t 5))) := by
  refine Ok.of (by decide) (Nat.le_of_ble_eq_true rfl) rfl (fun κ C hx => ?_)
  have C : Cx RX7 cX7_beginAnew 2 none 2 false _ κ := C
  refine g_aload_0 C dX7_beginAnew_0 rfl ?_
  refine g_new (rc := 0) (rs := 0) C 2 dX7_beginAnew_1 rfl (by decide) cl_X7_37 ic_X2 in_X2 (fun h => absurd h (by omega)) ?_
  refine g_dup C dX7_beginAnew_4 rfl rfl ?_
  refine g_aload_0 C dX7_beginAnew_5 rfl ?_
  refine g_getr C 8 dX7_beginAnew_6 rfl rfl rfl fl_X7_57 (by rw [((Ext.new S 2).2 0 (by omega)).2.2.1]; exact ht) ?_
  refine g_getiD C 5 dX7_beginAnew_9 rfl (((Ext.new S 2).2 t htn).1.trans hK) (by decide) (by decide) rfl fl_X7_101 ?_
  rw [((Ext.new S 2).2 t htn).2.1]
  refine g_iconst (v := 0) C dX7_beginAnew_12 rfl (by decide) ?_
  refine g_iconst (v := 0) C dX7_beginAnew_13 rfl (by decide) ?_
  refine g_iconst (v := 0) C dX7_beginAnew_14 rfl (by decide) ?_
  refine g_cI4 C dX7_beginAnew_15 rfl ml_X7_64 mz_X2_init (ok_X2_init (mN S) _ _ _ _ (sN S 2) mK_sN) (by decide) rfl rfl (Nat.le_of_ble_eq_true rfl) (fun hn15 => ?_)
  refine g_putr C 10 dX7_beginAnew_18 rfl rfl rfl (Or.inl rfl) fl_X7_67 ?_
  exact lp_X7_be C (be7 S (mI S t 5)) (be7_R hR h44 (mI S t 5)) _ ⟨rfl, rfl⟩

