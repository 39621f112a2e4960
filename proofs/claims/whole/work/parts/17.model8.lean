theorem reS_A {S : Mem} {un a : Nat} (h : a ≠ 34) : mA (reS S un) a = mA S a := mA_sW_ne S _ h
def seV (S : Mem) (s : Int32) : Int32 := if sayB (mI S 25 0) s = true then bitI (mA S 29 0) s else -1000000001
def seS (S : Mem) (un : Nat) (s b : Int32) : Mem := if sayB (mI S 25 0) s = true then sA (reS S un) 29 0 (withI (mA S 29 0) s b) else S
set_option maxHeartbeats 4000000 in
set_option maxRecDepth 20000 in
theorem ok_X8_see (s b : Int32) (S : Mem) (hR : Rs S) (un : Nat) (hun : mI S 25 19 = nI un) (hu : un ≤ 20) : Ok yX8_see cX8_see 4 (some .int) 2 0 0 [.ref 25, .int s, .int b] S (RI (seV S s) (seS S un s b)) := by
  refine Ok.of (by decide) (Nat.le_of_ble_eq_true rfl) rfl (fun κ C hx => ?_)
  have C : Cx RX8 cX8_see 4 (some .int) 2 false _ κ := C
  refine g_aload_0 C dX8_see_0 rfl ?_
  refine g_iload_1 C dX8_see_1 rfl ?_
  refine g_cV1i C dX8_see_2 rfl ml_X8_166 mz_X8_isSaying (ok_X8_isSaying _ S) (by decide) rfl rfl rfl rfl (Nat.le_of_ble_eq_true rfl) (fun hn2 => ?_)
  refine g_if_ne (tgt := 11) C dX8_see_5 rfl (by decide) (fun h5 => ?_) (fun h5 => ?_)
  · skip
    refine g_aload_0 C dX8_see_11 rfl ?_
    refine g_cV0v C dX8_see_12 rfl ml_X8_169 mz_X8_remember (ok_X8_remember S hR un hun hu) (by decide) rfl rfl rfl rfl (Nat.le_of_ble_eq_true rfl) (fun hn12 => ?_)
    refine g_aload_0 C dX8_see_15 rfl ?_
    refine g_getr C 5 dX8_see_16 rfl rfl rfl fl_X8_19 (hR 25 5 29 rfl) ?_
    refine g_iconst (v := 0) C dX8_see_19 rfl (by decide) ?_
    refine g_iald C dX8_see_20 rfl rfl (n_in (k := 0) (N := 4) (by decide) (by decide)) ?_
    rw [show (mA (reS S un) 29 (Int32.toNatClampNeg 0)) = mA S 29 0 from rfl]
    refine g_iload_1 C dX8_see_21 rfl ?_
    refine g_ishr C dX8_see_22 rfl ?_
    refine g_iconst (v := 1) C dX8_see_23 rfl (by decide) ?_
    refine g_iand C dX8_see_24 rfl ?_
    refine g_istore_3 C rfl dX8_see_25 rfl ?_
    refine g_aload_0 C dX8_see_26 rfl ?_
    refine g_getr C 5 dX8_see_27 rfl rfl rfl fl_X8_19 (hR 25 5 29 rfl) ?_
    refine g_iconst (v := 0) C dX8_see_30 rfl (by decide) ?_
    refine g_aload_0 C dX8_see_31 rfl ?_
    refine g_getr C 5 dX8_see_32 rfl rfl rfl fl_X8_19 (hR 25 5 29 rfl) ?_
    refine g_iconst (v := 0) C dX8_see_35 rfl (by decide) ?_
    refine g_iald C dX8_see_36 rfl rfl (n_in (k := 0) (N := 4) (by decide) (by decide)) ?_
    rw [show (mA (reS S un) 29 (Int32.toNatClampNeg 0)) = mA S 29 0 from rfl]
    refine g_iload_1 C dX8_see_37 rfl ?_
    refine g_iload_2 C dX8_see_38 rfl ?_
    refine g_cS3i C dX8_see_39 rfl ml_X8_172 mz_X8_with (ok_X8_with _ _ _ _) (by decide) rfl rfl (Nat.le_of_ble_eq_true rfl) (fun hn39 => ?_)
    refine g_iast C dX8_see_42 rfl rfl (n_in (k := 0) (N := 4) (by decide) (by decide)) ?_
    refine g_iload_3 C dX8_see_43 rfl ?_
    exact g_iret C rfl dX8_see_44 ⟨by unfold seV; rw [if_pos (nf_t (fun q => h5 ((bI_0 _).mpr q)))]; rfl, by unfold seS; rw [if_pos (nf_t (fun q => h5 ((bI_0 _).mpr q)))]; rfl⟩
  · skip
    refine g_ldc C dX8_see_8 rfl kc_X8_165 ?_
    exact g_iret C rfl dX8_see_10 ⟨by unfold seV; rw [if_neg (by rw [(bI_0 _).mp h5]; decide)], by unfold seS; rw [if_neg (by rw [(bI_0 _).mp h5]; decide)]⟩

def foV (S : Mem) (s : Int32) : Int32 := if rulB (mI S 25 1) s = true then bitI (mA S 29 2) s else -1000000001
def foS (S : Mem) (un : Nat) (s b : Int32) : Mem := if rulB (mI S 25 1) s = true then sA (reS S un) 29 2 (withI (mA S 29 2) s b) else S
set_option maxHeartbeats 4000000 in
set_option maxRecDepth 20000 in
theorem ok_X8_forbid (s b : Int32) (S : Mem) (hR : Rs S) (un : Nat) (hun : mI S 25 19 = nI un) (hu : un ≤ 20) : Ok yX8_forbid cX8_forbid 4 (some .int) 2 0 0 [.ref 25, .int s, .int b] S (RI (foV S s) (foS S un s b)) := by
  refine Ok.of (by decide) (Nat.le_of_ble_eq_true rfl) rfl (fun κ C hx => ?_)
  have C : Cx RX8 cX8_forbid 4 (some .int) 2 false _ κ := C
  refine g_aload_0 C dX8_forbid_0 rfl ?_
  refine g_iload_1 C dX8_forbid_1 rfl ?_
  refine g_cV1i C dX8_forbid_2 rfl ml_X8_161 mz_X8_isRule (ok_X8_isRule _ S) (by decide) rfl rfl rfl rfl (Nat.le_of_ble_eq_true rfl) (fun hn2 => ?_)
  refine g_if_ne (tgt := 11) C dX8_forbid_5 rfl (by decide) (fun h5 => ?_) (fun h5 => ?_)
  · skip
    refine g_aload_0 C dX8_forbid_11 rfl ?_
    refine g_cV0v C dX8_forbid_12 rfl ml_X8_169 mz_X8_remember (ok_X8_remember S hR un hun hu) (by decide) rfl rfl rfl rfl (Nat.le_of_ble_eq_true rfl) (fun hn12 => ?_)
    refine g_aload_0 C dX8_forbid_15 rfl ?_
    refine g_getr C 5 dX8_forbid_16 rfl rfl rfl fl_X8_19 (hR 25 5 29 rfl) ?_
    refine g_iconst (v := 2) C dX8_forbid_19 rfl (by decide) ?_
    refine g_iald C dX8_forbid_20 rfl rfl (n_in (k := 2) (N := 4) (by decide) (by decide)) ?_
    rw [show (mA (reS S un) 29 (Int32.toNatClampNeg 2)) = mA S 29 2 from rfl]
    refine g_iload_1 C dX8_forbid_21 rfl ?_
    refine g_ishr C dX8_forbid_22 rfl ?_
    refine g_iconst (v := 1) C dX8_forbid_23 rfl (by decide) ?_
    refine g_iand C dX8_forbid_24 rfl ?_
    refine g_istore_3 C rfl dX8_forbid_25 rfl ?_
    refine g_aload_0 C dX8_forbid_26 rfl ?_
    refine g_getr C 5 dX8_forbid_27 rfl rfl rfl fl_X8_19 (hR 25 5 29 rfl) ?_
    refine g_iconst (v := 2) C dX8_forbid_30 rfl (by decide) ?_
    refine g_aload_0 C dX8_forbid_31 rfl ?_
    refine g_getr C 5 dX8_forbid_32 rfl rfl rfl fl_X8_19 (hR 25 5 29 rfl) ?_
    refine g_iconst (v := 2) C dX8_forbid_35 rfl (by decide) ?_
    refine g_iald C dX8_forbid_36 rfl rfl (n_in (k := 2) (N := 4) (by decide) (by decide)) ?_
    rw [show (mA (reS S un) 29 (Int32.toNatClampNeg 2)) = mA S 29 2 from rfl]
    refine g_iload_1 C dX8_forbid_37 rfl ?_
    refine g_iload_2 C dX8_forbid_38 rfl ?_
    refine g_cS3i C dX8_forbid_39 rfl ml_X8_172 mz_X8_with (ok_X8_with _ _ _ _) (by decide) rfl rfl (Nat.le_of_ble_eq_true rfl) (fun hn39 => ?_)
    refine g_iast C dX8_forbid_42 rfl rfl (n_in (k := 2) (N := 4) (by decide) (by decide)) ?_
    refine g_iload_3 C dX8_forbid_43 rfl ?_
    exact g_iret C rfl dX8_forbid_44 ⟨by unfold foV; rw [if_pos (nf_t (fun q => h5 ((bI_0 _).mpr q)))]; rfl, by unfold foS; rw [if_pos (nf_t (fun q => h5 ((bI_0 _).mpr q)))]; rfl⟩
  · skip
    refine g_ldc C dX8_forbid_8 rfl kc_X8_165 ?_
    exact g_iret C rfl dX8_forbid_10 ⟨by unfold foV; rw [if_neg (by rw [(bI_0 _).mp h5]; decide)], by unfold foS; rw [if_neg (by rw [(bI_0 _).mp h5]; decide)]⟩

noncomputable def dnV (S : Mem) (nr : Nat) : Int32 := clo nr (mA S 27) (mA S 28) (alw (nI nr) (mA S 29 2)) (mA S 29 0 ||| mA S 29 1)
noncomputable def dnS (S : Mem) (nr : Nat) : Mem := sA (sA S 29 1 (dnV S nr)) 29 3 (mA S 29 3 + 1)
set_option maxHeartbeats 4000000 in
set_option maxRecDepth 20000 in
theorem ok_X8_debateNow (S : Mem) (hR : Rs S) (nr : Nat) (hnr : mI S 25 1 = nI nr) (hT : Tn nr (mA S 27)) : Ok yX8_debateNow cX8_debateNow 1 none 2 0 0 [.ref 25] S (RV (dnS S nr)) := by
  refine Ok.of (by decide) (Nat.le_of_ble_eq_true rfl) rfl (fun κ C hx => ?_)
  have C : Cx RX8 cX8_debateNow 1 none 2 false _ κ := C
  refine g_aload_0 C dX8_debateNow_0 rfl ?_
  refine g_getr C 5 dX8_debateNow_1 rfl rfl rfl fl_X8_19 (hR 25 5 29 rfl) ?_
  refine g_iconst (v := 1) C dX8_debateNow_4 rfl (by decide) ?_
  refine g_aload_0 C dX8_debateNow_5 rfl ?_
  refine g_aload_0 C dX8_debateNow_6 rfl ?_
  refine g_getr C 5 dX8_debateNow_7 rfl rfl rfl fl_X8_19 (hR 25 5 29 rfl) ?_
  refine g_iconst (v := 0) C dX8_debateNow_10 rfl (by decide) ?_
  refine g_iald C dX8_debateNow_11 rfl rfl (n_in (k := 0) (N := 4) (by decide) (by decide)) ?_
  rw [show (mA S 29 (Int32.toNatClampNeg 0)) = mA S 29 0 from rfl]
  refine g_aload_0 C dX8_debateNow_12 rfl ?_
  refine g_getr C 5 dX8_debateNow_13 rfl rfl rfl fl_X8_19 (hR 25 5 29 rfl) ?_
  refine g_iconst (v := 1) C dX8_debateNow_16 rfl (by decide) ?_
  refine g_iald C dX8_debateNow_17 rfl rfl (n_in (k := 1) (N := 4) (by decide) (by decide)) ?_
  rw [show (mA S 29 (Int32.toNatClampNeg 1)) = mA S 29 1 from rfl]
  refine g_ior C dX8_debateNow_18 rfl ?_
  refine g_aload_0 C dX8_debateNow_19 rfl ?_
  refine g_cV0i C dX8_debateNow_20 rfl ml_X8_149 mz_X8_allowed (ok_X8_allowed S hR) (by decide) rfl rfl rfl rfl (Nat.le_of_ble_eq_true rfl) (fun hn20 => ?_)
  rw [hnr]
  refine g_cV2i C dX8_debateNow_23 rfl ml_X8_152 mz_X8_close (ok_X8_close _ _ S hR nr hnr hT) (by decide) rfl rfl rfl rfl (Nat.le_of_ble_eq_true rfl) (fun hn23 => ?_)
  refine g_iast C dX8_debateNow_26 rfl rfl (n_in (k := 1) (N := 4) (by decide) (by decide)) ?_
  refine g_aload_0 C dX8_debateNow_27 rfl ?_
  refine g_getr C 5 dX8_debateNow_28 rfl rfl rfl fl_X8_19 (hR 25 5 29 rfl) ?_
  refine g_iconst (v := 3) C dX8_debateNow_31 rfl (by decide) ?_
  refine g_dup2 C dX8_debateNow_32 rfl rfl rfl ?_
  refine g_iald C dX8_debateNow_33 rfl rfl (n_in (k := 3) (N := 4) (by decide) (by decide)) ?_
  refine g_iconst (v := 1) C dX8_debateNow_34 rfl (by decide) ?_
  refine g_iadd C dX8_debateNow_35 rfl ?_
  refine g_iast C dX8_debateNow_36 rfl rfl (n_in (k := 3) (N := 4) (by decide) (by decide)) ?_
  exact g_vret C rfl dX8_debateNow_37 ⟨rfl, rfl⟩

noncomputable def deV (S : Mem) (nr : Nat) : Int32 := if mI S 25 0 = 0 then -1000000003 else if mA S 29 3 ≤ 9000 then dnV S nr else -1000000004
noncomputable def deS (S : Mem) (nr un : Nat) : Mem := if mI S 25 0 = 0 then S else if mA S 29 3 ≤ 9000 then dnS (reS S un) nr else S
set_option maxHeartbeats 4000000 in
set_option maxRecDepth 20000 in
theorem ok_X8_debate (S : Mem) (hR : Rs S) (nr : Nat) (hnr : mI S 25 1 = nI nr) (hT : Tn nr (mA S 27)) (un : Nat) (hun : mI S 25 19 = nI un) (hu : un ≤ 20) : Ok yX8_debate cX8_debate 1 (some .int) 3 0 0 [.ref 25] S (RI (deV S nr) (deS S nr un)) := by
  refine Ok.of (by decide) (Nat.le_of_ble_eq_true rfl) rfl (fun κ C hx => ?_)
  have C : Cx RX8 cX8_debate 1 (some .int) 3 false _ κ := C
  refine g_aload_0 C dX8_debate_0 rfl ?_
  refine g_geti C 0 dX8_debate_1 rfl rfl rfl fl_X8_70 ?_
  refine g_if_ne (tgt := 10) C dX8_debate_4 rfl (by decide) (fun h4 => ?_) (fun h4 => ?_)
  · skip
    refine g_aload_0 C dX8_debate_10 rfl ?_
    refine g_getr C 5 dX8_debate_11 rfl rfl rfl fl_X8_19 (hR 25 5 29 rfl) ?_
    refine g_iconst (v := 3) C dX8_debate_14 rfl (by decide) ?_
    refine g_iald C dX8_debate_15 rfl rfl (n_in (k := 3) (N := 4) (by decide) (by decide)) ?_
    rw [show (mA S 29 (Int32.toNatClampNeg 3)) = mA S 29 3 from rfl]
    refine g_sipush (v := 9000) C dX8_debate_16 rfl (by decide) ?_
    refine g_icmp_le (tgt := 25) C dX8_debate_19 rfl (by decide) (fun h19 => ?_) (fun h19 => ?_)
    · skip
      refine g_aload_0 C dX8_debate_25 rfl ?_
      refine g_cV0v C dX8_debate_26 rfl ml_X8_169 mz_X8_remember (ok_X8_remember S hR un hun hu) (by decide) rfl rfl rfl rfl (Nat.le_of_ble_eq_true rfl) (fun hn26 => ?_)
      refine g_aload_0 C dX8_debate_29 rfl ?_
      refine g_cV0v C dX8_debate_30 rfl ml_X8_177 mz_X8_debateNow (ok_X8_debateNow (reS S un) hR nr hnr hT) (by decide) rfl rfl rfl rfl (Nat.le_of_ble_eq_true rfl) (fun hn30 => ?_)
      refine g_aload_0 C dX8_debate_33 rfl ?_
      refine g_getr C 5 dX8_debate_34 rfl rfl rfl fl_X8_19 (hR 25 5 29 rfl) ?_
      refine g_iconst (v := 1) C dX8_debate_37 rfl (by decide) ?_
      refine g_iald C dX8_debate_38 rfl rfl (n_in (k := 1) (N := 4) (by decide) (by decide)) ?_
      exact g_iret C rfl dX8_debate_39 ⟨by unfold deV; rw [if_neg h4, if_pos h19]; rfl, by unfold deS; rw [if_neg h4, if_pos h19]⟩
    · skip
      refine g_ldc C dX8_debate_22 rfl kc_X8_86 ?_
      exact g_iret C rfl dX8_debate_24 ⟨by unfold deV; rw [if_neg h4, if_neg h19], by unfold deS; rw [if_neg h4, if_neg h19]⟩
  · skip
    refine g_ldc C dX8_debate_7 rfl kc_X8_176 ?_
    exact g_iret C rfl dX8_debate_9 ⟨by unfold deV; rw [if_pos h4], by unfold deS; rw [if_pos h4]⟩

def drV (S : Mem) : Int32 := if mI S 25 0 = 0 then -1000000003 else mA S 29 1
def drS (S : Mem) (un : Nat) : Mem := if mI S 25 0 = 0 then S else sA (reS S un) 29 1 0
set_option maxHeartbeats 4000000 in
set_option maxRecDepth 20000 in
theorem ok_X8_drop (S : Mem) (hR : Rs S) (un : Nat) (hun : mI S 25 19 = nI un) (hu : un ≤ 20) : Ok yX8_drop cX8_drop 2 (some .int) 1 0 0 [.ref 25] S (RI (drV S) (drS S un)) := by
  refine Ok.of (by decide) (Nat.le_of_ble_eq_true rfl) rfl (fun κ C hx => ?_)
  have C : Cx RX8 cX8_drop 2 (some .int) 1 false _ κ := C
  refine g_aload_0 C dX8_drop_0 rfl ?_
  refine g_geti C 0 dX8_drop_1 rfl rfl rfl fl_X8_70 ?_
  refine g_if_ne (tgt := 10) C dX8_drop_4 rfl (by decide) (fun h4 => ?_) (fun h4 => ?_)
  · skip
    refine g_aload_0 C dX8_drop_10 rfl ?_
    refine g_cV0v C dX8_drop_11 rfl ml_X8_169 mz_X8_remember (ok_X8_remember S hR un hun hu) (by decide) rfl rfl rfl rfl (Nat.le_of_ble_eq_true rfl) (fun hn11 => ?_)
    refine g_aload_0 C dX8_drop_14 rfl ?_
    refine g_getr C 5 dX8_drop_15 rfl rfl rfl fl_X8_19 (hR 25 5 29 rfl) ?_
    refine g_iconst (v := 1) C dX8_drop_18 rfl (by decide) ?_
    refine g_iald C dX8_drop_19 rfl rfl (n_in (k := 1) (N := 4) (by decide) (by decide)) ?_
    refine g_istore_1 C rfl dX8_drop_20 rfl ?_
    refine g_aload_0 C dX8_drop_21 rfl ?_
    refine g_getr C 5 dX8_drop_22 rfl rfl rfl fl_X8_19 (hR 25 5 29 rfl) ?_
    refine g_iconst (v := 1) C dX8_drop_25 rfl (by decide) ?_
    refine g_iconst (v := 0) C dX8_drop_26 rfl (by decide) ?_
    refine g_iast C dX8_drop_27 rfl rfl (n_in (k := 1) (N := 4) (by decide) (by decide)) ?_
    refine g_iload_1 C dX8_drop_28 rfl ?_
    exact g_iret C rfl dX8_drop_29 ⟨by unfold drV; rw [if_neg h4]; rfl, by unfold drS; rw [if_neg h4]; rfl⟩
  · skip
    refine g_ldc C dX8_drop_7 rfl kc_X8_176 ?_
    exact g_iret C rfl dX8_drop_9 ⟨by unfold drV; rw [if_pos h4], by unfold drS; rw [if_pos h4]⟩

def unV (un : Nat) : Int32 := if un = 0 then -1000000003 else nI (un - 1)
def unS (S : Mem) (un : Nat) : Mem := if un = 0 then S else sW (sI S 25 19 (nI (un - 1))) 29 (va_cpy (mA S 34) (mA S 29) (4 * (un - 1)) 0 4)
set_option maxHeartbeats 4000000 in
set_option maxRecDepth 20000 in
theorem lp_X8_undo {κ : Kx} {Φ : Option Value → Mem → Prop} (C : Cx RX8 cX8_undo 2 (some .int) 0 false Φ κ) (S : Mem) (hR : Rs S) (un : Nat) (hun : mI S 25 19 = nI un) (hu : un ≤ 19) (K : ∀ v1 : Value, G κ 0 0 (sW S 29 (va_cpy (mA S 34) (mA S 29) (4 * un) 0 4)) 52 [.ref 25, v1] []) : ∀ (n k : Nat), k ≤ 4 → 4 + 1 ≤ k + n → G κ 0 0 (sW S 29 (va_cpy (mA S 34) (mA S 29) (4 * un) 0 k)) 22 [.ref 25, .int (nI k)] [] := by
  intro n
  induction n with
  | zero => intro k h1 h2; exact absurd h2 (by omega)
  | succ n ih =>
    intro k hk1 hk2
    refine g_iload_1 C dX8_undo_22 rfl ?_
    refine g_iconst (v := 4) C dX8_undo_23 rfl (by decide) ?_
    refine g_icmp_ge (tgt := 52) C dX8_undo_24 rfl (by decide) (fun h24 => ?_) (fun h24 => ?_)
    · skip
      have hk : k = 4 := by have := n_ge (b := 4) h24 (by omega) (by omega); omega
      rw [hk]
      exact K _
    · skip
      refine g_aload_0 C dX8_undo_27 rfl ?_
      have hk : k < 4 := n_lt (b := 4) h24 (by omega) (by omega)
      refine g_getr C 5 dX8_undo_28 rfl rfl rfl fl_X8_19 (hR 25 5 29 rfl) ?_
      refine g_iload_1 C dX8_undo_31 rfl ?_
      refine g_aload_0 C dX8_undo_32 rfl ?_
      refine g_getr C 20 dX8_undo_33 rfl rfl rfl fl_X8_38 (hR 25 20 34 rfl) ?_
      refine g_iconst (v := 4) C dX8_undo_36 rfl (by decide) ?_
      refine g_aload_0 C dX8_undo_37 rfl ?_
      refine g_geti C 19 dX8_undo_38 rfl rfl rfl fl_X8_146 ?_
      rw [show mI (sW S 29 (va_cpy (mA S 34) (mA S 29) (4 * un) 0 k)) 25 19 = nI un from hun]
      refine g_imul C dX8_undo_41 rfl ?_
      refine g_iload_1 C dX8_undo_42 rfl ?_
      refine g_iadd C dX8_undo_43 rfl ?_
      rw [i_4mul]
      refine g_iald C dX8_undo_44 rfl rfl (n_in (show 4 * un + k < 80 by omega) (by decide)) ?_
      rw [nI_clamp (show 4 * un + k < 2 ^ 31 by omega), mA_sW_ne S _ (show 34 ≠ 29 by decide)]
      refine g_iast C dX8_undo_45 rfl rfl (n_in (show k < 4 by omega) (by decide)) ?_
      have e0 := cpy_s (mA S 34) (mA S 29) (4 * un) 0 k
      rw [Nat.zero_add] at e0
      rw [nI_clamp (show k < 2 ^ 31 by omega), sA_sW, mA_sW, sW_sW, e0]
      refine g_iinc_1 (z := 1) C rfl dX8_undo_46 rfl (by decide) ?_
      refine g_goto (tgt := 22) C dX8_undo_49 (by decide) ?_
      rw [nI_1]
      exact ih (k + 1) (by omega) (by omega)

set_option maxHeartbeats 4000000 in
set_option maxRecDepth 20000 in
theorem ok_X8_undo (S : Mem) (hR : Rs S) (un : Nat) (hun : mI S 25 19 = nI un) (hu : un ≤ 20) : Ok yX8_undo cX8_undo 2 (some .int) 0 0 0 [.ref 25] S (RI (unV un) (unS S un)) := by
  refine Ok.of (by decide) (Nat.le_of_ble_eq_true rfl) rfl (fun κ C hx => ?_)
  have C : Cx RX8 cX8_undo 2 (some .int) 0 false _ κ := C
  refine g_aload_0 C dX8_undo_0 rfl ?_
  refine g_geti C 19 dX8_undo_1 rfl rfl rfl fl_X8_146 ?_
  refine g_if_ne (tgt := 10) C dX8_undo_4 rfl (by decide) (fun h4 => ?_) (fun h4 => ?_)
  · skip
    refine g_aload_0 C dX8_undo_10 rfl ?_
    have hne : ¬ un = 0 := fun q => h4 (by rw [hun, q]; rfl)
    refine g_dup C dX8_undo_11 rfl rfl ?_
    refine g_geti C 19 dX8_undo_12 rfl rfl rfl fl_X8_146 ?_
    rw [hun]
    refine g_iconst (v := 1) C dX8_undo_15 rfl (by decide) ?_
    refine g_isub C dX8_undo_16 rfl ?_
    rw [i_min1 (show 1 ≤ un by omega)]
    refine g_puti C 19 dX8_undo_17 rfl rfl rfl (Or.inl rfl) fl_X8_146 ?_
    refine g_iconst (v := 0) C dX8_undo_20 rfl (by decide) ?_
    refine g_istore_1 C rfl dX8_undo_21 rfl ?_
    have h0 := lp_X8_undo C (sI S 25 19 (nI (un - 1))) hR (un - 1) rfl (by omega) (fun v1 => ?_) 5 0 (by omega) (by omega)
    · rw [cpy_0, sW_self] at h0
      exact h0
    · refine g_aload_0 C dX8_undo_52 rfl ?_
      refine g_geti C 19 dX8_undo_53 rfl rfl rfl fl_X8_146 ?_
      exact g_iret C rfl dX8_undo_56 ⟨by unfold unV; rw [if_neg hne]; rfl, by unfold unS; rw [if_neg hne]; rfl⟩
  · skip
    refine g_ldc C dX8_undo_7 rfl kc_X8_176 ?_
    exact g_iret C rfl dX8_undo_9 ⟨by unfold unV; rw [if_pos (by rw [hun] at h4; exact n_eq (b := 0) h4 (by omega) (by decide))], by unfold unS; rw [if_pos (by rw [hun] at h4; exact n_eq (b := 0) h4 (by omega) (by decide))]⟩

def keS1 (S : Mem) (i : Nat) : Mem := sI (sA (sA (sW S 42 (va_cpy (mA S 29) (mA S 42) 0 (5 * i) 4)) 42 (5 * i + 4) (mI S 25 6)) 43 i 1) 25 19 0
def keV (i : Int32) : Int32 := if inI i 0 1 = true then 1 else -1000000001
def keS (S : Mem) (i : Int32) : Mem := if inI i 0 1 = true then keS1 S i.toNatClampNeg else S
set_option maxHeartbeats 4000000 in
set_option maxRecDepth 20000 in
theorem lp_X8_keep {κ : Kx} {Φ : Option Value → Mem → Prop} (C : Cx RX8 cX8_keep 3 (some .int) 1 false Φ κ) (S : Mem) (hR : Rs S) (i : Nat) (hi : i ≤ 1) (K : ∀ v1 : Value, G κ 0 0 (sW S 42 (va_cpy (mA S 29) (mA S 42) 0 (5 * i) 4)) 42 [.ref 25, .int (nI i), v1] []) : ∀ (n k : Nat), k ≤ 4 → 4 + 1 ≤ k + n → G κ 0 0 (sW S 42 (va_cpy (mA S 29) (mA S 42) 0 (5 * i) k)) 15 [.ref 25, .int (nI i), .int (nI k)] [] := by
  intro n
  induction n with
  | zero => intro k h1 h2; exact absurd h2 (by omega)
  | succ n ih =>
    intro k hk1 hk2
    refine g_iload_2 C dX8_keep_15 rfl ?_
    refine g_iconst (v := 4) C dX8_keep_16 rfl (by decide) ?_
    refine g_icmp_ge (tgt := 42) C dX8_keep_17 rfl (by decide) (fun h17 => ?_) (fun h17 => ?_)
    · skip
      have hk : k = 4 := by have := n_ge (b := 4) h17 (by omega) (by omega); omega
      rw [hk]
      exact K _
    · skip
      refine g_aload_0 C dX8_keep_20 rfl ?_
      have hk : k < 4 := n_lt (b := 4) h17 (by omega) (by omega)
      refine g_getr C 30 dX8_keep_21 rfl rfl rfl fl_X8_64 (hR 25 30 42 rfl) ?_
      refine g_iconst (v := 5) C dX8_keep_24 rfl (by decide) ?_
      refine g_iload_1 C dX8_keep_25 rfl ?_
      refine g_imul C dX8_keep_26 rfl ?_
      refine g_iload_2 C dX8_keep_27 rfl ?_
      refine g_iadd C dX8_keep_28 rfl ?_
      rw [i_5mul]
      refine g_aload_0 C dX8_keep_29 rfl ?_
      refine g_getr C 5 dX8_keep_30 rfl rfl rfl fl_X8_19 (hR 25 5 29 rfl) ?_
      refine g_iload_2 C dX8_keep_33 rfl ?_
      refine g_iald C dX8_keep_34 rfl rfl (n_in (show k < 4 by omega) (by decide)) ?_
      rw [nI_clamp (show k < 2 ^ 31 by omega), mA_sW_ne S _ (show 29 ≠ 42 by decide)]
      refine g_iast C dX8_keep_35 rfl rfl (n_in (show 5 * i + k < 10 by omega) (by decide)) ?_
      rw [nI_clamp (show 5 * i + k < 2 ^ 31 by omega), sA_sW, mA_sW, sW_sW, show mA S 29 k = mA S 29 (0 + k) from by rw [Nat.zero_add], cpy_s]
      refine g_iinc_2 (z := 1) C rfl dX8_keep_36 rfl (by decide) ?_
      refine g_goto (tgt := 15) C dX8_keep_39 (by decide) ?_
      rw [nI_1]
      exact ih (k + 1) (by omega) (by omega)

theorem i_5mul4 (a : Nat) : 5 * nI a + 4 = nI (5 * a + 4) := i_5mul a 4
set_option maxHeartbeats 4000000 in
set_option maxRecDepth 20000 in
theorem ok_X8_keep (i : Int32) (S : Mem) (hR : Rs S) : Ok yX8_keep cX8_keep 3 (some .int) 1 0 0 [.ref 25, .int i] S (RI (keV i) (keS S i)) := by
  refine Ok.of (by decide) (Nat.le_of_ble_eq_true rfl) rfl (fun κ C hx => ?_)
  have C : Cx RX8 cX8_keep 3 (some .int) 1 false _ κ := C
  refine g_iload_1 C dX8_keep_0 rfl ?_
  refine g_i2l C dX8_keep_1 rfl ?_
  refine g_lconst (v := 0) C dX8_keep_2 rfl (by decide) ?_
  refine g_lconst (v := 1) C dX8_keep_3 rfl (by decide) ?_
  refine g_cS3i C dX8_keep_4 rfl ml_X8_73 mz_X8_in (ok_X8_in _ _ _ _) (by decide) rfl rfl (Nat.le_of_ble_eq_true rfl) (fun hn4 => ?_)
  rw [show inL i.toInt64 0 1 = inI i 0 1 from inL_32 i 0 1]
  refine g_if_ne (tgt := 13) C dX8_keep_7 rfl (by decide) (fun h7 => ?_) (fun h7 => ?_)
  · skip
    refine g_iconst (v := 0) C dX8_keep_13 rfl (by decide) ?_
    refine g_istore_2 C rfl dX8_keep_14 rfl ?_
    have hin : inI i 0 1 = true := (nf_t (fun q => h7 ((bI_0 _).mpr q)))
    obtain ⟨j, hj, e⟩ : ∃ j : Nat, j ≤ 1 ∧ i = nI j := by
      rcases inI_01 hin with h | h
      · exact ⟨0, by omega, h⟩
      · exact ⟨1, by omega, h⟩
    have eV : keV i = 1 := if_pos hin
    have eS : keS S i = keS1 S j := by unfold keS; rw [if_pos hin, e, nI_clamp (by omega)]
    rw [e]
    have h0 := lp_X8_keep C S hR j hj (fun v1 => ?_) 5 0 (by omega) (by omega)
    · rw [cpy_0, sW_self] at h0
      exact h0
    · refine g_aload_0 C dX8_keep_42 rfl ?_
      refine g_getr C 30 dX8_keep_43 rfl rfl rfl fl_X8_64 (hR 25 30 42 rfl) ?_
      refine g_iconst (v := 5) C dX8_keep_46 rfl (by decide) ?_
      refine g_iload_1 C dX8_keep_47 rfl ?_
      refine g_imul C dX8_keep_48 rfl ?_
      refine g_iconst (v := 4) C dX8_keep_49 rfl (by decide) ?_
      refine g_iadd C dX8_keep_50 rfl ?_
      rw [i_5mul4]
      refine g_aload_0 C dX8_keep_51 rfl ?_
      refine g_geti C 6 dX8_keep_52 rfl rfl rfl fl_X8_180 ?_
      refine g_iast C dX8_keep_55 rfl rfl (n_in (show 5 * j + 4 < 10 by omega) (by decide)) ?_
      rw [nI_clamp (show 5 * j + 4 < 2 ^ 31 by omega)]
      refine g_aload_0 C dX8_keep_56 rfl ?_
      refine g_getr C 31 dX8_keep_57 rfl rfl rfl fl_X8_67 (hR 25 31 43 rfl) ?_
      refine g_iload_1 C dX8_keep_60 rfl ?_
      refine g_iconst (v := 1) C dX8_keep_61 rfl (by decide) ?_
      refine g_zast C dX8_keep_62 rfl rfl (n_in (show j < 2 by omega) (by decide)) (by first | exact Or.inl rfl | exact Or.inr rfl) ?_
      rw [nI_clamp (show j < 2 ^ 31 by omega)]
      refine g_aload_0 C dX8_keep_63 rfl ?_
      refine g_iconst (v := 0) C dX8_keep_64 rfl (by decide) ?_
      refine g_puti C 19 dX8_keep_65 rfl rfl rfl (Or.inl rfl) fl_X8_146 ?_
      refine g_iconst (v := 1) C dX8_keep_68 rfl (by decide) ?_
      exact g_iret C rfl dX8_keep_69 ⟨by rw [eV], by rw [eS]; rfl⟩
  · skip
    refine g_ldc C dX8_keep_10 rfl kc_X8_165 ?_
    exact g_iret C rfl dX8_keep_12 ⟨by unfold keV; rw [if_neg (by rw [(bI_0 _).mp h7]; decide)], by unfold keS; rw [if_neg (by rw [(bI_0 _).mp h7]; decide)]⟩

def gbS1 (S : Mem) (i : Nat) : Mem := sI (sI (sW S 29 (va_cpy (mA S 42) (mA S 29) (5 * i) 0 4)) 25 6 (mA S 42 (5 * i + 4))) 25 19 0
def gbV (S : Mem) (i : Int32) : Int32 := if inI i 0 1 = true then (if mA S 43 i.toNatClampNeg = 0 then -1000000003 else 1) else -1000000001
def gbS (S : Mem) (i : Int32) : Mem := if inI i 0 1 = true then (if mA S 43 i.toNatClampNeg = 0 then S else gbS1 S i.toNatClampNeg) else S
set_option maxHeartbeats 4000000 in
set_option maxRecDepth 20000 in
theorem lp_X8_goBack {κ : Kx} {Φ : Option Value → Mem → Prop} (C : Cx RX8 cX8_goBack 3 (some .int) 1 false Φ κ) (S : Mem) (hR : Rs S) (i : Nat) (hi : i ≤ 1) (K : ∀ v1 : Value, G κ 0 0 (sW S 29 (va_cpy (mA S 42) (mA S 29) (5 * i) 0 4)) 54 [.ref 25, .int (nI i), v1] []) : ∀ (n k : Nat), k ≤ 4 → 4 + 1 ≤ k + n → G κ 0 0 (sW S 29 (va_cpy (mA S 42) (mA S 29) (5 * i) 0 k)) 27 [.ref 25, .int (nI i), .int (nI k)] [] := by
  intro n
  induction n with
  | zero => intro k h1 h2; exact absurd h2 (by omega)
  | succ n ih =>
    intro k hk1 hk2
    refine g_iload_2 C dX8_goBack_27 rfl ?_
    refine g_iconst (v := 4) C dX8_goBack_28 rfl (by decide) ?_
    refine g_icmp_ge (tgt := 54) C dX8_goBack_29 rfl (by decide) (fun h29 => ?_) (fun h29 => ?_)
    · skip
      have hk : k = 4 := by have := n_ge (b := 4) h29 (by omega) (by omega); omega
      rw [hk]
      exact K _
    · skip
      refine g_aload_0 C dX8_goBack_32 rfl ?_
      have hk : k < 4 := n_lt (b := 4) h29 (by omega) (by omega)
      refine g_getr C 5 dX8_goBack_33 rfl rfl rfl fl_X8_19 (hR 25 5 29 rfl) ?_
      refine g_iload_2 C dX8_goBack_36 rfl ?_
      refine g_aload_0 C dX8_goBack_37 rfl ?_
      refine g_getr C 30 dX8_goBack_38 rfl rfl rfl fl_X8_64 (hR 25 30 42 rfl) ?_
      refine g_iconst (v := 5) C dX8_goBack_41 rfl (by decide) ?_
      refine g_iload_1 C dX8_goBack_42 rfl ?_
      refine g_imul C dX8_goBack_43 rfl ?_
      refine g_iload_2 C dX8_goBack_44 rfl ?_
      refine g_iadd C dX8_goBack_45 rfl ?_
      rw [i_5mul]
      refine g_iald C dX8_goBack_46 rfl rfl (n_in (show 5 * i + k < 10 by omega) (by decide)) ?_
      rw [nI_clamp (show 5 * i + k < 2 ^ 31 by omega), mA_sW_ne S _ (show 42 ≠ 29 by decide)]
      refine g_iast C dX8_goBack_47 rfl rfl (n_in (show k < 4 by omega) (by decide)) ?_
      have e0 := cpy_s (mA S 42) (mA S 29) (5 * i) 0 k
      rw [Nat.zero_add] at e0
      rw [nI_clamp (show k < 2 ^ 31 by omega), sA_sW, mA_sW, sW_sW, e0]
      refine g_iinc_2 (z := 1) C rfl dX8_goBack_48 rfl (by decide) ?_
      refine g_goto (tgt := 27) C dX8_goBack_51 (by decide) ?_
      rw [nI_1]
      exact ih (k + 1) (by omega) (by omega)

set_option maxHeartbeats 4000000 in
set_option maxRecDepth 20000 in
theorem ok_X8_goBack (i : Int32) (S : Mem) (hR : Rs S) : Ok yX8_goBack cX8_goBack 3 (some .int) 1 0 0 [.ref 25, .int i] S (RI (gbV S i) (gbS S i)) := by
  refine Ok.of (by decide) (Nat.le_of_ble_eq_true rfl) rfl (fun κ C hx => ?_)
  have C : Cx RX8 cX8_goBack 3 (some .int) 1 false _ κ := C
  refine g_iload_1 C dX8_goBack_0 rfl ?_
  refine g_i2l C dX8_goBack_1 rfl ?_
  refine g_lconst (v := 0) C dX8_goBack_2 rfl (by decide) ?_
  refine g_lconst (v := 1) C dX8_goBack_3 rfl (by decide) ?_
  refine g_cS3i C dX8_goBack_4 rfl ml_X8_73 mz_X8_in (ok_X8_in _ _ _ _) (by decide) rfl rfl (Nat.le_of_ble_eq_true rfl) (fun hn4 => ?_)
  rw [show inL i.toInt64 0 1 = inI i 0 1 from inL_32 i 0 1]
  refine g_if_ne (tgt := 13) C dX8_goBack_7 rfl (by decide) (fun h7 => ?_) (fun h7 => ?_)
  · skip
    refine g_aload_0 C dX8_goBack_13 rfl ?_
    have hin : inI i 0 1 = true := (nf_t (fun q => h7 ((bI_0 _).mpr q)))
    refine g_getr C 31 dX8_goBack_14 rfl rfl rfl fl_X8_67 (hR 25 31 43 rfl) ?_
    refine g_iload_1 C dX8_goBack_17 rfl ?_
    refine g_zald C dX8_goBack_18 rfl rfl (by rcases inI_01 hin with h | h <;> rw [h] <;> exact n_in (by decide) (by decide)) ?_
    refine g_if_ne (tgt := 25) C dX8_goBack_19 rfl (by decide) (fun h19 => ?_) (fun h19 => ?_)
    · skip
      refine g_iconst (v := 0) C dX8_goBack_25 rfl (by decide) ?_
      refine g_istore_2 C rfl dX8_goBack_26 rfl ?_
      obtain ⟨j, hj, e⟩ : ∃ j : Nat, j ≤ 1 ∧ i = nI j := by
        rcases inI_01 hin with h | h
        · exact ⟨0, by omega, h⟩
        · exact ⟨1, by omega, h⟩
      have eV : gbV S i = 1 := by unfold gbV; rw [if_pos hin, if_neg h19]
      have eS : gbS S i = gbS1 S j := by unfold gbS; rw [if_pos hin, if_neg h19, e, nI_clamp (by omega)]
      rw [e]
      have h0 := lp_X8_goBack C S hR j hj (fun v1 => ?_) 5 0 (by omega) (by omega)
      · rw [cpy_0, sW_self] at h0
        exact h0
      · refine g_aload_0 C dX8_goBack_54 rfl ?_
        refine g_aload_0 C dX8_goBack_55 rfl ?_
        refine g_getr C 30 dX8_goBack_56 rfl rfl rfl fl_X8_64 (hR 25 30 42 rfl) ?_
        refine g_iconst (v := 5) C dX8_goBack_59 rfl (by decide) ?_
        refine g_iload_1 C dX8_goBack_60 rfl ?_
        refine g_imul C dX8_goBack_61 rfl ?_
        refine g_iconst (v := 4) C dX8_goBack_62 rfl (by decide) ?_
        refine g_iadd C dX8_goBack_63 rfl ?_
        rw [i_5mul4]
        refine g_iald C dX8_goBack_64 rfl rfl (n_in (show 5 * j + 4 < 10 by omega) (by decide)) ?_
        rw [nI_clamp (show 5 * j + 4 < 2 ^ 31 by omega), mA_sW_ne S _ (show 42 ≠ 29 by decide)]
        refine g_puti C 6 dX8_goBack_65 rfl rfl rfl (Or.inl rfl) fl_X8_180 ?_
        refine g_aload_0 C dX8_goBack_68 rfl ?_
        refine g_iconst (v := 0) C dX8_goBack_69 rfl (by decide) ?_
        refine g_puti C 19 dX8_goBack_70 rfl rfl rfl (Or.inl rfl) fl_X8_146 ?_
        refine g_iconst (v := 1) C dX8_goBack_73 rfl (by decide) ?_
        exact g_iret C rfl dX8_goBack_74 ⟨by rw [eV], by rw [eS]; rfl⟩
    · skip
      refine g_ldc C dX8_goBack_22 rfl kc_X8_176 ?_
      exact g_iret C rfl dX8_goBack_24 ⟨by unfold gbV; rw [if_pos hin, if_pos h19], by unfold gbS; rw [if_pos hin, if_pos h19]⟩
  · skip
    refine g_ldc C dX8_goBack_10 rfl kc_X8_165 ?_
    exact g_iret C rfl dX8_goBack_12 ⟨by unfold gbV; rw [if_neg (by rw [(bI_0 _).mp h7]; decide)], by unfold gbS; rw [if_neg (by rw [(bI_0 _).mp h7]; decide)]⟩

