/-! rows written as wholes -/
def sW (S : Mem) (p : Nat) (f : Nat → Int32) : Mem := (mN S, mK S, mI S, mR S, u1 (mA S) p f, mL S, mQ S)
theorem mem_ext {S T : Mem} (h1 : mN S = mN T) (h2 : mK S = mK T) (h3 : mI S = mI T) (h4 : mR S = mR T) (h5 : mA S = mA T) (h6 : mL S = mL T) (h7 : mQ S = mQ T) : S = T := by
  obtain ⟨a1, a2, a3, a4, a5, a6, a7⟩ := S
  obtain ⟨b1, b2, b3, b4, b5, b6, b7⟩ := T
  have h1 : a1 = b1 := h1
  have h2 : a2 = b2 := h2
  have h3 : a3 = b3 := h3
  have h4 : a4 = b4 := h4
  have h5 : a5 = b5 := h5
  have h6 : a6 = b6 := h6
  have h7 : a7 = b7 := h7
  subst h1; subst h2; subst h3; subst h4; subst h5; subst h6; subst h7
  rfl
theorem sA_sW (S : Mem) (p j : Nat) (x : Int32) : sA S p j x = sW S p (upd (mA S p) j x) := by
  refine mem_ext rfl rfl rfl rfl ?_ rfl rfl
  funext a b
  show u2 (mA S) p j x a b = u1 (mA S) p (upd (mA S p) j x) a b
  unfold u2 u1 upd
  by_cases h : a = p
  · subst h
    rw [if_pos rfl, if_pos rfl]
  · rw [if_neg h, if_neg h]
theorem mA_sW (S : Mem) (p : Nat) (f : Nat → Int32) : mA (sW S p f) p = f := by show u1 _ _ _ p = _; unfold u1; rw [if_pos rfl]
theorem mA_sW_ne (S : Mem) {p a : Nat} (f : Nat → Int32) (h : a ≠ p) : mA (sW S p f) a = mA S a := by show u1 _ _ _ a = _; unfold u1; rw [if_neg h]
theorem sW_sW (S : Mem) (p : Nat) (f g : Nat → Int32) : sW (sW S p f) p g = sW S p g := by
  refine mem_ext rfl rfl rfl rfl ?_ rfl rfl
  funext a
  show u1 (u1 (mA S) p f) p g a = u1 (mA S) p g a
  unfold u1
  by_cases h : a = p
  · rw [if_pos h, if_pos h]
  · rw [if_neg h, if_neg h, if_neg h]
theorem sW_self (S : Mem) (p : Nat) : sW S p (mA S p) = S := by
  refine mem_ext rfl rfl rfl rfl ?_ rfl rfl
  funext a
  show u1 (mA S) p (mA S p) a = mA S a
  unfold u1
  by_cases h : a = p
  · rw [if_pos h, h]
  · rw [if_neg h]
theorem u2_u2 {α : Type} (f : Nat → Nat → α) (p j : Nat) (v x : α) : u2 (u2 f p j v) p j x = u2 f p j x := by
  funext a b
  unfold u2
  by_cases h : a = p <;> by_cases h2 : b = j <;> simp [h, h2]
theorem sI_sI (S : Mem) (p j : Nat) (v x : Int32) : sI (sI S p j v) p j x = sI S p j x := mem_ext rfl rfl (u2_u2 _ _ _ _ _) rfl rfl rfl rfl
theorem sI_sW (S : Mem) (p j q : Nat) (v : Int32) (f : Nat → Int32) : sW (sI S p j v) q f = sI (sW S q f) p j v := rfl
theorem i_min4 {k : Nat} (h : 4 ≤ k) : nI k - 4 = nI (k - 4) := pk_sub (a := k) (b := 4) h
theorem i_min1 {k : Nat} (h : 1 ≤ k) : nI k - 1 = nI (k - 1) := pk_sub (a := k) (b := 1) h
theorem i_4mul (a k : Nat) : 4 * nI a + nI k = nI (4 * a + k) := by
  rw [show (4 : Int32) * nI a = nI (4 * a) from pk_mul 4 a, nI_add]
theorem i_5mul (a k : Nat) : 5 * nI a + nI k = nI (5 * a + k) := by
  rw [show (5 : Int32) * nI a = nI (5 * a) from pk_mul 5 a, nI_add]
theorem inI_01 {i : Int32} (h : inI i 0 1 = true) : i = nI 0 ∨ i = nI 1 := by
  have h1 := of_decide_eq_true h
  obtain ⟨j, hj, e⟩ := nI_of2 (M := 1) (n := 1) rfl (i_not_lt h1.1) h1.2
  rcases (by omega : j = 0 ∨ j = 1) with h2 | h2
  · left; rw [e, h2]
  · right; rw [e, h2]
def shF (f : Nat → Int32) (k : Nat) : Nat → Int32 := fun j => if j + 4 < k then f (j + 4) else f j
theorem shF_s (f : Nat → Int32) {k : Nat} (hk : 4 ≤ k) : upd (shF f k) (k - 4) (f k) = shF f (k + 1) := by
  funext j
  unfold upd shF
  by_cases h : j = k - 4
  · rw [if_pos h, if_pos (by omega)]
    congr 1
    omega
  · rw [if_neg h]
    by_cases h2 : j + 4 < k
    · rw [if_pos h2, if_pos (by omega)]
    · rw [if_neg h2, if_neg (by omega)]
theorem cpy_s (f g : Nat → Int32) (sp dp k : Nat) : upd (va_cpy f g sp dp k) (dp + k) (f (sp + k)) = va_cpy f g sp dp (k + 1) := by
  funext j
  unfold upd va_cpy
  by_cases h : j = dp + k
  · rw [if_pos h, if_pos (by omega)]
    congr 1
    omega
  · rw [if_neg h]
    by_cases h2 : dp ≤ j ∧ j < dp + k
    · rw [if_pos h2, if_pos (by omega)]
    · rw [if_neg h2, if_neg (by omega)]
theorem cpy_0 (f g : Nat → Int32) (sp dp : Nat) : va_cpy f g sp dp 0 = g := by
  funext j
  unfold va_cpy
  rw [if_neg (by omega)]
theorem cpy_out (f g : Nat → Int32) {sp dp k j : Nat} (h : ¬ (dp ≤ j ∧ j < dp + k)) : va_cpy f g sp dp k j = g j := if_neg h

def fdV (tn : Nat) (c : Int32) : Int32 := if inI c 0 255 = true then (if tn = 240 then -1000000004 else nI (tn + 1)) else -1000000002
def fdS (S : Mem) (tn : Nat) (c : Int32) : Mem := if inI c 0 255 = true then (if tn = 240 then S else sI (sA S 30 tn c) 25 8 (nI (tn + 1))) else S
set_option maxHeartbeats 4000000 in
set_option maxRecDepth 20000 in
theorem ok_X8_feed (c : Int32) (S : Mem) (hR : Rs S) (tn : Nat) (htn : mI S 25 8 = nI tn) (ht : tn ≤ 240) : Ok yX8_feed cX8_feed 2 (some .int) 1 0 0 [.ref 25, .int c] S (RI (fdV tn c) (fdS S tn c)) := by
  refine Ok.of (by decide) (Nat.le_of_ble_eq_true rfl) rfl (fun κ C hx => ?_)
  have C : Cx RX8 cX8_feed 2 (some .int) 1 false _ κ := C
  refine g_iload_1 C dX8_feed_0 rfl ?_
  refine g_i2l C dX8_feed_1 rfl ?_
  refine g_lconst (v := 0) C dX8_feed_2 rfl (by decide) ?_
  refine g_ldc2 C dX8_feed_3 rfl kl_X8_80 ?_
  refine g_cS3i C dX8_feed_6 rfl ml_X8_73 mz_X8_in (ok_X8_in _ _ _ _) (by decide) rfl rfl (Nat.le_of_ble_eq_true rfl) (fun hn6 => ?_)
  rw [show inL c.toInt64 0 255 = inI c 0 255 from inL_32 c 0 255]
  refine g_if_ne (tgt := 15) C dX8_feed_9 rfl (by decide) (fun h9 => ?_) (fun h9 => ?_)
  · skip
    refine g_aload_0 C dX8_feed_15 rfl ?_
    refine g_geti C 8 dX8_feed_16 rfl rfl rfl fl_X8_83 ?_
    refine g_sipush (v := 240) C dX8_feed_19 rfl (by decide) ?_
    refine g_icmp_ne (tgt := 28) C dX8_feed_22 rfl (by decide) (fun h22 => ?_) (fun h22 => ?_)
    · skip
      refine g_aload_0 C dX8_feed_28 rfl ?_
      refine g_getr C 7 dX8_feed_29 rfl rfl rfl fl_X8_22 (hR 25 7 30 rfl) ?_
      have hne : ¬ tn = 240 := fun q => h22 (by rw [htn, q]; rfl)
      refine g_aload_0 C dX8_feed_32 rfl ?_
      refine g_geti C 8 dX8_feed_33 rfl rfl rfl fl_X8_83 ?_
      rw [htn]
      refine g_iload_1 C dX8_feed_36 rfl ?_
      refine g_iast C dX8_feed_37 rfl rfl (n_in (show tn < 240 by omega) (by decide)) ?_
      rw [nI_clamp (show tn < 2 ^ 31 by omega)]
      refine g_aload_0 C dX8_feed_38 rfl ?_
      refine g_dup C dX8_feed_39 rfl rfl ?_
      refine g_geti C 8 dX8_feed_40 rfl rfl rfl fl_X8_83 ?_
      rw [show mI (sA S 30 tn c) 25 8 = nI tn from htn]
      refine g_iconst (v := 1) C dX8_feed_43 rfl (by decide) ?_
      refine g_iadd C dX8_feed_44 rfl ?_
      refine g_puti C 8 dX8_feed_45 rfl rfl rfl (Or.inl rfl) fl_X8_83 ?_
      refine g_aload_0 C dX8_feed_48 rfl ?_
      refine g_geti C 8 dX8_feed_49 rfl rfl rfl fl_X8_83 ?_
      exact g_iret C rfl dX8_feed_52 ⟨by unfold fdV; rw [if_pos (nf_t (fun q => h9 ((bI_0 _).mpr q))), if_neg hne, ← nI_1]; rfl, by unfold fdS; rw [if_pos (nf_t (fun q => h9 ((bI_0 _).mpr q))), if_neg hne, nI_1]⟩
    · skip
      refine g_ldc C dX8_feed_25 rfl kc_X8_86 ?_
      exact g_iret C rfl dX8_feed_27 ⟨by unfold fdV; rw [if_pos (nf_t (fun q => h9 ((bI_0 _).mpr q))), if_pos (by rw [htn] at h22; exact n_eq (b := 240) h22 (by omega) (by decide))], by unfold fdS; rw [if_pos (nf_t (fun q => h9 ((bI_0 _).mpr q))), if_pos (by rw [htn] at h22; exact n_eq (b := 240) h22 (by omega) (by decide))]⟩
  · skip
    refine g_ldc C dX8_feed_12 rfl kc_X8_82 ?_
    exact g_iret C rfl dX8_feed_14 ⟨by unfold fdV; rw [if_neg (by rw [(bI_0 _).mp h9]; decide)], by unfold fdS; rw [if_neg (by rw [(bI_0 _).mp h9]; decide)]⟩

def sdV (S : Mem) (v : Int32) : Int32 := if 0 ≤ v then mI S 25 6 else -1000000002
def sdS (S : Mem) (v : Int32) : Mem := if 0 ≤ v then sI S 25 6 v else S
set_option maxHeartbeats 4000000 in
set_option maxRecDepth 20000 in
theorem ok_X8_seed (v : Int32) (S : Mem) : Ok yX8_seed cX8_seed 3 (some .int) 0 0 0 [.ref 25, .int v] S (RI (sdV S v) (sdS S v)) := by
  refine Ok.of (by decide) (Nat.le_of_ble_eq_true rfl) rfl (fun κ C hx => ?_)
  have C : Cx RX8 cX8_seed 3 (some .int) 0 false _ κ := C
  refine g_iload_1 C dX8_seed_0 rfl ?_
  refine g_if_ge (tgt := 7) C dX8_seed_1 rfl (by decide) (fun h1 => ?_) (fun h1 => ?_)
  · skip
    refine g_aload_0 C dX8_seed_7 rfl ?_
    refine g_geti C 6 dX8_seed_8 rfl rfl rfl fl_X8_180 ?_
    refine g_istore_2 C rfl dX8_seed_11 rfl ?_
    refine g_aload_0 C dX8_seed_12 rfl ?_
    refine g_iload_1 C dX8_seed_13 rfl ?_
    refine g_puti C 6 dX8_seed_14 rfl rfl rfl (Or.inl rfl) fl_X8_180 ?_
    refine g_iload_2 C dX8_seed_17 rfl ?_
    exact g_iret C rfl dX8_seed_18 ⟨by unfold sdV; rw [if_pos h1], by unfold sdS; rw [if_pos h1]⟩
  · skip
    refine g_ldc C dX8_seed_4 rfl kc_X8_82 ?_
    exact g_iret C rfl dX8_seed_6 ⟨by unfold sdV; rw [if_neg h1], by unfold sdS; rw [if_neg h1]⟩

set_option maxHeartbeats 4000000 in
set_option maxRecDepth 20000 in
theorem ok_X8_tear (S : Mem) : Ok yX8_tear cX8_tear 2 (some .int) 0 0 0 [.ref 25] S (RI (mI S 25 22 + mI S 25 27) (sI (sI S 25 22 0) 25 27 0)) := by
  refine Ok.of (by decide) (Nat.le_of_ble_eq_true rfl) rfl (fun κ C hx => ?_)
  have C : Cx RX8 cX8_tear 2 (some .int) 0 false _ κ := C
  refine g_aload_0 C dX8_tear_0 rfl ?_
  refine g_geti C 22 dX8_tear_1 rfl rfl rfl fl_X8_140 ?_
  refine g_aload_0 C dX8_tear_4 rfl ?_
  refine g_geti C 27 dX8_tear_5 rfl rfl rfl fl_X8_143 ?_
  refine g_iadd C dX8_tear_8 rfl ?_
  refine g_istore_1 C rfl dX8_tear_9 rfl ?_
  refine g_aload_0 C dX8_tear_10 rfl ?_
  refine g_iconst (v := 0) C dX8_tear_11 rfl (by decide) ?_
  refine g_puti C 22 dX8_tear_12 rfl rfl rfl (Or.inl rfl) fl_X8_140 ?_
  refine g_aload_0 C dX8_tear_15 rfl ?_
  refine g_iconst (v := 0) C dX8_tear_16 rfl (by decide) ?_
  refine g_puti C 27 dX8_tear_17 rfl rfl rfl (Or.inl rfl) fl_X8_143 ?_
  refine g_iload_1 C dX8_tear_20 rfl ?_
  exact g_iret C rfl dX8_tear_21 ⟨rfl, rfl⟩

def wrV (S : Mem) (bn : Nat) (s x : Int32) : Int32 := if sayB (mI S 25 0) s = true then (if inI x 0 1 = true then (if bn = 15 then -1000000004 else nI (bn + 1)) else -1000000002) else -1000000001
def wrS (S : Mem) (bn : Nat) (s x : Int32) : Mem := if sayB (mI S 25 0) s = true then (if inI x 0 1 = true then (if bn = 15 then S else sI (sA (sA S 40 bn s) 41 bn x) 25 27 (nI (bn + 1))) else S) else S
set_option maxHeartbeats 4000000 in
set_option maxRecDepth 20000 in
theorem ok_X8_write (s x : Int32) (S : Mem) (hR : Rs S) (bn : Nat) (hbn : mI S 25 27 = nI bn) (hb : bn ≤ 15) : Ok yX8_write cX8_write 3 (some .int) 2 0 0 [.ref 25, .int s, .int x] S (RI (wrV S bn s x) (wrS S bn s x)) := by
  refine Ok.of (by decide) (Nat.le_of_ble_eq_true rfl) rfl (fun κ C hx => ?_)
  have C : Cx RX8 cX8_write 3 (some .int) 2 false _ κ := C
  refine g_aload_0 C dX8_write_0 rfl ?_
  refine g_iload_1 C dX8_write_1 rfl ?_
  refine g_cV1i C dX8_write_2 rfl ml_X8_166 mz_X8_isSaying (ok_X8_isSaying _ S) (by decide) rfl rfl rfl rfl (Nat.le_of_ble_eq_true rfl) (fun hn2 => ?_)
  refine g_if_ne (tgt := 11) C dX8_write_5 rfl (by decide) (fun h5 => ?_) (fun h5 => ?_)
  · skip
    refine g_iload_2 C dX8_write_11 rfl ?_
    refine g_i2l C dX8_write_12 rfl ?_
    refine g_lconst (v := 0) C dX8_write_13 rfl (by decide) ?_
    refine g_lconst (v := 1) C dX8_write_14 rfl (by decide) ?_
    refine g_cS3i C dX8_write_15 rfl ml_X8_73 mz_X8_in (ok_X8_in _ _ _ _) (by decide) rfl rfl (Nat.le_of_ble_eq_true rfl) (fun hn15 => ?_)
    rw [show inL x.toInt64 0 1 = inI x 0 1 from inL_32 x 0 1]
    refine g_if_ne (tgt := 24) C dX8_write_18 rfl (by decide) (fun h18 => ?_) (fun h18 => ?_)
    · skip
      refine g_aload_0 C dX8_write_24 rfl ?_
      refine g_geti C 27 dX8_write_25 rfl rfl rfl fl_X8_143 ?_
      refine g_bipush (v := 15) C dX8_write_28 rfl (by decide) ?_
      refine g_icmp_ne (tgt := 36) C dX8_write_30 rfl (by decide) (fun h30 => ?_) (fun h30 => ?_)
      · skip
        refine g_aload_0 C dX8_write_36 rfl ?_
        refine g_getr C 28 dX8_write_37 rfl rfl rfl fl_X8_58 (hR 25 28 40 rfl) ?_
        have hne : ¬ bn = 15 := fun q => h30 (by rw [hbn, q]; rfl)
        refine g_aload_0 C dX8_write_40 rfl ?_
        refine g_geti C 27 dX8_write_41 rfl rfl rfl fl_X8_143 ?_
        rw [hbn]
        refine g_iload_1 C dX8_write_44 rfl ?_
        refine g_iast C dX8_write_45 rfl rfl (n_in (show bn < 15 by omega) (by decide)) ?_
        rw [nI_clamp (show bn < 2 ^ 31 by omega)]
        refine g_aload_0 C dX8_write_46 rfl ?_
        refine g_getr C 29 dX8_write_47 rfl rfl rfl fl_X8_61 (hR 25 29 41 rfl) ?_
        refine g_aload_0 C dX8_write_50 rfl ?_
        refine g_geti C 27 dX8_write_51 rfl rfl rfl fl_X8_143 ?_
        rw [show mI (sA S 40 bn s) 25 27 = nI bn from hbn]
        refine g_iload_2 C dX8_write_54 rfl ?_
        refine g_iast C dX8_write_55 rfl rfl (n_in (show bn < 15 by omega) (by decide)) ?_
        rw [nI_clamp (show bn < 2 ^ 31 by omega)]
        refine g_aload_0 C dX8_write_56 rfl ?_
        refine g_dup C dX8_write_57 rfl rfl ?_
        refine g_geti C 27 dX8_write_58 rfl rfl rfl fl_X8_143 ?_
        rw [show mI (sA (sA S 40 bn s) 41 bn x) 25 27 = nI bn from hbn]
        refine g_iconst (v := 1) C dX8_write_61 rfl (by decide) ?_
        refine g_iadd C dX8_write_62 rfl ?_
        refine g_puti C 27 dX8_write_63 rfl rfl rfl (Or.inl rfl) fl_X8_143 ?_
        refine g_aload_0 C dX8_write_66 rfl ?_
        refine g_geti C 27 dX8_write_67 rfl rfl rfl fl_X8_143 ?_
        exact g_iret C rfl dX8_write_70 ⟨by unfold wrV; rw [if_pos (nf_t (fun q => h5 ((bI_0 _).mpr q))), if_pos (nf_t (fun q => h18 ((bI_0 _).mpr q))), if_neg hne, ← nI_1]; rfl, by unfold wrS; rw [if_pos (nf_t (fun q => h5 ((bI_0 _).mpr q))), if_pos (nf_t (fun q => h18 ((bI_0 _).mpr q))), if_neg hne, nI_1]⟩
      · skip
        refine g_ldc C dX8_write_33 rfl kc_X8_86 ?_
        exact g_iret C rfl dX8_write_35 ⟨by unfold wrV; rw [if_pos (nf_t (fun q => h5 ((bI_0 _).mpr q))), if_pos (nf_t (fun q => h18 ((bI_0 _).mpr q))), if_pos (by rw [hbn] at h30; exact n_eq (b := 15) h30 (by omega) (by decide))], by unfold wrS; rw [if_pos (nf_t (fun q => h5 ((bI_0 _).mpr q))), if_pos (nf_t (fun q => h18 ((bI_0 _).mpr q))), if_pos (by rw [hbn] at h30; exact n_eq (b := 15) h30 (by omega) (by decide))]⟩
    · skip
      refine g_ldc C dX8_write_21 rfl kc_X8_82 ?_
      exact g_iret C rfl dX8_write_23 ⟨by unfold wrV; rw [if_pos (nf_t (fun q => h5 ((bI_0 _).mpr q))), if_neg (by rw [(bI_0 _).mp h18]; decide)], by unfold wrS; rw [if_pos (nf_t (fun q => h5 ((bI_0 _).mpr q))), if_neg (by rw [(bI_0 _).mp h18]; decide)]⟩
  · skip
    refine g_ldc C dX8_write_8 rfl kc_X8_165 ?_
    exact g_iret C rfl dX8_write_10 ⟨by unfold wrV; rw [if_neg (by rw [(bI_0 _).mp h5]; decide)], by unfold wrS; rw [if_neg (by rw [(bI_0 _).mp h5]; decide)]⟩

def asV (S : Mem) (an : Nat) (x s : Int32) : Int32 := if setB (mI S 25 0) x = true ∧ sayB (mI S 25 0) s = true then (if an = 6 then -1000000004 else nI (an + 1)) else -1000000001
def asS (S : Mem) (an : Nat) (x s b : Int32) : Mem := if setB (mI S 25 0) x = true ∧ sayB (mI S 25 0) s = true then (if an = 6 then S else sI (sA (sA (sA S 36 an x) 37 an s) 38 an b) 25 22 (nI (an + 1))) else S
set_option maxHeartbeats 4000000 in
set_option maxRecDepth 20000 in
theorem ok_X8_ask (x s b : Int32) (h01 : b = 0 ∨ b = 1) (S : Mem) (hR : Rs S) (an : Nat) (han : mI S 25 22 = nI an) (ha : an ≤ 6) : Ok yX8_ask cX8_ask 4 (some .int) 2 0 0 [.ref 25, .int x, .int s, .int b] S (RI (asV S an x s) (asS S an x s b)) := by
  refine Ok.of (by decide) (Nat.le_of_ble_eq_true rfl) rfl (fun κ C hx => ?_)
  have C : Cx RX8 cX8_ask 4 (some .int) 2 false _ κ := C
  refine g_aload_0 C dX8_ask_0 rfl ?_
  refine g_iload_1 C dX8_ask_1 rfl ?_
  refine g_cV1i C dX8_ask_2 rfl ml_X8_198 mz_X8_isSet (ok_X8_isSet _ S) (by decide) rfl rfl rfl rfl (Nat.le_of_ble_eq_true rfl) (fun hn2 => ?_)
  refine g_if_eq (tgt := 16) C dX8_ask_5 rfl (by decide) (fun h5 => ?_) (fun h5 => ?_)
  · skip
    refine g_ldc C dX8_ask_16 rfl kc_X8_165 ?_
    exact g_iret C rfl dX8_ask_18 ⟨by unfold asV; rw [if_neg (fun q => by rw [(bI_0 _).mp h5] at q; exact absurd q.1 (by decide))], by unfold asS; rw [if_neg (fun q => by rw [(bI_0 _).mp h5] at q; exact absurd q.1 (by decide))]⟩
  · skip
    refine g_aload_0 C dX8_ask_8 rfl ?_
    refine g_iload_2 C dX8_ask_9 rfl ?_
    refine g_cV1i C dX8_ask_10 rfl ml_X8_166 mz_X8_isSaying (ok_X8_isSaying _ S) (by decide) rfl rfl rfl rfl (Nat.le_of_ble_eq_true rfl) (fun hn10 => ?_)
    refine g_if_ne (tgt := 19) C dX8_ask_13 rfl (by decide) (fun h13 => ?_) (fun h13 => ?_)
    · skip
      refine g_aload_0 C dX8_ask_19 rfl ?_
      refine g_geti C 22 dX8_ask_20 rfl rfl rfl fl_X8_140 ?_
      refine g_bipush (v := 6) C dX8_ask_23 rfl (by decide) ?_
      refine g_icmp_ne (tgt := 31) C dX8_ask_25 rfl (by decide) (fun h25 => ?_) (fun h25 => ?_)
      · skip
        refine g_aload_0 C dX8_ask_31 rfl ?_
        refine g_getr C 23 dX8_ask_32 rfl rfl rfl fl_X8_45 (hR 25 23 36 rfl) ?_
        have hne : ¬ an = 6 := fun q => h25 (by rw [han, q]; rfl)
        refine g_aload_0 C dX8_ask_35 rfl ?_
        refine g_geti C 22 dX8_ask_36 rfl rfl rfl fl_X8_140 ?_
        rw [han]
        refine g_iload_1 C dX8_ask_39 rfl ?_
        refine g_iast C dX8_ask_40 rfl rfl (n_in (show an < 6 by omega) (by decide)) ?_
        rw [nI_clamp (show an < 2 ^ 31 by omega)]
        refine g_aload_0 C dX8_ask_41 rfl ?_
        refine g_getr C 24 dX8_ask_42 rfl rfl rfl fl_X8_48 (hR 25 24 37 rfl) ?_
        refine g_aload_0 C dX8_ask_45 rfl ?_
        refine g_geti C 22 dX8_ask_46 rfl rfl rfl fl_X8_140 ?_
        rw [show mI (sA S 36 an x) 25 22 = nI an from han]
        refine g_iload_2 C dX8_ask_49 rfl ?_
        refine g_iast C dX8_ask_50 rfl rfl (n_in (show an < 6 by omega) (by decide)) ?_
        rw [nI_clamp (show an < 2 ^ 31 by omega)]
        refine g_aload_0 C dX8_ask_51 rfl ?_
        refine g_getr C 25 dX8_ask_52 rfl rfl rfl fl_X8_51 (hR 25 25 38 rfl) ?_
        refine g_aload_0 C dX8_ask_55 rfl ?_
        refine g_geti C 22 dX8_ask_56 rfl rfl rfl fl_X8_140 ?_
        rw [show mI (sA (sA S 36 an x) 37 an s) 25 22 = nI an from han]
        refine g_iload_3 C dX8_ask_59 rfl ?_
        refine g_zast C dX8_ask_60 rfl rfl (n_in (show an < 6 by omega) (by decide)) h01 ?_
        rw [nI_clamp (show an < 2 ^ 31 by omega)]
        refine g_aload_0 C dX8_ask_61 rfl ?_
        refine g_dup C dX8_ask_62 rfl rfl ?_
        refine g_geti C 22 dX8_ask_63 rfl rfl rfl fl_X8_140 ?_
        rw [show mI (sA (sA (sA S 36 an x) 37 an s) 38 an b) 25 22 = nI an from han]
        refine g_iconst (v := 1) C dX8_ask_66 rfl (by decide) ?_
        refine g_iadd C dX8_ask_67 rfl ?_
        refine g_puti C 22 dX8_ask_68 rfl rfl rfl (Or.inl rfl) fl_X8_140 ?_
        refine g_aload_0 C dX8_ask_71 rfl ?_
        refine g_geti C 22 dX8_ask_72 rfl rfl rfl fl_X8_140 ?_
        exact g_iret C rfl dX8_ask_75 ⟨by unfold asV; rw [if_pos ⟨(nf_t (fun q => h5 ((bI_0 _).mpr q))), (nf_t (fun q => h13 ((bI_0 _).mpr q)))⟩, if_neg hne, ← nI_1]; rfl, by unfold asS; rw [if_pos ⟨(nf_t (fun q => h5 ((bI_0 _).mpr q))), (nf_t (fun q => h13 ((bI_0 _).mpr q)))⟩, if_neg hne, nI_1]⟩
      · skip
        refine g_ldc C dX8_ask_28 rfl kc_X8_86 ?_
        exact g_iret C rfl dX8_ask_30 ⟨by unfold asV; rw [if_pos ⟨(nf_t (fun q => h5 ((bI_0 _).mpr q))), (nf_t (fun q => h13 ((bI_0 _).mpr q)))⟩, if_pos (by rw [han] at h25; exact n_eq (b := 6) h25 (by omega) (by decide))], by unfold asS; rw [if_pos ⟨(nf_t (fun q => h5 ((bI_0 _).mpr q))), (nf_t (fun q => h13 ((bI_0 _).mpr q)))⟩, if_pos (by rw [han] at h25; exact n_eq (b := 6) h25 (by omega) (by decide))]⟩
    · skip
      refine g_ldc C dX8_ask_16 rfl kc_X8_165 ?_
      exact g_iret C rfl dX8_ask_18 ⟨by unfold asV; rw [if_neg (fun q => by rw [(bI_0 _).mp h13] at q; exact absurd q.2 (by decide))], by unfold asS; rw [if_neg (fun q => by rw [(bI_0 _).mp h13] at q; exact absurd q.2 (by decide))]⟩

def reU (un : Nat) : Nat := if un = 20 then 19 else un
def reF (S : Mem) (un : Nat) : Nat → Int32 := if un = 20 then shF (mA S 34) 80 else mA S 34
def reS (S : Mem) (un : Nat) : Mem := sI (sW S 34 (va_cpy (mA S 29) (reF S un) 0 (4 * reU un) 4)) 25 19 (nI (reU un + 1))
set_option maxHeartbeats 4000000 in
set_option maxRecDepth 20000 in
theorem lp_X8_remember1 {κ : Kx} {Φ : Option Value → Mem → Prop} (C : Cx RX8 cX8_remember 2 none 0 false Φ κ) (S : Mem) (hR : Rs S) (K : ∀ v1 : Value, G κ 0 0 (sW S 34 (shF (mA S 34) 80)) 37 [.ref 25, v1] []) : ∀ (n k : Nat), 4 ≤ k → k ≤ 80 → 80 + 1 ≤ k + n → G κ 0 0 (sW S 34 (shF (mA S 34) k)) 11 [.ref 25, .int (nI k)] [] := by
  intro n
  induction n with
  | zero => intro k h0 h1 h2; exact absurd h2 (by omega)
  | succ n ih =>
    intro k hk0 hk1 hk2
    refine g_iload_1 C dX8_remember_11 rfl ?_
    refine g_bipush (v := 80) C dX8_remember_12 rfl (by decide) ?_
    refine g_icmp_ge (tgt := 37) C dX8_remember_14 rfl (by decide) (fun h14 => ?_) (fun h14 => ?_)
    · skip
      have hk : k = 80 := by have := n_ge (b := 80) h14 (by omega) (by omega); omega
      rw [hk]
      exact K _
    · skip
      refine g_aload_0 C dX8_remember_17 rfl ?_
      have hk : k < 80 := n_lt (b := 80) h14 (by omega) (by omega)
      refine g_getr C 20 dX8_remember_18 rfl rfl rfl fl_X8_38 (hR 25 20 34 rfl) ?_
      refine g_iload_1 C dX8_remember_21 rfl ?_
      refine g_iconst (v := 4) C dX8_remember_22 rfl (by decide) ?_
      refine g_isub C dX8_remember_23 rfl ?_
      rw [i_min4 hk0]
      refine g_aload_0 C dX8_remember_24 rfl ?_
      refine g_getr C 20 dX8_remember_25 rfl rfl rfl fl_X8_38 (hR 25 20 34 rfl) ?_
      refine g_iload_1 C dX8_remember_28 rfl ?_
      refine g_iald C dX8_remember_29 rfl rfl (n_in (show k < 80 by omega) (by decide)) ?_
      rw [nI_clamp (show k < 2 ^ 31 by omega), show mA (sW S 34 (shF (mA S 34) k)) 34 k = mA S 34 k from by rw [mA_sW]; exact if_neg (by omega)]
      refine g_iast C dX8_remember_30 rfl rfl (n_in (show k - 4 < 80 by omega) (by decide)) ?_
      rw [nI_clamp (show k - 4 < 2 ^ 31 by omega), sA_sW, mA_sW, sW_sW, shF_s _ hk0]
      refine g_iinc_1 (z := 1) C rfl dX8_remember_31 rfl (by decide) ?_
      refine g_goto (tgt := 11) C dX8_remember_34 (by decide) ?_
      rw [nI_1]
      exact ih (k + 1) (by omega) (by omega) (by omega)

set_option maxHeartbeats 4000000 in
set_option maxRecDepth 20000 in
theorem lp_X8_remember2 {κ : Kx} {Φ : Option Value → Mem → Prop} (C : Cx RX8 cX8_remember 2 none 0 false Φ κ) (S : Mem) (hR : Rs S) (un : Nat) (hun : mI S 25 19 = nI un) (hu : un ≤ 19) (K : ∀ v1 : Value, G κ 0 0 (sW S 34 (va_cpy (mA S 29) (mA S 34) 0 (4 * un) 4)) 79 [.ref 25, v1] []) : ∀ (n k : Nat), k ≤ 4 → 4 + 1 ≤ k + n → G κ 0 0 (sW S 34 (va_cpy (mA S 29) (mA S 34) 0 (4 * un) k)) 49 [.ref 25, .int (nI k)] [] := by
  intro n
  induction n with
  | zero => intro k h1 h2; exact absurd h2 (by omega)
  | succ n ih =>
    intro k hk1 hk2
    refine g_iload_1 C dX8_remember_49 rfl ?_
    refine g_iconst (v := 4) C dX8_remember_50 rfl (by decide) ?_
    refine g_icmp_ge (tgt := 79) C dX8_remember_51 rfl (by decide) (fun h51 => ?_) (fun h51 => ?_)
    · skip
      have hk : k = 4 := by have := n_ge (b := 4) h51 (by omega) (by omega); omega
      rw [hk]
      exact K _
    · skip
      refine g_aload_0 C dX8_remember_54 rfl ?_
      have hk : k < 4 := n_lt (b := 4) h51 (by omega) (by omega)
      refine g_getr C 20 dX8_remember_55 rfl rfl rfl fl_X8_38 (hR 25 20 34 rfl) ?_
      refine g_iconst (v := 4) C dX8_remember_58 rfl (by decide) ?_
      refine g_aload_0 C dX8_remember_59 rfl ?_
      refine g_geti C 19 dX8_remember_60 rfl rfl rfl fl_X8_146 ?_
      rw [show mI (sW S 34 (va_cpy (mA S 29) (mA S 34) 0 (4 * un) k)) 25 19 = nI un from hun]
      refine g_imul C dX8_remember_63 rfl ?_
      refine g_iload_1 C dX8_remember_64 rfl ?_
      refine g_iadd C dX8_remember_65 rfl ?_
      rw [i_4mul]
      refine g_aload_0 C dX8_remember_66 rfl ?_
      refine g_getr C 5 dX8_remember_67 rfl rfl rfl fl_X8_19 (hR 25 5 29 rfl) ?_
      refine g_iload_1 C dX8_remember_70 rfl ?_
      refine g_iald C dX8_remember_71 rfl rfl (n_in (show k < 4 by omega) (by decide)) ?_
      rw [nI_clamp (show k < 2 ^ 31 by omega), mA_sW_ne S _ (show 29 ≠ 34 by decide)]
      refine g_iast C dX8_remember_72 rfl rfl (n_in (show 4 * un + k < 80 by omega) (by decide)) ?_
      rw [nI_clamp (show 4 * un + k < 2 ^ 31 by omega), sA_sW, mA_sW, sW_sW, show mA S 29 k = mA S 29 (0 + k) from by rw [Nat.zero_add], cpy_s]
      refine g_iinc_1 (z := 1) C rfl dX8_remember_73 rfl (by decide) ?_
      refine g_goto (tgt := 49) C dX8_remember_76 (by decide) ?_
      rw [nI_1]
      exact ih (k + 1) (by omega) (by omega)

set_option maxHeartbeats 4000000 in
set_option maxRecDepth 20000 in
theorem ok_X8_remember (S : Mem) (hR : Rs S) (un : Nat) (hun : mI S 25 19 = nI un) (hu : un ≤ 20) : Ok yX8_remember cX8_remember 2 none 0 0 0 [.ref 25] S (RV (reS S un)) := by
  refine Ok.of (by decide) (Nat.le_of_ble_eq_true rfl) rfl (fun κ C hx => ?_)
  have C : Cx RX8 cX8_remember 2 none 0 false _ κ := C
  refine g_aload_0 C dX8_remember_0 rfl ?_
  refine g_geti C 19 dX8_remember_1 rfl rfl rfl fl_X8_146 ?_
  refine g_bipush (v := 20) C dX8_remember_4 rfl (by decide) ?_
  refine g_icmp_ne (tgt := 47) C dX8_remember_6 rfl (by decide) (fun h6 => ?_) (fun h6 => ?_)
  · skip
    refine g_iconst (v := 0) C dX8_remember_47 rfl (by decide) ?_
    refine g_istore_1 C rfl dX8_remember_48 rfl ?_
    have hne : ¬ un = 20 := fun q => h6 (by rw [hun, q]; rfl)
    have h0 := lp_X8_remember2 C S hR un hun (by omega) (fun v1 => ?_) 5 0 (by omega) (by omega)
    · rw [cpy_0, sW_self] at h0
      exact h0
    · refine g_aload_0 C dX8_remember_79 rfl ?_
      refine g_dup C dX8_remember_80 rfl rfl ?_
      refine g_geti C 19 dX8_remember_81 rfl rfl rfl fl_X8_146 ?_
      rw [show mI (sW S 34 (va_cpy (mA S 29) (mA S 34) 0 (4 * un) 4)) 25 19 = nI un from hun]
      refine g_iconst (v := 1) C dX8_remember_84 rfl (by decide) ?_
      refine g_iadd C dX8_remember_85 rfl ?_
      rw [nI_1]
      refine g_puti C 19 dX8_remember_86 rfl rfl rfl (Or.inl rfl) fl_X8_146 ?_
      exact g_vret C rfl dX8_remember_89 ⟨rfl, by unfold reS reF reU; rw [if_neg hne, if_neg hne]⟩
  · skip
    refine g_iconst (v := 4) C dX8_remember_9 rfl (by decide) ?_
    refine g_istore_1 C rfl dX8_remember_10 rfl ?_
    have hq : un = 20 := by rw [hun] at h6; exact n_eq (b := 20) h6 (by omega) (by decide)
    have e0 : shF (mA S 34) 4 = mA S 34 := by funext j; exact if_neg (by omega)
    have h0 := lp_X8_remember1 C S hR (fun v1 => ?_) 77 4 (by omega) (by omega) (by omega)
    · rw [e0, sW_self] at h0
      exact h0
    · refine g_aload_0 C dX8_remember_37 rfl ?_
      refine g_dup C dX8_remember_38 rfl rfl ?_
      refine g_geti C 19 dX8_remember_39 rfl rfl rfl fl_X8_146 ?_
      rw [show mI (sW S 34 (shF (mA S 34) 80)) 25 19 = nI 20 from by rw [← hq]; exact hun]
      refine g_iconst (v := 1) C dX8_remember_42 rfl (by decide) ?_
      refine g_isub C dX8_remember_43 rfl ?_
      rw [i_min1 (by omega)]
      refine g_puti C 19 dX8_remember_44 rfl rfl rfl (Or.inl rfl) fl_X8_146 ?_
      refine g_iconst (v := 0) C dX8_remember_47 rfl (by decide) ?_
      refine g_istore_1 C rfl dX8_remember_48 rfl ?_
      have h0 := lp_X8_remember2 C (sI (sW S 34 (shF (mA S 34) 80)) 25 19 (nI (20 - 1))) hR 19 rfl (by omega) (fun v1 => ?_) 5 0 (by omega) (by omega)
      · rw [cpy_0, sW_self] at h0
        exact h0
      · refine g_aload_0 C dX8_remember_79 rfl ?_
        refine g_dup C dX8_remember_80 rfl rfl ?_
        refine g_geti C 19 dX8_remember_81 rfl rfl rfl fl_X8_146 ?_
        refine g_iconst (v := 1) C dX8_remember_84 rfl (by decide) ?_
        refine g_iadd C dX8_remember_85 rfl ?_
        refine g_puti C 19 dX8_remember_86 rfl rfl rfl (Or.inl rfl) fl_X8_146 ?_
        refine g_vret C rfl dX8_remember_89 ⟨rfl, ?_⟩
        unfold reS reF reU
        rw [if_pos hq, if_pos hq, sI_sW, sI_sI, sW_sW]
        rfl

