/-! a memory that has more places than another, and the same rows below -/
def Ext (S T : Mem) : Prop := mN S ≤ mN T ∧ ∀ p, p < mN S → mK T p = mK S p ∧ mI T p = mI S p ∧ mR T p = mR S p ∧ mA T p = mA S p ∧ mL T p = mL S p ∧ mQ T p = mQ S p
theorem u1_ne {α : Type} (f : Nat → α) {p a : Nat} (v : α) (h : a ≠ p) : u1 f p v a = f a := if_neg h
theorem u2_ne {α : Type} (f : Nat → Nat → α) {p a : Nat} (j : Nat) (v : α) (h : a ≠ p) : u2 f p j v a = f a := by
  funext b
  exact if_neg h
theorem u2_at {α : Type} (f : Nat → Nat → α) (p j : Nat) (v : α) : u2 f p j v p j = v := by
  unfold u2
  rw [if_pos rfl, if_pos rfl]
theorem u2_nj {α : Type} (f : Nat → Nat → α) (p : Nat) {j b : Nat} (v : α) (h : b ≠ j) : u2 f p j v p b = f p b := by
  unfold u2
  rw [if_pos rfl, if_neg h]
theorem Ext.refl (S : Mem) : Ext S S := ⟨Nat.le_refl _, fun _ _ => ⟨rfl, rfl, rfl, rfl, rfl, rfl⟩⟩
theorem Ext.new (S : Mem) (k : Nat) : Ext S (sN S k) := ⟨Nat.le_succ _, fun p hp => ⟨u1_ne _ _ (by omega), u1_ne _ _ (by omega), u1_ne _ _ (by omega), u1_ne _ _ (by omega), u1_ne _ _ (by omega), u1_ne _ _ (by omega)⟩⟩
theorem Ext.i {S T : Mem} (h : Ext S T) {z : Nat} (hz : mN S ≤ z) (j : Nat) (v : Int32) : Ext S (sI T z j v) := ⟨h.1, fun p hp => ⟨(h.2 p hp).1, (u2_ne _ _ _ (by omega)).trans (h.2 p hp).2.1, (h.2 p hp).2.2⟩⟩
theorem Ext.r {S T : Mem} (h : Ext S T) {z : Nat} (hz : mN S ≤ z) (j : Nat) (v : Option Nat) : Ext S (sR T z j v) := ⟨h.1, fun p hp => ⟨(h.2 p hp).1, (h.2 p hp).2.1, (u2_ne _ _ _ (by omega)).trans (h.2 p hp).2.2.1, (h.2 p hp).2.2.2⟩⟩
theorem R0_lt {p j r : Nat} (h : R0 p j = some r) : p < 44 := by
  rcases Nat.lt_or_ge p 44 with h2 | h2
  · exact h2
  · obtain ⟨n, e⟩ := Nat.exists_eq_add_of_le h2
    rw [e, Nat.add_comm] at h
    exact absurd (show (none : Option Nat) = some r from h) (by simp)
theorem Rs.ext {S T : Mem} (h : Rs S) (h44 : 44 ≤ mN S) (hE : Ext S T) : Rs T := fun p j r e => by
  rw [(hE.2 p (by have := R0_lt e; omega)).2.2.1]
  exact h p j r e
theorem TwK.ext {S T : Mem} {t : Nat} (h : TwK S t) (ht : t + 3 < mN S) (hE : Ext S T) : TwK T t := by
  unfold TwK
  rw [(hE.2 t (by omega)).1, (hE.2 t (by omega)).2.2.1, (hE.2 (t + 1) (by omega)).1, (hE.2 (t + 2) (by omega)).1, (hE.2 (t + 3) (by omega)).1]
  exact h
/-- how the town and the moment of the first side lie -/
def CW (S : Mem) (t nw th nr : Nat) : Prop := (Rs S ∧ 44 ≤ mN S ∧ t + 3 < 44 ∧ nw < mN S) ∧ (mR S 0 8 = some t ∧ mR S 0 10 = some nw) ∧ TwK S t ∧ mK S nw = 2 ∧ (mI S t 3 = nI th ∧ th ≤ 8) ∧ (mI S t 4 = nI nr ∧ Tn nr (mA S (t + 2)) ∧ Cs nr (mA S (t + 1)))
theorem CW.ext {S T : Mem} {t nw th nr : Nat} (h : CW S t nw th nr) (hE : Ext S T) : CW T t nw th nr := by
  obtain ⟨⟨h1, h2, h3, h4⟩, ⟨h5, h6⟩, h7, h8, ⟨h9, h10⟩, h11, h12, h13⟩ := h
  have e0 := hE.2 0 (by omega)
  have e1 := hE.2 t (by omega)
  have e2 := hE.2 (t + 2) (by omega)
  have e3 := hE.2 (t + 1) (by omega)
  have e4 := hE.2 nw h4
  refine ⟨⟨h1.ext h2 hE, by have := hE.1; omega, h3, by have := hE.1; omega⟩, ⟨by rw [e0.2.2.1]; exact h5, by rw [e0.2.2.1]; exact h6⟩, h7.ext (by omega) hE, by rw [e4.1]; exact h8, ⟨by rw [e1.2.1]; exact h9, h10⟩, by rw [e1.2.1]; exact h11, by rw [e2.2.2.2.1]; exact h12, by rw [e3.2.2.2.1]; exact h13⟩
set_option maxHeartbeats 4000000 in
set_option maxRecDepth 20000 in
theorem ok_X7_rulesGoneBy (S : Mem) (t nw th nr : Nat) (hC : CW S t nw th nr) : Ok yX7_rulesGoneBy cX7_rulesGoneBy 1 (some .int) 1 0 0 [.ref 0] S (RI (alw (nI nr) (mI S nw 2)) S) := by
  refine Ok.of (by decide) (Nat.le_of_ble_eq_true rfl) rfl (fun κ C hx => ?_)
  have C : Cx RX7 cX7_rulesGoneBy 1 (some .int) 1 false _ κ := C
  refine g_aload_0 C dX7_rulesGoneBy_0 rfl ?_
  refine g_getr C 8 dX7_rulesGoneBy_1 rfl rfl rfl fl_X7_57 hC.2.1.1 ?_
  refine g_cD0i C dX7_rulesGoneBy_4 rfl ml_X7_247 mz_X4_allRules (ok_X4_allRules t S hC.2.2.1) (by decide) rfl rfl hC.2.2.1.1 (by decide) rfl (Nat.le_of_ble_eq_true rfl) (fun hn4 => ?_)
  rw [hC.2.2.2.2.2.1]
  refine g_aload_0 C dX7_rulesGoneBy_7 rfl ?_
  refine g_getr C 10 dX7_rulesGoneBy_8 rfl rfl rfl fl_X7_67 hC.2.1.2 ?_
  refine g_getiD C 2 dX7_rulesGoneBy_11 rfl hC.2.2.2.1 (by decide) (by decide) rfl fl_X7_121 ?_
  refine g_iconst (v := -1) C dX7_rulesGoneBy_14 rfl (by decide) ?_
  refine g_ixor C dX7_rulesGoneBy_15 rfl ?_
  refine g_iand C dX7_rulesGoneBy_16 rfl ?_
  exact g_iret C rfl dX7_rulesGoneBy_17 ⟨rfl, rfl⟩

def trS (S : Mem) (t : Nat) (se al : Int32) : Mem := sI (sI (sR (sN S 6) (mN S) 0 (some t)) (mN S) 1 se) (mN S) 2 al
theorem trS_ext (S : Mem) (t : Nat) (se al : Int32) : Ext S (trS S t se al) := (((Ext.new S 6).r (Nat.le_refl _) 0 _).i (Nat.le_refl _) 1 _).i (Nat.le_refl _) 2 _
theorem trS_K (S : Mem) (t : Nat) (se al : Int32) : mK (trS S t se al) (mN S) = 6 := mK_sN
theorem trS_R (S : Mem) (t : Nat) (se al : Int32) : mR (trS S t se al) (mN S) 0 = some t := u2_at _ _ _ _
theorem trS_1 (S : Mem) (t : Nat) (se al : Int32) : mI (trS S t se al) (mN S) 1 = se := (u2_nj _ _ _ (by decide)).trans (u2_at _ _ _ _)
theorem trS_2 (S : Mem) (t : Nat) (se al : Int32) : mI (trS S t se al) (mN S) 2 = al := u2_at _ _ _ _
set_option maxHeartbeats 4000000 in
set_option maxRecDepth 20000 in
theorem ok_X7_trialNow (S : Mem) (t nw th nr : Nat) (hC : CW S t nw th nr) : Ok yX7_trialNow cX7_trialNow 1 (some (.object "BarrelMoon$Trial")) 2 1 3 [.ref 0] S (RR (some (mN S)) (trS S t (mI S nw 0) (alw (nI nr) (mI S nw 2)))) := by
  refine Ok.of (by decide) (Nat.le_of_ble_eq_true rfl) rfl (fun κ C hx => ?_)
  have C : Cx RX7 cX7_trialNow 1 (some (.object "BarrelMoon$Trial")) 2 false _ κ := C
  refine g_new (rc := 0) (rs := 0) C 6 dX7_trialNow_0 rfl (by decide) cl_X7_132 ic_X6 in_X6 (fun h => absurd h (by have := hC.1.2.1; omega)) ?_
  refine g_dup C dX7_trialNow_3 rfl rfl ?_
  refine g_aload_0 C dX7_trialNow_4 rfl ?_
  refine g_getr C 8 dX7_trialNow_5 rfl rfl rfl fl_X7_57 (hC.ext (Ext.new S 6)).2.1.1 ?_
  refine g_aload_0 C dX7_trialNow_8 rfl ?_
  refine g_getr C 10 dX7_trialNow_9 rfl rfl rfl fl_X7_67 (hC.ext (Ext.new S 6)).2.1.2 ?_
  refine g_getiD C 0 dX7_trialNow_12 rfl (hC.ext (Ext.new S 6)).2.2.2.1 (by decide) (by decide) rfl fl_X7_115 ?_
  rw [show mI (sN S 6) nw = mI S nw from ((Ext.new S 6).2 nw hC.1.2.2.2).2.1]
  refine g_aload_0 C dX7_trialNow_15 rfl ?_
  refine g_cV0i C dX7_trialNow_16 rfl ml_X7_178 mz_X7_rulesGoneBy (ok_X7_rulesGoneBy (sN S 6) t nw th nr (hC.ext (Ext.new S 6))) (by decide) rfl rfl rfl rfl (Nat.le_of_ble_eq_true rfl) (fun hn16 => ?_)
  rw [show mI (sN S 6) nw = mI S nw from ((Ext.new S 6).2 nw hC.1.2.2.2).2.1]
  refine g_cI3 C dX7_trialNow_19 rfl ml_X7_279 mz_X6_init (ok_X6_init (mN S) t _ _ (sN S 6) mK_sN) (by decide) rfl rfl (Nat.le_of_ble_eq_true rfl) (fun hn19 => ?_)
  exact g_aret (x := some (mN S)) C rfl dX7_trialNow_22 ⟨rfl, rfl⟩

def chS (S : Mem) (un nw x : Nat) : Mem := sR (hiS S un nw) 0 10 (some x)
set_option maxHeartbeats 4000000 in
set_option maxRecDepth 20000 in
theorem ok_X7_change (x : Nat) (S : Mem) (t nw th nr : Nat) (hC : CW S t nw th nr) (hQ : QM S) (un : Nat) (hun : mI S 3 1 = nI un) (hu : un ≤ 20) : Ok yX7_change cX7_change 2 none 2 0 0 [.ref 0, .ref x] S (RV (chS S un nw x)) := by
  have hR := hC.1.1
  refine Ok.of (by decide) (Nat.le_of_ble_eq_true rfl) rfl (fun κ C hx => ?_)
  have C : Cx RX7 cX7_change 2 none 2 false _ κ := C
  refine g_aload_0 C dX7_change_0 rfl ?_
  refine g_getr C 1 dX7_change_1 rfl rfl rfl fl_X7_19 (hR 0 1 3 rfl) ?_
  refine g_aload_0 C dX7_change_4 rfl ?_
  refine g_getr C 10 dX7_change_5 rfl rfl rfl fl_X7_67 hC.2.1.2 ?_
  refine g_cV1v C dX7_change_8 rfl ml_X7_198 mz_X1_add (ok_X1_add nw S hC.2.2.2.1 hR hQ un hun hu) (by decide) rfl rfl rfl rfl (Nat.le_of_ble_eq_true rfl) (fun hn8 => ?_)
  refine g_aload_0 C dX7_change_11 rfl ?_
  refine g_aload_1 C dX7_change_12 rfl ?_
  refine g_putr C 10 dX7_change_13 rfl rfl rfl (Or.inl rfl) fl_X7_67 ?_
  exact g_vret C rfl dX7_change_16 ⟨rfl, rfl⟩

def feV (tn : Nat) (c : Int32) : Int32 := if 0 ≤ c ∧ c ≤ 255 then (if tn < 240 then nI (tn + 1) else -1000000004) else -1000000002
def apS (S : Mem) (tn : Nat) (c : Int32) : Mem := if tn < 240 then sI (sA S 2 tn c) 1 1 (nI (tn + 1)) else S
set_option maxHeartbeats 4000000 in
set_option maxRecDepth 20000 in
theorem ok_X5_append (c : Int32) (S : Mem) (hR : Rs S) (tn : Nat) (htn : mI S 1 1 = nI tn) (ht : tn ≤ 240) : Ok yX5_append cX5_append 2 (some .boolean) 0 0 0 [.ref 1, .int c] S (RI (bI (decide (tn < 240))) (apS S tn c)) := by
  refine Ok.of (by decide) (Nat.le_of_ble_eq_true rfl) rfl (fun κ C hx => ?_)
  have C : Cx RX5 cX5_append 2 (some .boolean) 0 false _ κ := C
  refine g_aload_0 C dX5_append_0 rfl ?_
  refine g_geti C 1 dX5_append_1 rfl rfl rfl fl_X5_15 ?_
  refine g_sipush (v := 240) C dX5_append_4 rfl (by decide) ?_
  refine g_icmp_lt (tgt := 12) C dX5_append_7 rfl (by decide) (fun h7 => ?_) (fun h7 => ?_)
  · skip
    refine g_aload_0 C dX5_append_12 rfl ?_
    refine g_getr C 0 dX5_append_13 rfl rfl rfl fl_X5_9 (hR 1 0 2 rfl) ?_
    have hlt : tn < 240 := by rw [htn] at h7; exact n_lt' (b := 240) h7 (by omega) (by decide)
    refine g_aload_0 C dX5_append_16 rfl ?_
    refine g_geti C 1 dX5_append_17 rfl rfl rfl fl_X5_15 ?_
    rw [htn]
    refine g_iload_1 C dX5_append_20 rfl ?_
    refine g_iast C dX5_append_21 rfl rfl (n_in (show tn < 240 by omega) (by decide)) ?_
    rw [nI_clamp (show tn < 2 ^ 31 by omega)]
    refine g_aload_0 C dX5_append_22 rfl ?_
    refine g_dup C dX5_append_23 rfl rfl ?_
    refine g_geti C 1 dX5_append_24 rfl rfl rfl fl_X5_15 ?_
    rw [show mI (sA S 2 tn c) 1 1 = nI tn from htn]
    refine g_iconst (v := 1) C dX5_append_27 rfl (by decide) ?_
    refine g_iadd C dX5_append_28 rfl ?_
    refine g_puti C 1 dX5_append_29 rfl rfl rfl (Or.inl rfl) fl_X5_15 ?_
    refine g_iconst (v := 1) C dX5_append_32 rfl (by decide) ?_
    exact g_zret C rfl dX5_append_33 (by first | exact Or.inl rfl | exact Or.inr rfl | exact bI_01 _) ⟨by rw [decide_eq_true hlt]; rfl, by unfold apS; rw [if_pos hlt, ← nI_1]⟩
  · skip
    refine g_iconst (v := 0) C dX5_append_10 rfl (by decide) ?_
    exact g_zret C rfl dX5_append_11 (by first | exact Or.inl rfl | exact Or.inr rfl | exact bI_01 _) ⟨by rw [decide_eq_false (fun z => h7 (by rw [htn]; exact nI_lt (b := 240) z (by decide)))]; rfl, by unfold apS; rw [if_neg (fun z => h7 (by rw [htn]; exact nI_lt (b := 240) z (by decide)))]⟩

set_option maxHeartbeats 4000000 in
set_option maxRecDepth 20000 in
theorem ok_X5_length (S : Mem) : Ok yX5_length cX5_length 1 (some .int) 0 0 0 [.ref 1] S (RI (mI S 1 1) S) := by
  refine Ok.of (by decide) (Nat.le_of_ble_eq_true rfl) rfl (fun κ C hx => ?_)
  have C : Cx RX5 cX5_length 1 (some .int) 0 false _ κ := C
  refine g_aload_0 C dX5_length_0 rfl ?_
  refine g_geti C 1 dX5_length_1 rfl rfl rfl fl_X5_15 ?_
  exact g_iret C rfl dX5_length_4 ⟨rfl, rfl⟩

set_option maxHeartbeats 4000000 in
set_option maxRecDepth 20000 in
theorem ok_X5_faultKind (S : Mem) : Ok yX5_faultKind cX5_faultKind 1 (some .int) 0 0 0 [.ref 1] S (RI (mI S 1 4) S) := by
  refine Ok.of (by decide) (Nat.le_of_ble_eq_true rfl) rfl (fun κ C hx => ?_)
  have C : Cx RX5 cX5_faultKind 1 (some .int) 0 false _ κ := C
  refine g_aload_0 C dX5_faultKind_0 rfl ?_
  refine g_geti C 4 dX5_faultKind_1 rfl rfl rfl fl_X5_25 ?_
  exact g_iret C rfl dX5_faultKind_4 ⟨rfl, rfl⟩

set_option maxHeartbeats 4000000 in
set_option maxRecDepth 20000 in
theorem ok_X5_faultAt (S : Mem) : Ok yX5_faultAt cX5_faultAt 1 (some .int) 0 0 0 [.ref 1] S (RI (mI S 1 5) S) := by
  refine Ok.of (by decide) (Nat.le_of_ble_eq_true rfl) rfl (fun κ C hx => ?_)
  have C : Cx RX5 cX5_faultAt 1 (some .int) 0 false _ κ := C
  refine g_aload_0 C dX5_faultAt_0 rfl ?_
  refine g_geti C 5 dX5_faultAt_1 rfl rfl rfl fl_X5_28 ?_
  exact g_iret C rfl dX5_faultAt_4 ⟨rfl, rfl⟩

set_option maxHeartbeats 4000000 in
set_option maxRecDepth 20000 in
theorem ok_X5_forgetText (S : Mem) : Ok yX5_forgetText cX5_forgetText 1 none 0 0 0 [.ref 1] S (RV (sI S 1 1 0)) := by
  refine Ok.of (by decide) (Nat.le_of_ble_eq_true rfl) rfl (fun κ C hx => ?_)
  have C : Cx RX5 cX5_forgetText 1 none 0 false _ κ := C
  refine g_aload_0 C dX5_forgetText_0 rfl ?_
  refine g_iconst (v := 0) C dX5_forgetText_1 rfl (by decide) ?_
  refine g_puti C 1 dX5_forgetText_2 rfl rfl rfl (Or.inl rfl) fl_X5_15 ?_
  exact g_vret C rfl dX5_forgetText_5 ⟨rfl, rfl⟩

set_option maxHeartbeats 4000000 in
set_option maxRecDepth 20000 in
theorem ok_X7_fault (S : Mem) (hR : Rs S) : Ok yX7_fault cX7_fault 1 (some .int) 1 0 0 [.ref 0] S (RI (mI S 1 5) S) := by
  refine Ok.of (by decide) (Nat.le_of_ble_eq_true rfl) rfl (fun κ C hx => ?_)
  have C : Cx RX7 cX7_fault 1 (some .int) 1 false _ κ := C
  refine g_aload_0 C dX7_fault_0 rfl ?_
  refine g_getr C 0 dX7_fault_1 rfl rfl rfl fl_X7_12 (hR 0 0 1 rfl) ?_
  refine g_cV0i C dX7_fault_4 rfl ml_X7_109 mz_X5_faultAt (ok_X5_faultAt S) (by decide) rfl rfl rfl rfl (Nat.le_of_ble_eq_true rfl) (fun hn4 => ?_)
  exact g_iret C rfl dX7_fault_7 ⟨rfl, rfl⟩

