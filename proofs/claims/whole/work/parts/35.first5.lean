def un7V (un : Nat) : Int32 := if un = 0 then -1000000003 else nI (un - 1)
def un7S (S : Mem) (un z : Nat) : Mem := if un = 0 then S else sR (sI S 3 1 (nI (un - 1))) 0 10 (some z)
theorem tk_some {S : Mem} {un z x : Nat} (hz : un ≠ 0 → mQ S 4 (un - 1) = some z) (h : tkV S un = some x) : un ≠ 0 ∧ x = z := by
  by_cases h0 : un = 0
  · unfold tkV at h
    rw [if_pos h0] at h
    cases h
  · unfold tkV at h
    rw [if_neg h0, hz h0] at h
    cases h
    exact ⟨h0, rfl⟩
theorem tk_none {S : Mem} {un z : Nat} (hz : un ≠ 0 → mQ S 4 (un - 1) = some z) (h : tkV S un = none) : un = 0 := by
  by_cases h0 : un = 0
  · exact h0
  · unfold tkV at h
    rw [if_neg h0, hz h0] at h
    cases h
theorem tk_s {S : Mem} {un : Nat} (h : un ≠ 0) : tkS S un = sI S 3 1 (nI (un - 1)) := if_neg h
set_option maxHeartbeats 4000000 in
set_option maxRecDepth 20000 in
theorem ok_X7_undo (S : Mem) (hR : Rs S) (un z : Nat) (hun : mI S 3 1 = nI un) (hu : un ≤ 20) (hz : un ≠ 0 → mQ S 4 (un - 1) = some z) : Ok yX7_undo cX7_undo 2 (some .int) 1 0 0 [.ref 0] S (RI (un7V un) (un7S S un z)) := by
  refine Ok.of (by decide) (Nat.le_of_ble_eq_true rfl) rfl (fun κ C hx => ?_)
  have C : Cx RX7 cX7_undo 2 (some .int) 1 false _ κ := C
  refine g_aload_0 C dX7_undo_0 rfl ?_
  refine g_getr C 1 dX7_undo_1 rfl rfl rfl fl_X7_19 (hR 0 1 3 rfl) ?_
  refine g_cV0r C dX7_undo_4 rfl ml_X7_194 mz_X1_takeLatest (ok_X1_takeLatest S hR un hun hu) (by decide) rfl rfl rfl rfl (Nat.le_of_ble_eq_true rfl) (fun hn4 => ?_)
  refine g_astoreQ_1 C rfl dX7_undo_7 rfl ?_
  refine g_aloadQ_1 C dX7_undo_8 rfl ?_
  refine g_nonnull (tgt := 15) C dX7_undo_9 rfl (by decide) (fun x9 h9 => ?_) (fun h9 => ?_)
  · skip
    have h0 := (tk_some hz h9).1
    rw [h9, (tk_some hz h9).2, tk_s h0]
    refine g_aload_0 C dX7_undo_15 rfl ?_
    refine g_aload_1 C dX7_undo_16 rfl ?_
    refine g_putr C 10 dX7_undo_17 rfl rfl rfl (Or.inl rfl) fl_X7_67 ?_
    refine g_aload_0 C dX7_undo_20 rfl ?_
    refine g_getr C 1 dX7_undo_21 rfl rfl rfl fl_X7_19 (hR 0 1 3 rfl) ?_
    refine g_cV0i C dX7_undo_24 rfl ml_X7_144 mz_X1_size (ok_X1_size _) (by decide) rfl rfl rfl rfl (Nat.le_of_ble_eq_true rfl) (fun hn24 => ?_)
    exact g_iret C rfl dX7_undo_27 ⟨by unfold un7V; rw [if_neg h0]; rfl, by unfold un7S; rw [if_neg h0]⟩
  · skip
    refine g_ldc C dX7_undo_12 rfl kc_X7_177 ?_
    exact g_iret C rfl dX7_undo_14 ⟨by unfold un7V; rw [if_pos (tk_none hz h9)], by unfold un7S tkS; rw [if_pos (tk_none hz h9), if_pos (tk_none hz h9)]⟩

theorem lt2_le {i : Int32} (h : i < 2) : i ≤ 1 := by
  rw [Int32.lt_iff_toInt_lt] at h
  rw [Int32.le_iff_toInt_le]
  have e1 : (2 : Int32).toInt = 2 := rfl
  have e2 : (1 : Int32).toInt = 1 := rfl
  omega
def im2 (i : Int32) : Bool := decide (0 ≤ i ∧ i < 2)
def kp7 (S : Mem) (j nw : Nat) : Mem := sI (sA (sQ S 12 j (some nw)) 13 j (mI S 0 11)) 3 1 0
def kp7V (i : Int32) : Int32 := if im2 i = true then 1 else -1000000001
def kp7S (S : Mem) (nw : Nat) (i : Int32) : Mem := if im2 i = true then kp7 S i.toNatClampNeg nw else S
def gb7 (S : Mem) (j z : Nat) : Mem := sI (sI (sR S 0 10 (some z)) 0 11 (mA S 13 j)) 3 1 0
def gb7V (S : Mem) (i : Int32) : Int32 := if im2 i = true then (match mQ S 12 i.toNatClampNeg with | none => -1000000003 | some _ => 1) else -1000000001
def gb7S (S : Mem) (i : Int32) : Mem := if im2 i = true then (match mQ S 12 i.toNatClampNeg with | none => S | some z => gb7 S i.toNatClampNeg z) else S
set_option maxHeartbeats 4000000 in
set_option maxRecDepth 20000 in
theorem ok_X7_keep (i : Int32) (S : Mem) (t nw th nr : Nat) (hC : CW S t nw th nr) : Ok yX7_keep cX7_keep 2 (some .int) 1 0 0 [.ref 0, .int i] S (RI (kp7V i) (kp7S S nw i)) := by
  have hR := hC.1.1
  refine Ok.of (by decide) (Nat.le_of_ble_eq_true rfl) rfl (fun κ C hx => ?_)
  have C : Cx RX7 cX7_keep 2 (some .int) 1 false _ κ := C
  refine g_iload_1 C dX7_keep_0 rfl ?_
  refine g_if_lt (tgt := 9) C dX7_keep_1 rfl (by decide) (fun h1 => ?_) (fun h1 => ?_)
  · skip
    refine g_ldc C dX7_keep_9 rfl kc_X7_148 ?_
    exact g_iret C rfl dX7_keep_11 ⟨by unfold kp7V; rw [if_neg (by rw [show im2 i = false from decide_eq_false (fun z => i_not_lt z.1 h1)]; decide)], by unfold kp7S; rw [if_neg (by rw [show im2 i = false from decide_eq_false (fun z => i_not_lt z.1 h1)]; decide)]⟩
  · skip
    refine g_iload_1 C dX7_keep_4 rfl ?_
    refine g_iconst (v := 2) C dX7_keep_5 rfl (by decide) ?_
    refine g_icmp_lt (tgt := 12) C dX7_keep_6 rfl (by decide) (fun h6 => ?_) (fun h6 => ?_)
    · skip
      have hi : im2 i = true := decide_eq_true ⟨lt0_n h1, h6⟩
      obtain ⟨j, hj, e⟩ := nI_of2 (M := 1) (n := 1) rfl h1 (lt2_le h6)
      have eS : kp7S S nw i = kp7 S j nw := by unfold kp7S; rw [if_pos hi, e, nI_clamp (by omega)]
      have eV : kp7V i = 1 := if_pos hi
      rw [eS, eV] at C
      rw [e]
      refine g_aload_0 C dX7_keep_12 rfl ?_
      refine g_getr C 4 dX7_keep_13 rfl rfl rfl fl_X7_39 (hR 0 4 12 rfl) ?_
      refine g_iload_1 C dX7_keep_16 rfl ?_
      refine g_aload_0 C dX7_keep_17 rfl ?_
      refine g_getr C 10 dX7_keep_18 rfl rfl rfl fl_X7_67 hC.2.1.2 ?_
      refine g_aast (y := some nw) C dX7_keep_21 rfl rfl (n_in (show j < 2 by omega) (by decide)) (fun z e => by cases e; exact hC.2.2.2.1) ?_
      rw [nI_clamp (show j < 2 ^ 31 by omega)]
      refine g_aload_0 C dX7_keep_22 rfl ?_
      refine g_getr C 5 dX7_keep_23 rfl rfl rfl fl_X7_43 (hR 0 5 13 rfl) ?_
      refine g_iload_1 C dX7_keep_26 rfl ?_
      refine g_aload_0 C dX7_keep_27 rfl ?_
      refine g_geti C 11 dX7_keep_28 rfl rfl rfl fl_X7_71 ?_
      refine g_iast C dX7_keep_31 rfl rfl (n_in (show j < 2 by omega) (by decide)) ?_
      rw [nI_clamp (show j < 2 ^ 31 by omega)]
      refine g_aload_0 C dX7_keep_32 rfl ?_
      refine g_getr C 1 dX7_keep_33 rfl rfl rfl fl_X7_19 (hR 0 1 3 rfl) ?_
      refine g_cV0v C dX7_keep_36 rfl ml_X7_104 mz_X1_clear (ok_X1_clear _) (by decide) rfl rfl rfl rfl (Nat.le_of_ble_eq_true rfl) (fun hn36 => ?_)
      refine g_iconst (v := 1) C dX7_keep_39 rfl (by decide) ?_
      exact g_iret C rfl dX7_keep_40 ⟨rfl, rfl⟩
    · skip
      refine g_ldc C dX7_keep_9 rfl kc_X7_148 ?_
      exact g_iret C rfl dX7_keep_11 ⟨by unfold kp7V; rw [if_neg (by rw [show im2 i = false from decide_eq_false (fun z => h6 z.2)]; decide)], by unfold kp7S; rw [if_neg (by rw [show im2 i = false from decide_eq_false (fun z => h6 z.2)]; decide)]⟩

set_option maxHeartbeats 4000000 in
set_option maxRecDepth 20000 in
theorem ok_X7_goBack (i : Int32) (S : Mem) (hR : Rs S) : Ok yX7_goBack cX7_goBack 3 (some .int) 1 0 0 [.ref 0, .int i] S (RI (gb7V S i) (gb7S S i)) := by
  refine Ok.of (by decide) (Nat.le_of_ble_eq_true rfl) rfl (fun κ C hx => ?_)
  have C : Cx RX7 cX7_goBack 3 (some .int) 1 false _ κ := C
  refine g_iload_1 C dX7_goBack_0 rfl ?_
  refine g_if_lt (tgt := 9) C dX7_goBack_1 rfl (by decide) (fun h1 => ?_) (fun h1 => ?_)
  · skip
    refine g_ldc C dX7_goBack_9 rfl kc_X7_148 ?_
    exact g_iret C rfl dX7_goBack_11 ⟨by unfold gb7V; rw [if_neg (by rw [show im2 i = false from decide_eq_false (fun z => i_not_lt z.1 h1)]; decide)], by unfold gb7S; rw [if_neg (by rw [show im2 i = false from decide_eq_false (fun z => i_not_lt z.1 h1)]; decide)]⟩
  · skip
    refine g_iload_1 C dX7_goBack_4 rfl ?_
    refine g_iconst (v := 2) C dX7_goBack_5 rfl (by decide) ?_
    refine g_icmp_lt (tgt := 12) C dX7_goBack_6 rfl (by decide) (fun h6 => ?_) (fun h6 => ?_)
    · skip
      have hi : im2 i = true := decide_eq_true ⟨lt0_n h1, h6⟩
      obtain ⟨j, hj, e⟩ := nI_of2 (M := 1) (n := 1) rfl h1 (lt2_le h6)
      rw [e] at hi
      rw [e] at C
      rw [e]
      have eI : (nI j).toNatClampNeg = j := nI_clamp (by omega)
      refine g_aload_0 C dX7_goBack_12 rfl ?_
      refine g_getr C 4 dX7_goBack_13 rfl rfl rfl fl_X7_39 (hR 0 4 12 rfl) ?_
      refine g_iload_1 C dX7_goBack_16 rfl ?_
      refine g_aald C dX7_goBack_17 rfl rfl (n_in (show j < 2 by omega) (by decide)) ?_
      rw [nI_clamp (show j < 2 ^ 31 by omega)]
      refine g_astoreQ_2 C rfl dX7_goBack_18 rfl ?_
      refine g_aloadQ_2 C dX7_goBack_19 rfl ?_
      refine g_nonnull (tgt := 26) C dX7_goBack_20 rfl (by decide) (fun x20 h20 => ?_) (fun h20 => ?_)
      · skip
        rw [h20]
        refine g_aload_0 C dX7_goBack_26 rfl ?_
        refine g_aload_2 C dX7_goBack_27 rfl ?_
        refine g_putr C 10 dX7_goBack_28 rfl rfl rfl (Or.inl rfl) fl_X7_67 ?_
        refine g_aload_0 C dX7_goBack_31 rfl ?_
        refine g_aload_0 C dX7_goBack_32 rfl ?_
        refine g_getr C 5 dX7_goBack_33 rfl rfl rfl fl_X7_43 (hR 0 5 13 rfl) ?_
        refine g_iload_1 C dX7_goBack_36 rfl ?_
        refine g_iald C dX7_goBack_37 rfl rfl (n_in (show j < 2 by omega) (by decide)) ?_
        rw [nI_clamp (show j < 2 ^ 31 by omega)]
        refine g_puti C 11 dX7_goBack_38 rfl rfl rfl (Or.inl rfl) fl_X7_71 ?_
        refine g_aload_0 C dX7_goBack_41 rfl ?_
        refine g_getr C 1 dX7_goBack_42 rfl rfl rfl fl_X7_19 (hR 0 1 3 rfl) ?_
        refine g_cV0v C dX7_goBack_45 rfl ml_X7_104 mz_X1_clear (ok_X1_clear _) (by decide) rfl rfl rfl rfl (Nat.le_of_ble_eq_true rfl) (fun hn45 => ?_)
        refine g_iconst (v := 1) C dX7_goBack_48 rfl (by decide) ?_
        exact g_iret C rfl dX7_goBack_49 ⟨by unfold gb7V; rw [if_pos hi, eI, h20], by unfold gb7S; rw [if_pos hi, eI, h20] <;> rfl⟩
      · skip
        refine g_ldc C dX7_goBack_23 rfl kc_X7_177 ?_
        exact g_iret C rfl dX7_goBack_25 ⟨by unfold gb7V; rw [if_pos hi, eI, h20], by unfold gb7S; rw [if_pos hi, eI, h20]⟩
    · skip
      refine g_ldc C dX7_goBack_9 rfl kc_X7_148 ?_
      exact g_iret C rfl dX7_goBack_11 ⟨by unfold gb7V; rw [if_neg (by rw [show im2 i = false from decide_eq_false (fun z => h6 z.2)]; decide)], by unfold gb7S; rw [if_neg (by rw [show im2 i = false from decide_eq_false (fun z => h6 z.2)]; decide)]⟩

def nx7 (x : Int32) : Int32 := ((x.toInt64 * 1103515245 + 12345) &&& 2147483647).toInt32
def dr7 (x n : Int32) : Int32 := if n ≤ 0 then 0 else nx7 x / 65536 - nx7 x / 65536 / n * n
theorem le0_ne {n : Int32} (h : ¬ n ≤ 0) : ¬ n = 0 := fun e => h (by rw [e]; decide)
set_option maxHeartbeats 4000000 in
set_option maxRecDepth 20000 in
theorem ok_X7_draw (n : Int32) (S : Mem) : Ok yX7_draw cX7_draw 2 (some .int) 0 0 0 [.ref 0, .int n] S (RI (dr7 (mI S 0 11) n) (sI S 0 11 (nx7 (mI S 0 11)))) := by
  refine Ok.of (by decide) (Nat.le_of_ble_eq_true rfl) rfl (fun κ C hx => ?_)
  have C : Cx RX7 cX7_draw 2 (some .int) 0 false _ κ := C
  refine g_aload_0 C dX7_draw_0 rfl ?_
  refine g_aload_0 C dX7_draw_1 rfl ?_
  refine g_geti C 11 dX7_draw_2 rfl rfl rfl fl_X7_71 ?_
  refine g_i2l C dX7_draw_5 rfl ?_
  refine g_ldc2 C dX7_draw_6 rfl kl_X7_272 ?_
  refine g_lmul C dX7_draw_9 rfl ?_
  refine g_ldc2 C dX7_draw_10 rfl kl_X7_274 ?_
  refine g_ladd C dX7_draw_13 rfl ?_
  refine g_ldc2 C dX7_draw_14 rfl kl_X7_276 ?_
  refine g_land C dX7_draw_17 rfl ?_
  refine g_l2i C dX7_draw_18 rfl ?_
  refine g_puti C 11 dX7_draw_19 rfl rfl rfl (Or.inl rfl) fl_X7_71 ?_
  refine g_iload_1 C dX7_draw_22 rfl ?_
  refine g_if_le (tgt := 39) C dX7_draw_23 rfl (by decide) (fun h23 => ?_) (fun h23 => ?_)
  · skip
    refine g_iconst (v := 0) C dX7_draw_39 rfl (by decide) ?_
    exact g_iret C rfl dX7_draw_40 ⟨by unfold dr7; rw [if_pos h23], rfl⟩
  · skip
    refine g_aload_0 C dX7_draw_26 rfl ?_
    refine g_geti C 11 dX7_draw_27 rfl rfl rfl fl_X7_71 ?_
    refine g_ldcw C dX7_draw_30 rfl kc_X7_278 ?_
    refine g_idiv C dX7_draw_33 rfl (by decide) ?_
    refine g_iload_1 C dX7_draw_34 rfl ?_
    refine g_irem C dX7_draw_35 rfl (le0_ne h23) ?_
    refine g_goto (tgt := 40) C dX7_draw_36 (by decide) ?_
    exact g_iret C rfl dX7_draw_40 ⟨by unfold dr7; rw [if_neg h23] <;> rfl, rfl⟩

