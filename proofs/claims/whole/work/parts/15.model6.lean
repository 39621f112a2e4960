noncomputable def ibC (S : Mem) (nr : Nat) (bb : Int32) (k : Nat) : Bool := decide (bI (hasB (clo nr (mA S 27) (mA S 28) bb (mA S 36 k)) (mA S 37 k)) = mA S 38 k)
noncomputable def ibF (S : Mem) (nr : Nat) (bb : Int32) : Nat → Bool
  | 0 => true
  | k + 1 => ibF S nr bb k && ibC S nr bb k
set_option maxHeartbeats 4000000 in
set_option maxRecDepth 20000 in
theorem lp_X8_isBelieved {κ : Kx} {Φ : Option Value → Mem → Prop} (C : Cx RX8 cX8_isBelieved 4 (some .boolean) 2 false Φ κ) (S : Mem) (hR : Rs S) (nr : Nat) (hnr : mI S 25 1 = nI nr) (hT : Tn nr (mA S 27)) (an : Nat) (han : mI S 25 22 = nI an) (ha6 : an ≤ 6) (bb : Int32) (hΦ : Φ (some (.int (bI (ibF S nr bb an)))) S) : ∀ (n k : Nat), k ≤ an → an + 1 ≤ k + n → G κ 0 0 S 4 [.ref 25, .int bb, .int (bI (ibF S nr bb k)), .int (nI k)] [] := by
  intro n
  induction n with
  | zero => intro k h1 h2; exact absurd h2 (by omega)
  | succ n ih =>
    intro k hk1 hk2
    refine g_iload_3 C dX8_isBelieved_4 rfl ?_
    refine g_aload_0 C dX8_isBelieved_5 rfl ?_
    refine g_geti C 22 dX8_isBelieved_6 rfl rfl rfl fl_X8_140 ?_
    rw [han]
    refine g_icmp_ge (tgt := 57) C dX8_isBelieved_9 rfl (by decide) (fun h9 => ?_) (fun h9 => ?_)
    · skip
      have hk : k = an := by have := n_ge (b := an) h9 (by omega) (by omega); omega
      rw [hk]
      refine g_iload_2 C dX8_isBelieved_57 rfl ?_
      exact g_zret C rfl dX8_isBelieved_58 (by first | exact Or.inl rfl | exact Or.inr rfl | exact bI_01 _) hΦ
    · skip
      refine g_iload_2 C dX8_isBelieved_12 rfl ?_
      refine g_if_eq (tgt := 49) C dX8_isBelieved_13 rfl (by decide) (fun h13 => ?_) (fun h13 => ?_)
      · skip
        refine g_iconst (v := 0) C dX8_isBelieved_49 rfl (by decide) ?_
        refine g_istore_2 C rfl dX8_isBelieved_50 rfl ?_
        refine g_iinc_3 (z := 1) C rfl dX8_isBelieved_51 rfl (by decide) ?_
        refine g_goto (tgt := 4) C dX8_isBelieved_54 (by decide) ?_
        have hk : k < an := n_lt (b := an) h9 (by omega) (by omega)
        rw [nI_1]
        have e : ibF S nr bb (k + 1) = false := by show (ibF S nr bb k && _) = _; rw [(bI_0 _).mp h13]; rfl
        have := ih (k + 1) (by omega) (by omega)
        rw [e] at this
        exact this
      · skip
        refine g_aload_0 C dX8_isBelieved_16 rfl ?_
        refine g_aload_0 C dX8_isBelieved_17 rfl ?_
        refine g_getr C 23 dX8_isBelieved_18 rfl rfl rfl fl_X8_45 (hR 25 23 36 rfl) ?_
        refine g_iload_3 C dX8_isBelieved_21 rfl ?_
        refine g_iald C dX8_isBelieved_22 rfl rfl (n_in (show k < 6 by have := n_lt (b := an) h9 (by omega) (by omega); omega) (by decide)) ?_
        rw [nI_clamp (show k < 2 ^ 31 by omega)]
        refine g_iload_1 C dX8_isBelieved_23 rfl ?_
        refine g_cV2i C dX8_isBelieved_24 rfl ml_X8_152 mz_X8_close (ok_X8_close _ _ S hR nr hnr hT) (by decide) rfl rfl rfl rfl (Nat.le_of_ble_eq_true rfl) (fun hn24 => ?_)
        refine g_aload_0 C dX8_isBelieved_27 rfl ?_
        refine g_getr C 24 dX8_isBelieved_28 rfl rfl rfl fl_X8_48 (hR 25 24 37 rfl) ?_
        refine g_iload_3 C dX8_isBelieved_31 rfl ?_
        refine g_iald C dX8_isBelieved_32 rfl rfl (n_in (show k < 6 by have := n_lt (b := an) h9 (by omega) (by omega); omega) (by decide)) ?_
        rw [nI_clamp (show k < 2 ^ 31 by omega)]
        refine g_cS2i C dX8_isBelieved_33 rfl ml_X8_114 mz_X8_has (ok_X8_has _ _ _) (by decide) rfl rfl (Nat.le_of_ble_eq_true rfl) (fun hn33 => ?_)
        refine g_aload_0 C dX8_isBelieved_36 rfl ?_
        refine g_getr C 25 dX8_isBelieved_37 rfl rfl rfl fl_X8_51 (hR 25 25 38 rfl) ?_
        refine g_iload_3 C dX8_isBelieved_40 rfl ?_
        refine g_zald C dX8_isBelieved_41 rfl rfl (n_in (show k < 6 by have := n_lt (b := an) h9 (by omega) (by omega); omega) (by decide)) ?_
        rw [nI_clamp (show k < 2 ^ 31 by omega)]
        refine g_icmp_ne (tgt := 49) C dX8_isBelieved_42 rfl (by decide) (fun h42 => ?_) (fun h42 => ?_)
        · skip
          refine g_iconst (v := 0) C dX8_isBelieved_49 rfl (by decide) ?_
          refine g_istore_2 C rfl dX8_isBelieved_50 rfl ?_
          refine g_iinc_3 (z := 1) C rfl dX8_isBelieved_51 rfl (by decide) ?_
          refine g_goto (tgt := 4) C dX8_isBelieved_54 (by decide) ?_
          have hk : k < an := n_lt (b := an) h9 (by omega) (by omega)
          rw [nI_1]
          have e : ibF S nr bb (k + 1) = false := by show (_ && ibC S nr bb k) = _; rw [show ibC S nr bb k = false from decide_eq_false h42, Bool.and_false]
          have := ih (k + 1) (by omega) (by omega)
          rw [e] at this
          exact this
        · skip
          refine g_iconst (v := 1) C dX8_isBelieved_45 rfl (by decide) ?_
          refine g_goto (tgt := 50) C dX8_isBelieved_46 (by decide) ?_
          refine g_istore_2 C rfl dX8_isBelieved_50 rfl ?_
          refine g_iinc_3 (z := 1) C rfl dX8_isBelieved_51 rfl (by decide) ?_
          refine g_goto (tgt := 4) C dX8_isBelieved_54 (by decide) ?_
          have hk : k < an := n_lt (b := an) h9 (by omega) (by omega)
          rw [nI_1]
          have e : ibF S nr bb (k + 1) = true := by show (ibF S nr bb k && ibC S nr bb k) = _; rw [nf_t (fun q => h13 ((bI_0 _).mpr q)), show ibC S nr bb k = true from decide_eq_true h42]; rfl
          have := ih (k + 1) (by omega) (by omega)
          rw [e] at this
          exact this

set_option maxHeartbeats 4000000 in
set_option maxRecDepth 20000 in
theorem ok_X8_isBelieved (bb : Int32) (S : Mem) (hR : Rs S) (nr : Nat) (hnr : mI S 25 1 = nI nr) (hT : Tn nr (mA S 27)) (an : Nat) (han : mI S 25 22 = nI an) (ha6 : an ≤ 6) : Ok yX8_isBelieved cX8_isBelieved 4 (some .boolean) 2 0 0 [.ref 25, .int bb] S (RI (bI (ibF S nr bb an)) S) := by
  refine Ok.of (by decide) (Nat.le_of_ble_eq_true rfl) rfl (fun κ C hx => ?_)
  have C : Cx RX8 cX8_isBelieved 4 (some .boolean) 2 false _ κ := C
  refine g_iconst (v := 1) C dX8_isBelieved_0 rfl (by decide) ?_
  refine g_istore_2 C rfl dX8_isBelieved_1 rfl ?_
  refine g_iconst (v := 0) C dX8_isBelieved_2 rfl (by decide) ?_
  refine g_istore_3 C rfl dX8_isBelieved_3 rfl ?_
  exact lp_X8_isBelieved C S hR nr hnr hT an han ha6 bb ⟨rfl, rfl⟩ (an + 1) 0 (Nat.zero_le _) (by omega)

noncomputable def bvF (S : Mem) (nr an : Nat) : Nat → Int32 × Int32 × Int32
  | 0 => (0, -1, one (nI nr) - 1)
  | k + 1 => if ibF S nr (nI k) an = true then ((bvF S nr an k).1 + 1, (if (bvF S nr an k).1 = 0 then nI k else (bvF S nr an k).2.1), (bvF S nr an k).2.2 &&& nI k) else bvF S nr an k
noncomputable def bvV (S : Mem) (nr an : Nat) (what : Int32) : Int32 := if inI what 0 2 = true then (if what = 0 then (bvF S nr an (2 ^ nr)).1 else if what = 1 then (bvF S nr an (2 ^ nr)).2.1 else if (bvF S nr an (2 ^ nr)).1 = 0 then 0 else (bvF S nr an (2 ^ nr)).2.2) else -1000000002
set_option maxHeartbeats 4000000 in
set_option maxRecDepth 20000 in
theorem lp_X8_believed {κ : Kx} {Φ : Option Value → Mem → Prop} (C : Cx RX8 cX8_believed 6 (some .int) 3 false Φ κ) (S : Mem) (hR : Rs S) (nr : Nat) (hnr : mI S 25 1 = nI nr) (hT : Tn nr (mA S 27)) (an : Nat) (han : mI S 25 22 = nI an) (ha6 : an ≤ 6) (what : Int32) (K : ∀ v5 : Value, G κ 0 0 S 79 [.ref 25, .int what, .int (bvF S nr an (2 ^ nr)).1, .int (bvF S nr an (2 ^ nr)).2.1, .int (bvF S nr an (2 ^ nr)).2.2, v5] []) : ∀ (n k : Nat), k ≤ 2 ^ nr → 2 ^ nr + 1 ≤ k + n → G κ 0 0 S 32 [.ref 25, .int what, .int (bvF S nr an k).1, .int (bvF S nr an k).2.1, .int (bvF S nr an k).2.2, .int (nI k)] [] := by
  have h10 := pw10 hT.1
  intro n
  induction n with
  | zero => intro k h1 h2; exact absurd h2 (by omega)
  | succ n ih =>
    intro k hk1 hk2
    refine g_iload_5 C dX8_believed_32 rfl ?_
    refine g_iconst (v := 1) C dX8_believed_34 rfl (by decide) ?_
    refine g_aload_0 C dX8_believed_35 rfl ?_
    refine g_geti C 1 dX8_believed_36 rfl rfl rfl fl_X8_77 ?_
    rw [hnr]
    refine g_ishl C dX8_believed_39 rfl ?_
    rw [show (1 : Int32) <<< (nI nr &&& 31) = nI (2 ^ nr) from pw_nI nr (by have := hT.1; omega)]
    refine g_icmp_ge (tgt := 79) C dX8_believed_40 rfl (by decide) (fun h40 => ?_) (fun h40 => ?_)
    · skip
      have hk : k = 2 ^ nr := by have := n_ge (b := 2 ^ nr) h40 (by omega) (by omega); omega
      rw [hk]
      exact K _
    · skip
      refine g_aload_0 C dX8_believed_43 rfl ?_
      refine g_iload_5 C dX8_believed_44 rfl ?_
      refine g_cV1i C dX8_believed_46 rfl ml_X8_219 mz_X8_isBelieved (ok_X8_isBelieved _ S hR nr hnr hT an han ha6) (by decide) rfl rfl rfl rfl (Nat.le_of_ble_eq_true rfl) (fun hn46 => ?_)
      refine g_if_eq (tgt := 73) C dX8_believed_49 rfl (by decide) (fun h49 => ?_) (fun h49 => ?_)
      · skip
        refine g_iinc_5 (z := 1) C rfl dX8_believed_73 rfl (by decide) ?_
        refine g_goto (tgt := 32) C dX8_believed_76 (by decide) ?_
        have hk : k < 2 ^ nr := n_lt (b := 2 ^ nr) h40 (by omega) (by omega)
        rw [nI_1]
        have e : bvF S nr an (k + 1) = bvF S nr an k := if_neg (by rw [(bI_0 _).mp h49]; decide)
        have := ih (k + 1) (by omega) (by omega)
        rw [e] at this
        exact this
      · skip
        refine g_iload_2 C dX8_believed_52 rfl ?_
        refine g_if_ne (tgt := 61) C dX8_believed_53 rfl (by decide) (fun h53 => ?_) (fun h53 => ?_)
        · skip
          refine g_iload_3 C dX8_believed_61 rfl ?_
          refine g_istore_3 C rfl dX8_believed_62 rfl ?_
          refine g_iload_4 C dX8_believed_63 rfl ?_
          refine g_iload_5 C dX8_believed_65 rfl ?_
          refine g_iand C dX8_believed_67 rfl ?_
          refine g_istore_4 C rfl dX8_believed_68 rfl ?_
          refine g_iinc_2 (z := 1) C rfl dX8_believed_70 rfl (by decide) ?_
          refine g_iinc_5 (z := 1) C rfl dX8_believed_73 rfl (by decide) ?_
          refine g_goto (tgt := 32) C dX8_believed_76 (by decide) ?_
          have hk : k < 2 ^ nr := n_lt (b := 2 ^ nr) h40 (by omega) (by omega)
          rw [nI_1]
          have e : bvF S nr an (k + 1) = _ := if_pos (nf_t (fun q => h49 ((bI_0 _).mpr q)))
          have := ih (k + 1) (by omega) (by omega)
          rw [e] at this
          rw [if_neg h53] at this
          exact this
        · skip
          refine g_iload_5 C dX8_believed_56 rfl ?_
          refine g_goto (tgt := 62) C dX8_believed_58 (by decide) ?_
          refine g_istore_3 C rfl dX8_believed_62 rfl ?_
          refine g_iload_4 C dX8_believed_63 rfl ?_
          refine g_iload_5 C dX8_believed_65 rfl ?_
          refine g_iand C dX8_believed_67 rfl ?_
          refine g_istore_4 C rfl dX8_believed_68 rfl ?_
          refine g_iinc_2 (z := 1) C rfl dX8_believed_70 rfl (by decide) ?_
          refine g_iinc_5 (z := 1) C rfl dX8_believed_73 rfl (by decide) ?_
          refine g_goto (tgt := 32) C dX8_believed_76 (by decide) ?_
          have hk : k < 2 ^ nr := n_lt (b := 2 ^ nr) h40 (by omega) (by omega)
          rw [nI_1]
          have e : bvF S nr an (k + 1) = _ := if_pos (nf_t (fun q => h49 ((bI_0 _).mpr q)))
          have := ih (k + 1) (by omega) (by omega)
          rw [e] at this
          rw [if_pos h53] at this
          exact this

set_option maxHeartbeats 4000000 in
set_option maxRecDepth 20000 in
theorem ok_X8_believed (what : Int32) (S : Mem) (hR : Rs S) (nr : Nat) (hnr : mI S 25 1 = nI nr) (hT : Tn nr (mA S 27)) (an : Nat) (han : mI S 25 22 = nI an) (ha6 : an ≤ 6) : Ok yX8_believed cX8_believed 6 (some .int) 3 0 0 [.ref 25, .int what] S (RI (bvV S nr an what) S) := by
  have h10 := pw10 hT.1
  refine Ok.of (by decide) (Nat.le_of_ble_eq_true rfl) rfl (fun κ C hx => ?_)
  have C : Cx RX8 cX8_believed 6 (some .int) 3 false _ κ := C
  refine g_iload_1 C dX8_believed_0 rfl ?_
  refine g_i2l C dX8_believed_1 rfl ?_
  refine g_lconst (v := 0) C dX8_believed_2 rfl (by decide) ?_
  refine g_ldc2 C dX8_believed_3 rfl kl_X8_217 ?_
  refine g_cS3i C dX8_believed_6 rfl ml_X8_73 mz_X8_in (ok_X8_in _ _ _ _) (by decide) rfl rfl (Nat.le_of_ble_eq_true rfl) (fun hn6 => ?_)
  rw [show inL what.toInt64 0 2 = inI what 0 2 from inL_32 what 0 2]
  refine g_if_ne (tgt := 15) C dX8_believed_9 rfl (by decide) (fun h9 => ?_) (fun h9 => ?_)
  · skip
    refine g_iconst (v := 0) C dX8_believed_15 rfl (by decide) ?_
    refine g_istore_2 C rfl dX8_believed_16 rfl ?_
    refine g_iconst (v := -1) C dX8_believed_17 rfl (by decide) ?_
    refine g_istore_3 C rfl dX8_believed_18 rfl ?_
    refine g_iconst (v := 1) C dX8_believed_19 rfl (by decide) ?_
    refine g_aload_0 C dX8_believed_20 rfl ?_
    refine g_geti C 1 dX8_believed_21 rfl rfl rfl fl_X8_77 ?_
    rw [hnr]
    refine g_ishl C dX8_believed_24 rfl ?_
    rw [one_df]
    refine g_iconst (v := 1) C dX8_believed_25 rfl (by decide) ?_
    refine g_isub C dX8_believed_26 rfl ?_
    refine g_istore_4 C rfl dX8_believed_27 rfl ?_
    refine g_iconst (v := 0) C dX8_believed_29 rfl (by decide) ?_
    refine g_istore_5 C rfl dX8_believed_30 rfl ?_
    refine lp_X8_believed C S hR nr hnr hT an han ha6 what (fun v5 => ?_) (2 ^ nr + 1) 0 (Nat.zero_le _) (by omega)
    refine g_iload_1 C dX8_believed_79 rfl ?_
    refine g_if_ne (tgt := 87) C dX8_believed_80 rfl (by decide) (fun h80 => ?_) (fun h80 => ?_)
    · skip
      refine g_iload_1 C dX8_believed_87 rfl ?_
      refine g_iconst (v := 1) C dX8_believed_88 rfl (by decide) ?_
      refine g_icmp_ne (tgt := 96) C dX8_believed_89 rfl (by decide) (fun h89 => ?_) (fun h89 => ?_)
      · skip
        refine g_iload_2 C dX8_believed_96 rfl ?_
        refine g_if_ne (tgt := 104) C dX8_believed_97 rfl (by decide) (fun h97 => ?_) (fun h97 => ?_)
        · skip
          refine g_iload_4 C dX8_believed_104 rfl ?_
          exact g_iret C rfl dX8_believed_106 ⟨by unfold bvV; rw [if_pos (nf_t (fun q => h9 ((bI_0 _).mpr q)))]; rw [if_neg h80]; rw [if_neg h89]; rw [if_neg h97], rfl⟩
        · skip
          refine g_iconst (v := 0) C dX8_believed_100 rfl (by decide) ?_
          refine g_goto (tgt := 106) C dX8_believed_101 (by decide) ?_
          exact g_iret C rfl dX8_believed_106 ⟨by unfold bvV; rw [if_pos (nf_t (fun q => h9 ((bI_0 _).mpr q)))]; rw [if_neg h80]; rw [if_neg h89]; rw [if_pos h97], rfl⟩
      · skip
        refine g_iload_3 C dX8_believed_92 rfl ?_
        refine g_goto (tgt := 106) C dX8_believed_93 (by decide) ?_
        exact g_iret C rfl dX8_believed_106 ⟨by unfold bvV; rw [if_pos (nf_t (fun q => h9 ((bI_0 _).mpr q)))]; rw [if_neg h80]; rw [if_pos h89], rfl⟩
    · skip
      refine g_iload_2 C dX8_believed_83 rfl ?_
      refine g_goto (tgt := 106) C dX8_believed_84 (by decide) ?_
      exact g_iret C rfl dX8_believed_106 ⟨by unfold bvV; rw [if_pos (nf_t (fun q => h9 ((bI_0 _).mpr q)))]; rw [if_pos h80], rfl⟩
  · skip
    refine g_ldc C dX8_believed_12 rfl kc_X8_82 ?_
    exact g_iret C rfl dX8_believed_14 ⟨by unfold bvV; rw [if_neg (by rw [(bI_0 _).mp h9]; decide)], rfl⟩

def jdF (all : Int32) (bw bi : Nat → Int32) : Nat → Nat → Int32
  | 0, _ => -1
  | n + 1, k => if bitI all (bw k) = bi k then jdF all bw bi n (k + 1) else nI k
set_option maxHeartbeats 4000000 in
set_option maxRecDepth 20000 in
theorem lp_X8_judge {κ : Kx} {Φ : Option Value → Mem → Prop} (C : Cx RX8 cX8_judge 3 (some .int) 3 false Φ κ) (S : Mem) (hR : Rs S) (bn : Nat) (hbn : mI S 25 27 = nI bn) (hb15 : bn ≤ 15) (all : Int32) : ∀ (n k : Nat), k + n = bn → Φ (some (.int (jdF all (mA S 40) (mA S 41) n k))) S → G κ 0 0 S 7 [.ref 25, .int all, .int (nI k)] [] := by
  intro n
  induction n with
  | zero =>
    intro k hk hΦ
    refine g_iload_2 C dX8_judge_7 rfl ?_
    refine g_aload_0 C dX8_judge_8 rfl ?_
    refine g_geti C 27 dX8_judge_9 rfl rfl rfl fl_X8_143 ?_
    rw [hbn]
    refine g_icmp_ge (tgt := 42) C dX8_judge_12 rfl (by decide) (fun h12 => ?_) (fun h12 => absurd (nI_le (a := bn) (b := k) (by omega) (by omega)) h12)
    refine g_iconst (v := -1) C dX8_judge_42 rfl (by decide) ?_
    exact g_iret C rfl dX8_judge_43 hΦ
  | succ n ih =>
    intro k hk hΦ
    refine g_iload_2 C dX8_judge_7 rfl ?_
    refine g_aload_0 C dX8_judge_8 rfl ?_
    refine g_geti C 27 dX8_judge_9 rfl rfl rfl fl_X8_143 ?_
    rw [hbn]
    refine g_icmp_ge (tgt := 42) C dX8_judge_12 rfl (by decide) (fun h12 => absurd h12 (nI_ge (a := k) (b := bn) (by omega) (by omega))) (fun h12 => ?_)
    refine g_iload_1 C dX8_judge_15 rfl ?_
    refine g_aload_0 C dX8_judge_16 rfl ?_
    refine g_getr C 28 dX8_judge_17 rfl rfl rfl fl_X8_58 (hR 25 28 40 rfl) ?_
    refine g_iload_2 C dX8_judge_20 rfl ?_
    refine g_iald C dX8_judge_21 rfl rfl (n_in (show k < 15 by omega) (by decide)) ?_
    rw [nI_clamp (show k < 2 ^ 31 by omega)]
    refine g_ishr C dX8_judge_22 rfl ?_
    refine g_iconst (v := 1) C dX8_judge_23 rfl (by decide) ?_
    refine g_iand C dX8_judge_24 rfl ?_
    refine g_aload_0 C dX8_judge_25 rfl ?_
    refine g_getr C 29 dX8_judge_26 rfl rfl rfl fl_X8_61 (hR 25 29 41 rfl) ?_
    refine g_iload_2 C dX8_judge_29 rfl ?_
    refine g_iald C dX8_judge_30 rfl rfl (n_in (show k < 15 by omega) (by decide)) ?_
    rw [nI_clamp (show k < 2 ^ 31 by omega)]
    refine g_icmp_eq (tgt := 36) C dX8_judge_31 rfl (by decide) (fun h31 => ?_) (fun h31 => ?_)
    · skip
      refine g_iinc_2 (z := 1) C rfl dX8_judge_36 rfl (by decide) ?_
      refine g_goto (tgt := 7) C dX8_judge_39 (by decide) ?_
      rw [nI_1]
      exact ih (k + 1) (by omega) (by rw [show jdF all (mA S 40) (mA S 41) (n + 1) k = jdF all (mA S 40) (mA S 41) n (k + 1) from if_pos h31] at hΦ; exact hΦ)
    · skip
      refine g_iload_2 C dX8_judge_34 rfl ?_
      exact g_iret C rfl dX8_judge_35 (by rw [show jdF all (mA S 40) (mA S 41) (n + 1) k = nI k from if_neg h31] at hΦ; exact hΦ)

set_option maxHeartbeats 4000000 in
set_option maxRecDepth 20000 in
theorem ok_X8_judge (S : Mem) (hR : Rs S) (nr : Nat) (hnr : mI S 25 1 = nI nr) (hT : Tn nr (mA S 27)) (bn : Nat) (hbn : mI S 25 27 = nI bn) (hb15 : bn ≤ 15) : Ok yX8_judge cX8_judge 3 (some .int) 3 0 0 [.ref 25] S (RI (jdF (clo nr (mA S 27) (mA S 28) (alw (nI nr) (mA S 29 2)) (mA S 29 0)) (mA S 40) (mA S 41) bn 0) S) := by
  refine Ok.of (by decide) (Nat.le_of_ble_eq_true rfl) rfl (fun κ C hx => ?_)
  have C : Cx RX8 cX8_judge 3 (some .int) 3 false _ κ := C
  refine g_aload_0 C dX8_judge_0 rfl ?_
  refine g_cV0i C dX8_judge_1 rfl ml_X8_155 mz_X8_followsNow (ok_X8_followsNow S hR nr hnr hT) (by decide) rfl rfl rfl rfl (Nat.le_of_ble_eq_true rfl) (fun hn1 => ?_)
  refine g_istore_1 C rfl dX8_judge_4 rfl ?_
  refine g_iconst (v := 0) C dX8_judge_5 rfl (by decide) ?_
  refine g_istore_2 C rfl dX8_judge_6 rfl ?_
  exact lp_X8_judge C S hR bn hbn hb15 _ bn 0 (by omega) ⟨rfl, rfl⟩

