theorem pw10 {nr : Nat} (h : nr ≤ 10) : 2 ^ nr ≤ 1024 := Nat.pow_le_pow_right (n := 2) (by decide) h
theorem pw16 {th : Nat} (h : th ≤ 8) : 2 ^ (2 * th) ≤ 65536 := Nat.pow_le_pow_right (n := 2) (i := 2 * th) (j := 16) (by decide) (by omega)
theorem bst_small {P : Nat → Bool} {wt : Nat → Int32} {n : Nat} (hn : n ≤ 2147483648) : ∀ k, bstF P wt n = some k → k < 2147483648 := fun k h => Nat.lt_of_lt_of_le (bstF_lt h) hn
theorem bst_some {P : Nat → Bool} {wt : Nat → Int32} {n : Nat} (hn : n ≤ 2147483648) (h : ¬ oI (bstF P wt n) < 0) : ∃ b, bstF P wt n = some b := by
  cases hb : bstF P wt n with
  | none => rw [hb] at h; exact absurd (by decide) h
  | some b => exact ⟨b, rfl⟩
theorem bst_none {P : Nat → Bool} {wt : Nat → Int32} {n : Nat} (hn : n ≤ 2147483648) (h : oI (bstF P wt n) < 0) : bstF P wt n = none := (oI_neg (bst_small hn)).mp h
noncomputable def prP (S : Mem) (nr : Nat) (s : Int32) (k : Nat) : Bool := decide (nI k &&& mA S 29 2 = 0) && hasB (clo nr (mA S 27) (mA S 28) (nI k) (mA S 29 0)) s
def cw (k : Nat) : Int32 := cntI (nI k) 16
def selV (o : Option Nat) (c : Bool) (f : Nat → Int32) : Int32 := match o with | none => -1 | some b => if c = true then nI b else f b
noncomputable def prV (S : Mem) (nr : Nat) (s what : Int32) : Int32 := if sayB (mI S 25 0) s = true then (if inI what 0 1 = true then selV (bstF (prP S nr s) cw (2 ^ nr)) (decide (what = 1)) cw else -1000000002) else -1000000001
set_option maxHeartbeats 4000000 in
set_option maxRecDepth 20000 in
theorem lp_X8_proof {κ : Kx} {Φ : Option Value → Mem → Prop} (C : Cx RX8 cX8_proof 6 (some .int) 2 false Φ κ) (S : Mem) (hR : Rs S) (nr : Nat) (hnr : mI S 25 1 = nI nr) (hT : Tn nr (mA S 27)) (s what : Int32) (K : ∀ v4 v5 : Value, G κ 0 0 S 112 [.ref 25, .int s, .int what, .int (oI (bstF (prP S nr s) cw (2 ^ nr))), v4, v5] []) : ∀ (n k : Nat), k ≤ 2 ^ nr → 2 ^ nr + 1 ≤ k + n → ∀ v5 : Value, G κ 0 0 S 29 [.ref 25, .int s, .int what, .int (oI (bstF (prP S nr s) cw k)), .int (nI k), v5] [] := by
  have h10 := pw10 hT.1
  intro n
  induction n with
  | zero => intro k h1 h2; exact absurd h2 (by omega)
  | succ n ih =>
    intro k hk1 hk2 v5
    refine g_iload_4 C dX8_proof_29 rfl ?_
    refine g_iconst (v := 1) C dX8_proof_31 rfl (by decide) ?_
    refine g_aload_0 C dX8_proof_32 rfl ?_
    refine g_geti C 1 dX8_proof_33 rfl rfl rfl fl_X8_77 ?_
    rw [hnr]
    refine g_ishl C dX8_proof_36 rfl ?_
    rw [show (1 : Int32) <<< (nI nr &&& 31) = nI (2 ^ nr) from pw_nI nr (by have := hT.1; omega)]
    refine g_icmp_ge (tgt := 112) C dX8_proof_37 rfl (by decide) (fun h37 => ?_) (fun h37 => ?_)
    · skip
      have hk : k = 2 ^ nr := by have := n_ge (b := 2 ^ nr) h37 (by omega) (by omega); omega
      rw [hk]
      exact K _ _
    · skip
      refine g_iload_4 C dX8_proof_40 rfl ?_
      refine g_aload_0 C dX8_proof_42 rfl ?_
      refine g_getr C 5 dX8_proof_43 rfl rfl rfl fl_X8_19 (hR 25 5 29 rfl) ?_
      refine g_iconst (v := 2) C dX8_proof_46 rfl (by decide) ?_
      refine g_iald C dX8_proof_47 rfl rfl (n_in (k := 2) (N := 4) (by decide) (by decide)) ?_
      rw [show (mA S 29 (Int32.toNatClampNeg 2)) = mA S 29 2 from rfl]
      refine g_iand C dX8_proof_48 rfl ?_
      refine g_if_ne (tgt := 72) C dX8_proof_49 rfl (by decide) (fun h49 => ?_) (fun h49 => ?_)
      · skip
        refine g_iconst (v := 0) C dX8_proof_72 rfl (by decide) ?_
        refine g_istore_5 C rfl dX8_proof_73 rfl ?_
        refine g_iload_5 C dX8_proof_75 rfl ?_
        refine g_if_eq (tgt := 104) C dX8_proof_77 rfl (by decide) (fun h77 => ?_) (fun h77 => absurd rfl h77)
        refine g_iload_3 C dX8_proof_104 rfl ?_
        refine g_istore_3 C rfl dX8_proof_105 rfl ?_
        refine g_iinc_4 (z := 1) C rfl dX8_proof_106 rfl (by decide) ?_
        refine g_goto (tgt := 29) C dX8_proof_109 (by decide) ?_
        have hk : k < 2 ^ nr := n_lt (b := 2 ^ nr) h37 (by omega) (by omega)
        rw [nI_1]
        have e := bstF_s0 (P := (prP S nr s)) (wt := cw) (show (prP S nr s) k = false by unfold prP; rw [decide_eq_false h49]; rfl)
        have := ih (k + 1) (by omega) (by omega)
        rw [e] at this
        exact this _
      · skip
        refine g_iload_3 C dX8_proof_52 rfl ?_
        refine g_if_lt (tgt := 68) C dX8_proof_53 rfl (by decide) (fun h53 => ?_) (fun h53 => ?_)
        · skip
          refine g_iconst (v := 1) C dX8_proof_68 rfl (by decide) ?_
          refine g_goto (tgt := 73) C dX8_proof_69 (by decide) ?_
          refine g_istore_5 C rfl dX8_proof_73 rfl ?_
          refine g_iload_5 C dX8_proof_75 rfl ?_
          refine g_if_eq (tgt := 104) C dX8_proof_77 rfl (by decide) (fun h77 => absurd h77 (by decide)) (fun h77 => ?_)
          refine g_aload_0 C dX8_proof_80 rfl ?_
          refine g_aload_0 C dX8_proof_81 rfl ?_
          refine g_getr C 5 dX8_proof_82 rfl rfl rfl fl_X8_19 (hR 25 5 29 rfl) ?_
          refine g_iconst (v := 0) C dX8_proof_85 rfl (by decide) ?_
          refine g_iald C dX8_proof_86 rfl rfl (n_in (k := 0) (N := 4) (by decide) (by decide)) ?_
          rw [show (mA S 29 (Int32.toNatClampNeg 0)) = mA S 29 0 from rfl]
          refine g_iload_4 C dX8_proof_87 rfl ?_
          refine g_cV2i C dX8_proof_89 rfl ml_X8_152 mz_X8_close (ok_X8_close _ _ S hR nr hnr hT) (by decide) rfl rfl rfl rfl (Nat.le_of_ble_eq_true rfl) (fun hn89 => ?_)
          refine g_iload_1 C dX8_proof_92 rfl ?_
          refine g_cS2i C dX8_proof_93 rfl ml_X8_114 mz_X8_has (ok_X8_has _ _ _) (by decide) rfl rfl (Nat.le_of_ble_eq_true rfl) (fun hn93 => ?_)
          refine g_if_eq (tgt := 104) C dX8_proof_96 rfl (by decide) (fun h96 => ?_) (fun h96 => ?_)
          · skip
            refine g_iload_3 C dX8_proof_104 rfl ?_
            refine g_istore_3 C rfl dX8_proof_105 rfl ?_
            refine g_iinc_4 (z := 1) C rfl dX8_proof_106 rfl (by decide) ?_
            refine g_goto (tgt := 29) C dX8_proof_109 (by decide) ?_
            have hk : k < 2 ^ nr := n_lt (b := 2 ^ nr) h37 (by omega) (by omega)
            rw [nI_1]
            have e := bstF_s0 (P := (prP S nr s)) (wt := cw) (show (prP S nr s) k = false by unfold prP; rw [(bI_0 _).mp h96]; exact Bool.and_false _)
            have := ih (k + 1) (by omega) (by omega)
            rw [e] at this
            exact this _
          · skip
            refine g_iload_4 C dX8_proof_99 rfl ?_
            refine g_goto (tgt := 105) C dX8_proof_101 (by decide) ?_
            refine g_istore_3 C rfl dX8_proof_105 rfl ?_
            refine g_iinc_4 (z := 1) C rfl dX8_proof_106 rfl (by decide) ?_
            refine g_goto (tgt := 29) C dX8_proof_109 (by decide) ?_
            have hk : k < 2 ^ nr := n_lt (b := 2 ^ nr) h37 (by omega) (by omega)
            rw [nI_1]
            have hb := bst_none (by omega) h53
            have hp : (prP S nr s) k = true := by unfold prP; rw [decide_eq_true h49, nf_t (fun q => h96 ((bI_0 _).mpr q))]; rfl
            have e := bstF_sn hp hb
            have := ih (k + 1) (by omega) (by omega)
            rw [e] at this
            exact this _
        · skip
          refine g_iload_4 C dX8_proof_56 rfl ?_
          refine g_cS1i C dX8_proof_58 rfl ml_X8_201 mz_X8_bits (ok_X8_bits _ _) (by decide) rfl rfl (Nat.le_of_ble_eq_true rfl) (fun hn58 => ?_)
          refine g_iload_3 C dX8_proof_61 rfl ?_
          refine g_cS1i C dX8_proof_62 rfl ml_X8_201 mz_X8_bits (ok_X8_bits _ _) (by decide) rfl rfl (Nat.le_of_ble_eq_true rfl) (fun hn62 => ?_)
          refine g_icmp_ge (tgt := 72) C dX8_proof_65 rfl (by decide) (fun h65 => ?_) (fun h65 => ?_)
          · skip
            refine g_iconst (v := 0) C dX8_proof_72 rfl (by decide) ?_
            refine g_istore_5 C rfl dX8_proof_73 rfl ?_
            refine g_iload_5 C dX8_proof_75 rfl ?_
            refine g_if_eq (tgt := 104) C dX8_proof_77 rfl (by decide) (fun h77 => ?_) (fun h77 => absurd rfl h77)
            refine g_iload_3 C dX8_proof_104 rfl ?_
            refine g_istore_3 C rfl dX8_proof_105 rfl ?_
            refine g_iinc_4 (z := 1) C rfl dX8_proof_106 rfl (by decide) ?_
            refine g_goto (tgt := 29) C dX8_proof_109 (by decide) ?_
            have hk : k < 2 ^ nr := n_lt (b := 2 ^ nr) h37 (by omega) (by omega)
            rw [nI_1]
            obtain ⟨b, hb⟩ := bst_some (by omega) h53
            have hw : cw b ≤ cw k := by have h := h65; rw [hb] at h; exact h
            have e := bstF_sg (P := (prP S nr s)) (wt := cw) hb (i_not_lt hw)
            have := ih (k + 1) (by omega) (by omega)
            rw [e, ← hb] at this
            exact this _
          · skip
            refine g_iconst (v := 1) C dX8_proof_68 rfl (by decide) ?_
            refine g_goto (tgt := 73) C dX8_proof_69 (by decide) ?_
            refine g_istore_5 C rfl dX8_proof_73 rfl ?_
            refine g_iload_5 C dX8_proof_75 rfl ?_
            refine g_if_eq (tgt := 104) C dX8_proof_77 rfl (by decide) (fun h77 => absurd h77 (by decide)) (fun h77 => ?_)
            refine g_aload_0 C dX8_proof_80 rfl ?_
            refine g_aload_0 C dX8_proof_81 rfl ?_
            refine g_getr C 5 dX8_proof_82 rfl rfl rfl fl_X8_19 (hR 25 5 29 rfl) ?_
            refine g_iconst (v := 0) C dX8_proof_85 rfl (by decide) ?_
            refine g_iald C dX8_proof_86 rfl rfl (n_in (k := 0) (N := 4) (by decide) (by decide)) ?_
            rw [show (mA S 29 (Int32.toNatClampNeg 0)) = mA S 29 0 from rfl]
            refine g_iload_4 C dX8_proof_87 rfl ?_
            refine g_cV2i C dX8_proof_89 rfl ml_X8_152 mz_X8_close (ok_X8_close _ _ S hR nr hnr hT) (by decide) rfl rfl rfl rfl (Nat.le_of_ble_eq_true rfl) (fun hn89 => ?_)
            refine g_iload_1 C dX8_proof_92 rfl ?_
            refine g_cS2i C dX8_proof_93 rfl ml_X8_114 mz_X8_has (ok_X8_has _ _ _) (by decide) rfl rfl (Nat.le_of_ble_eq_true rfl) (fun hn93 => ?_)
            refine g_if_eq (tgt := 104) C dX8_proof_96 rfl (by decide) (fun h96 => ?_) (fun h96 => ?_)
            · skip
              refine g_iload_3 C dX8_proof_104 rfl ?_
              refine g_istore_3 C rfl dX8_proof_105 rfl ?_
              refine g_iinc_4 (z := 1) C rfl dX8_proof_106 rfl (by decide) ?_
              refine g_goto (tgt := 29) C dX8_proof_109 (by decide) ?_
              have hk : k < 2 ^ nr := n_lt (b := 2 ^ nr) h37 (by omega) (by omega)
              rw [nI_1]
              have e := bstF_s0 (P := (prP S nr s)) (wt := cw) (show (prP S nr s) k = false by unfold prP; rw [(bI_0 _).mp h96]; exact Bool.and_false _)
              have := ih (k + 1) (by omega) (by omega)
              rw [e] at this
              exact this _
            · skip
              refine g_iload_4 C dX8_proof_99 rfl ?_
              refine g_goto (tgt := 105) C dX8_proof_101 (by decide) ?_
              refine g_istore_3 C rfl dX8_proof_105 rfl ?_
              refine g_iinc_4 (z := 1) C rfl dX8_proof_106 rfl (by decide) ?_
              refine g_goto (tgt := 29) C dX8_proof_109 (by decide) ?_
              have hk : k < 2 ^ nr := n_lt (b := 2 ^ nr) h37 (by omega) (by omega)
              rw [nI_1]
              obtain ⟨b, hb⟩ := bst_some (by omega) h53
              have hp : (prP S nr s) k = true := by unfold prP; rw [decide_eq_true h49, nf_t (fun q => h96 ((bI_0 _).mpr q))]; rfl
              have hw : cw k < cw b := by have h := i_not_le h65; rw [hb] at h; exact h
              have e := bstF_sl hp hb hw
              have := ih (k + 1) (by omega) (by omega)
              rw [e] at this
              exact this _

set_option maxHeartbeats 4000000 in
set_option maxRecDepth 20000 in
theorem ok_X8_proof (s what : Int32) (S : Mem) (hR : Rs S) (nr : Nat) (hnr : mI S 25 1 = nI nr) (hT : Tn nr (mA S 27)) : Ok yX8_proof cX8_proof 6 (some .int) 2 0 0 [.ref 25, .int s, .int what] S (RI (prV S nr s what) S) := by
  have h10 := pw10 hT.1
  refine Ok.of (by decide) (Nat.le_of_ble_eq_true rfl) rfl (fun κ C hx => ?_)
  have C : Cx RX8 cX8_proof 6 (some .int) 2 false _ κ := C
  refine g_aload_0 C dX8_proof_0 rfl ?_
  refine g_iload_1 C dX8_proof_1 rfl ?_
  refine g_cV1i C dX8_proof_2 rfl ml_X8_166 mz_X8_isSaying (ok_X8_isSaying _ S) (by decide) rfl rfl rfl rfl (Nat.le_of_ble_eq_true rfl) (fun hn2 => ?_)
  refine g_if_ne (tgt := 11) C dX8_proof_5 rfl (by decide) (fun h5 => ?_) (fun h5 => ?_)
  · skip
    refine g_iload_2 C dX8_proof_11 rfl ?_
    refine g_i2l C dX8_proof_12 rfl ?_
    refine g_lconst (v := 0) C dX8_proof_13 rfl (by decide) ?_
    refine g_lconst (v := 1) C dX8_proof_14 rfl (by decide) ?_
    refine g_cS3i C dX8_proof_15 rfl ml_X8_73 mz_X8_in (ok_X8_in _ _ _ _) (by decide) rfl rfl (Nat.le_of_ble_eq_true rfl) (fun hn15 => ?_)
    rw [show inL what.toInt64 0 1 = inI what 0 1 from inL_32 what 0 1]
    refine g_if_ne (tgt := 24) C dX8_proof_18 rfl (by decide) (fun h18 => ?_) (fun h18 => ?_)
    · skip
      refine g_iconst (v := -1) C dX8_proof_24 rfl (by decide) ?_
      refine g_istore_3 C rfl dX8_proof_25 rfl ?_
      refine g_iconst (v := 0) C dX8_proof_26 rfl (by decide) ?_
      refine g_istore_4 C rfl dX8_proof_27 rfl ?_
      refine lp_X8_proof C S hR nr hnr hT s what (fun v4 v5 => ?_) (2 ^ nr + 1) 0 (Nat.zero_le _) (by omega) _
      refine g_iload_3 C dX8_proof_112 rfl ?_
      refine g_if_lt (tgt := 121) C dX8_proof_113 rfl (by decide) (fun h113 => ?_) (fun h113 => ?_)
      · skip
        refine g_iload_3 C dX8_proof_121 rfl ?_
        refine g_goto (tgt := 129) C dX8_proof_122 (by decide) ?_
        exact g_iret C rfl dX8_proof_129 ⟨by unfold prV; rw [if_pos (nf_t (fun q => h5 ((bI_0 _).mpr q)))]; rw [if_pos (nf_t (fun q => h18 ((bI_0 _).mpr q)))]; rw [bst_none (by omega) h113]; rfl, rfl⟩
      · skip
        refine g_iload_2 C dX8_proof_116 rfl ?_
        refine g_iconst (v := 1) C dX8_proof_117 rfl (by decide) ?_
        refine g_icmp_ne (tgt := 125) C dX8_proof_118 rfl (by decide) (fun h118 => ?_) (fun h118 => ?_)
        · skip
          refine g_iload_3 C dX8_proof_125 rfl ?_
          refine g_cS1i C dX8_proof_126 rfl ml_X8_201 mz_X8_bits (ok_X8_bits _ _) (by decide) rfl rfl (Nat.le_of_ble_eq_true rfl) (fun hn126 => ?_)
          exact g_iret C rfl dX8_proof_129 ⟨by unfold prV; rw [if_pos (nf_t (fun q => h5 ((bI_0 _).mpr q)))]; rw [if_pos (nf_t (fun q => h18 ((bI_0 _).mpr q)))]; obtain ⟨b, hb⟩ := bst_some (by omega) h113; rw [hb, decide_eq_false h118]; rfl, rfl⟩
        · skip
          refine g_iload_3 C dX8_proof_121 rfl ?_
          refine g_goto (tgt := 129) C dX8_proof_122 (by decide) ?_
          exact g_iret C rfl dX8_proof_129 ⟨by unfold prV; rw [if_pos (nf_t (fun q => h5 ((bI_0 _).mpr q)))]; rw [if_pos (nf_t (fun q => h18 ((bI_0 _).mpr q)))]; obtain ⟨b, hb⟩ := bst_some (by omega) h113; rw [hb, decide_eq_true h118]; rfl, rfl⟩
    · skip
      refine g_ldc C dX8_proof_21 rfl kc_X8_82 ?_
      exact g_iret C rfl dX8_proof_23 ⟨by unfold prV; rw [if_pos (nf_t (fun q => h5 ((bI_0 _).mpr q)))]; rw [if_neg (by rw [(bI_0 _).mp h18]; decide)], rfl⟩
  · skip
    refine g_ldc C dX8_proof_8 rfl kc_X8_165 ?_
    exact g_iret C rfl dX8_proof_10 ⟨by unfold prV; rw [if_neg (by rw [(bI_0 _).mp h5]; decide)], rfl⟩

noncomputable def baP (S : Mem) (nr : Nat) (s : Int32) (k : Nat) : Bool := decide (nI k &&& mA S 29 2 = 0) && !hasB (clo nr (mA S 27) (mA S 28) ((alw (nI nr) (mA S 29 2)) &&& (nI k ^^^ (-1))) (mA S 29 0)) s
noncomputable def baV (S : Mem) (nr : Nat) (s : Int32) : Int32 := if sayB (mI S 25 0) s = true then oI (bstF (baP S nr s) cw (2 ^ nr)) else -1000000001
set_option maxHeartbeats 4000000 in
set_option maxRecDepth 20000 in
theorem lp_X8_barred {κ : Kx} {Φ : Option Value → Mem → Prop} (C : Cx RX8 cX8_barred 5 (some .int) 2 false Φ κ) (S : Mem) (hR : Rs S) (nr : Nat) (hnr : mI S 25 1 = nI nr) (hT : Tn nr (mA S 27)) (s : Int32) (hΦ : Φ (some (.int (oI (bstF (baP S nr s) cw (2 ^ nr))))) S) : ∀ (n k : Nat), k ≤ 2 ^ nr → 2 ^ nr + 1 ≤ k + n → ∀ v4 : Value, G κ 0 0 S 15 [.ref 25, .int s, .int (oI (bstF (baP S nr s) cw k)), .int (nI k), v4] [] := by
  have h10 := pw10 hT.1
  intro n
  induction n with
  | zero => intro k h1 h2; exact absurd h2 (by omega)
  | succ n ih =>
    intro k hk1 hk2 v4
    refine g_iload_3 C dX8_barred_15 rfl ?_
    refine g_iconst (v := 1) C dX8_barred_16 rfl (by decide) ?_
    refine g_aload_0 C dX8_barred_17 rfl ?_
    refine g_geti C 1 dX8_barred_18 rfl rfl rfl fl_X8_77 ?_
    rw [hnr]
    refine g_ishl C dX8_barred_21 rfl ?_
    rw [show (1 : Int32) <<< (nI nr &&& 31) = nI (2 ^ nr) from pw_nI nr (by have := hT.1; omega)]
    refine g_icmp_ge (tgt := 100) C dX8_barred_22 rfl (by decide) (fun h22 => ?_) (fun h22 => ?_)
    · skip
      have hk : k = 2 ^ nr := by have := n_ge (b := 2 ^ nr) h22 (by omega) (by omega); omega
      rw [hk]
      refine g_iload_2 C dX8_barred_100 rfl ?_
      exact g_iret C rfl dX8_barred_101 hΦ
    · skip
      refine g_iload_3 C dX8_barred_25 rfl ?_
      refine g_aload_0 C dX8_barred_26 rfl ?_
      refine g_getr C 5 dX8_barred_27 rfl rfl rfl fl_X8_19 (hR 25 5 29 rfl) ?_
      refine g_iconst (v := 2) C dX8_barred_30 rfl (by decide) ?_
      refine g_iald C dX8_barred_31 rfl rfl (n_in (k := 2) (N := 4) (by decide) (by decide)) ?_
      rw [show (mA S 29 (Int32.toNatClampNeg 2)) = mA S 29 2 from rfl]
      refine g_iand C dX8_barred_32 rfl ?_
      refine g_if_ne (tgt := 55) C dX8_barred_33 rfl (by decide) (fun h33 => ?_) (fun h33 => ?_)
      · skip
        refine g_iconst (v := 0) C dX8_barred_55 rfl (by decide) ?_
        refine g_istore_4 C rfl dX8_barred_56 rfl ?_
        refine g_iload_4 C dX8_barred_58 rfl ?_
        refine g_if_eq (tgt := 92) C dX8_barred_60 rfl (by decide) (fun h60 => ?_) (fun h60 => absurd rfl h60)
        refine g_iload_2 C dX8_barred_92 rfl ?_
        refine g_istore_2 C rfl dX8_barred_93 rfl ?_
        refine g_iinc_3 (z := 1) C rfl dX8_barred_94 rfl (by decide) ?_
        refine g_goto (tgt := 15) C dX8_barred_97 (by decide) ?_
        have hk : k < 2 ^ nr := n_lt (b := 2 ^ nr) h22 (by omega) (by omega)
        rw [nI_1]
        have e := bstF_s0 (P := (baP S nr s)) (wt := cw) (show baP S nr s k = false by unfold baP; rw [decide_eq_false h33]; rfl)
        have := ih (k + 1) (by omega) (by omega)
        rw [e] at this
        exact this _
      · skip
        refine g_iload_2 C dX8_barred_36 rfl ?_
        refine g_if_lt (tgt := 51) C dX8_barred_37 rfl (by decide) (fun h37 => ?_) (fun h37 => ?_)
        · skip
          refine g_iconst (v := 1) C dX8_barred_51 rfl (by decide) ?_
          refine g_goto (tgt := 56) C dX8_barred_52 (by decide) ?_
          refine g_istore_4 C rfl dX8_barred_56 rfl ?_
          refine g_iload_4 C dX8_barred_58 rfl ?_
          refine g_if_eq (tgt := 92) C dX8_barred_60 rfl (by decide) (fun h60 => absurd h60 (by decide)) (fun h60 => ?_)
          refine g_aload_0 C dX8_barred_63 rfl ?_
          refine g_aload_0 C dX8_barred_64 rfl ?_
          refine g_getr C 5 dX8_barred_65 rfl rfl rfl fl_X8_19 (hR 25 5 29 rfl) ?_
          refine g_iconst (v := 0) C dX8_barred_68 rfl (by decide) ?_
          refine g_iald C dX8_barred_69 rfl rfl (n_in (k := 0) (N := 4) (by decide) (by decide)) ?_
          rw [show (mA S 29 (Int32.toNatClampNeg 0)) = mA S 29 0 from rfl]
          refine g_aload_0 C dX8_barred_70 rfl ?_
          refine g_cV0i C dX8_barred_71 rfl ml_X8_149 mz_X8_allowed (ok_X8_allowed S hR) (by decide) rfl rfl rfl rfl (Nat.le_of_ble_eq_true rfl) (fun hn71 => ?_)
          rw [hnr]
          refine g_iload_3 C dX8_barred_74 rfl ?_
          refine g_iconst (v := -1) C dX8_barred_75 rfl (by decide) ?_
          refine g_ixor C dX8_barred_76 rfl ?_
          refine g_iand C dX8_barred_77 rfl ?_
          refine g_cV2i C dX8_barred_78 rfl ml_X8_152 mz_X8_close (ok_X8_close _ _ S hR nr hnr hT) (by decide) rfl rfl rfl rfl (Nat.le_of_ble_eq_true rfl) (fun hn78 => ?_)
          refine g_iload_1 C dX8_barred_81 rfl ?_
          refine g_cS2i C dX8_barred_82 rfl ml_X8_114 mz_X8_has (ok_X8_has _ _ _) (by decide) rfl rfl (Nat.le_of_ble_eq_true rfl) (fun hn82 => ?_)
          refine g_if_ne (tgt := 92) C dX8_barred_85 rfl (by decide) (fun h85 => ?_) (fun h85 => ?_)
          · skip
            refine g_iload_2 C dX8_barred_92 rfl ?_
            refine g_istore_2 C rfl dX8_barred_93 rfl ?_
            refine g_iinc_3 (z := 1) C rfl dX8_barred_94 rfl (by decide) ?_
            refine g_goto (tgt := 15) C dX8_barred_97 (by decide) ?_
            have hk : k < 2 ^ nr := n_lt (b := 2 ^ nr) h22 (by omega) (by omega)
            rw [nI_1]
            have e := bstF_s0 (P := (baP S nr s)) (wt := cw) (show baP S nr s k = false by unfold baP; rw [nf_t (fun q => h85 ((bI_0 _).mpr q))]; exact Bool.and_false _)
            have := ih (k + 1) (by omega) (by omega)
            rw [e] at this
            exact this _
          · skip
            refine g_iload_3 C dX8_barred_88 rfl ?_
            refine g_goto (tgt := 93) C dX8_barred_89 (by decide) ?_
            refine g_istore_2 C rfl dX8_barred_93 rfl ?_
            refine g_iinc_3 (z := 1) C rfl dX8_barred_94 rfl (by decide) ?_
            refine g_goto (tgt := 15) C dX8_barred_97 (by decide) ?_
            have hk : k < 2 ^ nr := n_lt (b := 2 ^ nr) h22 (by omega) (by omega)
            rw [nI_1]
            have hb := bst_none (by omega) h37
            have hp : baP S nr s k = true := by unfold baP; rw [decide_eq_true h33, (bI_0 _).mp h85]; rfl
            have e := bstF_sn hp hb
            have := ih (k + 1) (by omega) (by omega)
            rw [e] at this
            exact this _
        · skip
          refine g_iload_3 C dX8_barred_40 rfl ?_
          refine g_cS1i C dX8_barred_41 rfl ml_X8_201 mz_X8_bits (ok_X8_bits _ _) (by decide) rfl rfl (Nat.le_of_ble_eq_true rfl) (fun hn41 => ?_)
          refine g_iload_2 C dX8_barred_44 rfl ?_
          refine g_cS1i C dX8_barred_45 rfl ml_X8_201 mz_X8_bits (ok_X8_bits _ _) (by decide) rfl rfl (Nat.le_of_ble_eq_true rfl) (fun hn45 => ?_)
          refine g_icmp_ge (tgt := 55) C dX8_barred_48 rfl (by decide) (fun h48 => ?_) (fun h48 => ?_)
          · skip
            refine g_iconst (v := 0) C dX8_barred_55 rfl (by decide) ?_
            refine g_istore_4 C rfl dX8_barred_56 rfl ?_
            refine g_iload_4 C dX8_barred_58 rfl ?_
            refine g_if_eq (tgt := 92) C dX8_barred_60 rfl (by decide) (fun h60 => ?_) (fun h60 => absurd rfl h60)
            refine g_iload_2 C dX8_barred_92 rfl ?_
            refine g_istore_2 C rfl dX8_barred_93 rfl ?_
            refine g_iinc_3 (z := 1) C rfl dX8_barred_94 rfl (by decide) ?_
            refine g_goto (tgt := 15) C dX8_barred_97 (by decide) ?_
            have hk : k < 2 ^ nr := n_lt (b := 2 ^ nr) h22 (by omega) (by omega)
            rw [nI_1]
            obtain ⟨b, hb⟩ := bst_some (by omega) h37
            have hw : cw b ≤ cw k := by have h := h48; rw [hb] at h; exact h
            have e := bstF_sg (P := (baP S nr s)) (wt := cw) hb (i_not_lt hw)
            have := ih (k + 1) (by omega) (by omega)
            rw [e, ← hb] at this
            exact this _
          · skip
            refine g_iconst (v := 1) C dX8_barred_51 rfl (by decide) ?_
            refine g_goto (tgt := 56) C dX8_barred_52 (by decide) ?_
            refine g_istore_4 C rfl dX8_barred_56 rfl ?_
            refine g_iload_4 C dX8_barred_58 rfl ?_
            refine g_if_eq (tgt := 92) C dX8_barred_60 rfl (by decide) (fun h60 => absurd h60 (by decide)) (fun h60 => ?_)
            refine g_aload_0 C dX8_barred_63 rfl ?_
            refine g_aload_0 C dX8_barred_64 rfl ?_
            refine g_getr C 5 dX8_barred_65 rfl rfl rfl fl_X8_19 (hR 25 5 29 rfl) ?_
            refine g_iconst (v := 0) C dX8_barred_68 rfl (by decide) ?_
            refine g_iald C dX8_barred_69 rfl rfl (n_in (k := 0) (N := 4) (by decide) (by decide)) ?_
            rw [show (mA S 29 (Int32.toNatClampNeg 0)) = mA S 29 0 from rfl]
            refine g_aload_0 C dX8_barred_70 rfl ?_
            refine g_cV0i C dX8_barred_71 rfl ml_X8_149 mz_X8_allowed (ok_X8_allowed S hR) (by decide) rfl rfl rfl rfl (Nat.le_of_ble_eq_true rfl) (fun hn71 => ?_)
            rw [hnr]
            refine g_iload_3 C dX8_barred_74 rfl ?_
            refine g_iconst (v := -1) C dX8_barred_75 rfl (by decide) ?_
            refine g_ixor C dX8_barred_76 rfl ?_
            refine g_iand C dX8_barred_77 rfl ?_
            refine g_cV2i C dX8_barred_78 rfl ml_X8_152 mz_X8_close (ok_X8_close _ _ S hR nr hnr hT) (by decide) rfl rfl rfl rfl (Nat.le_of_ble_eq_true rfl) (fun hn78 => ?_)
            refine g_iload_1 C dX8_barred_81 rfl ?_
            refine g_cS2i C dX8_barred_82 rfl ml_X8_114 mz_X8_has (ok_X8_has _ _ _) (by decide) rfl rfl (Nat.le_of_ble_eq_true rfl) (fun hn82 => ?_)
            refine g_if_ne (tgt := 92) C dX8_barred_85 rfl (by decide) (fun h85 => ?_) (fun h85 => ?_)
            · skip
              refine g_iload_2 C dX8_barred_92 rfl ?_
              refine g_istore_2 C rfl dX8_barred_93 rfl ?_
              refine g_iinc_3 (z := 1) C rfl dX8_barred_94 rfl (by decide) ?_
              refine g_goto (tgt := 15) C dX8_barred_97 (by decide) ?_
              have hk : k < 2 ^ nr := n_lt (b := 2 ^ nr) h22 (by omega) (by omega)
              rw [nI_1]
              have e := bstF_s0 (P := (baP S nr s)) (wt := cw) (show baP S nr s k = false by unfold baP; rw [nf_t (fun q => h85 ((bI_0 _).mpr q))]; exact Bool.and_false _)
              have := ih (k + 1) (by omega) (by omega)
              rw [e] at this
              exact this _
            · skip
              refine g_iload_3 C dX8_barred_88 rfl ?_
              refine g_goto (tgt := 93) C dX8_barred_89 (by decide) ?_
              refine g_istore_2 C rfl dX8_barred_93 rfl ?_
              refine g_iinc_3 (z := 1) C rfl dX8_barred_94 rfl (by decide) ?_
              refine g_goto (tgt := 15) C dX8_barred_97 (by decide) ?_
              have hk : k < 2 ^ nr := n_lt (b := 2 ^ nr) h22 (by omega) (by omega)
              rw [nI_1]
              obtain ⟨b, hb⟩ := bst_some (by omega) h37
              have hp : baP S nr s k = true := by unfold baP; rw [decide_eq_true h33, (bI_0 _).mp h85]; rfl
              have hw : cw k < cw b := by have h := i_not_le h48; rw [hb] at h; exact h
              have e := bstF_sl hp hb hw
              have := ih (k + 1) (by omega) (by omega)
              rw [e] at this
              exact this _

set_option maxHeartbeats 4000000 in
set_option maxRecDepth 20000 in
theorem ok_X8_barred (s : Int32) (S : Mem) (hR : Rs S) (nr : Nat) (hnr : mI S 25 1 = nI nr) (hT : Tn nr (mA S 27)) : Ok yX8_barred cX8_barred 5 (some .int) 2 0 0 [.ref 25, .int s] S (RI (baV S nr s) S) := by
  refine Ok.of (by decide) (Nat.le_of_ble_eq_true rfl) rfl (fun κ C hx => ?_)
  have C : Cx RX8 cX8_barred 5 (some .int) 2 false _ κ := C
  refine g_aload_0 C dX8_barred_0 rfl ?_
  refine g_iload_1 C dX8_barred_1 rfl ?_
  refine g_cV1i C dX8_barred_2 rfl ml_X8_166 mz_X8_isSaying (ok_X8_isSaying _ S) (by decide) rfl rfl rfl rfl (Nat.le_of_ble_eq_true rfl) (fun hn2 => ?_)
  refine g_if_ne (tgt := 11) C dX8_barred_5 rfl (by decide) (fun h5 => ?_) (fun h5 => ?_)
  · skip
    refine g_iconst (v := -1) C dX8_barred_11 rfl (by decide) ?_
    refine g_istore_2 C rfl dX8_barred_12 rfl ?_
    refine g_iconst (v := 0) C dX8_barred_13 rfl (by decide) ?_
    refine g_istore_3 C rfl dX8_barred_14 rfl ?_
    exact lp_X8_barred C S hR nr hnr hT s ⟨by unfold baV; rw [if_pos (nf_t (fun q => h5 ((bI_0 _).mpr q)))], rfl⟩ (2 ^ nr + 1) 0 (Nat.zero_le _) (by omega) _
  · skip
    refine g_ldc C dX8_barred_8 rfl kc_X8_165 ?_
    exact g_iret C rfl dX8_barred_10 ⟨by unfold baV; rw [if_neg (by rw [(bI_0 _).mp h5]; decide)], rfl⟩

