theorem one_df (k : Int32) : (1 : Int32) <<< (k &&& 31) = one k := rfl
def Cs (nr : Nat) (co : Nat → Int32) : Prop := ∀ r, r < nr → ∃ c, c ≤ 99 ∧ co r = nI c
theorem cst_small {nr : Nat} {co : Nat → Int32} (h : Cs nr co) (x : Int32) : ∀ r, r ≤ nr → ∃ c, c ≤ 99 * r ∧ cstF co x r = nI c
  | 0, _ => ⟨0, Nat.le_refl 0, rfl⟩
  | r + 1, hr => by
    obtain ⟨c, hc, e⟩ := cst_small h x r (by omega)
    obtain ⟨c2, hc2, e2⟩ := h r (by omega)
    by_cases hb : hasB x (nI r) = true
    · refine ⟨c + c2, by omega, ?_⟩
      show cstF co x r + (if hasB x (nI r) = true then co r else 0) = _
      rw [if_pos hb, e, e2, nI_add]
    · refine ⟨c, by omega, ?_⟩
      show cstF co x r + (if hasB x (nI r) = true then co r else 0) = _
      rw [if_neg hb, e]
      show nI c + nI 0 = nI c
      rw [nI_add, Nat.add_zero]
noncomputable def guP (S : Mem) (nr k : Nat) : Bool := decide (nI k &&& mA S 29 2 = 0) && decide (qrF (clo nr (mA S 27) (mA S 28) ((alw (nI nr) (mA S 29 2)) &&& (nI k ^^^ (-1))) (mA S 29 0)) 8 = 0)
def guW (S : Mem) (nr k : Nat) : Int32 := cstF (mA S 26) (nI k) nr
def lstI (o : Option Nat) (f : Nat → Int32) : Int32 := match o with | none => 100000 | some b => f b
noncomputable def guV (S : Mem) (nr : Nat) (what : Int32) : Int32 := if inI what 0 1 = true then selV (bstF (guP S nr) (guW S nr) (2 ^ nr)) (decide (what = 0)) (guW S nr) else -1000000002
theorem guW_small {S : Mem} {nr : Nat} (h10 : nr ≤ 10) (hC : Cs nr (mA S 26)) (k : Nat) : ¬ (100000 : Int32) ≤ guW S nr k := by
  obtain ⟨c, hc, e⟩ := cst_small hC (nI k) nr (Nat.le_refl nr)
  unfold guW
  rw [e]
  exact nI_ge (b := 100000) (by omega) (by decide)
set_option maxHeartbeats 4000000 in
set_option maxRecDepth 20000 in
theorem lp_X8_giveUp {κ : Kx} {Φ : Option Value → Mem → Prop} (C : Cx RX8 cX8_giveUp 6 (some .int) 2 false Φ κ) (S : Mem) (hR : Rs S) (nr : Nat) (hnr : mI S 25 1 = nI nr) (hT : Tn nr (mA S 27)) (hC : Cs nr (mA S 26)) (what : Int32) (K : ∀ v4 v5 : Value, G κ 0 0 S 107 [.ref 25, .int what, .int (oI (bstF (guP S nr) (guW S nr) (2 ^ nr))), .int (lstI (bstF (guP S nr) (guW S nr) (2 ^ nr)) (guW S nr)), v4, v5] []) : ∀ (n k : Nat), k ≤ 2 ^ nr → 2 ^ nr + 1 ≤ k + n → ∀ v5 : Value, G κ 0 0 S 21 [.ref 25, .int what, .int (oI (bstF (guP S nr) (guW S nr) k)), .int (lstI (bstF (guP S nr) (guW S nr) k) (guW S nr)), .int (nI k), v5] [] := by
  have h10 := pw10 hT.1
  intro n
  induction n with
  | zero => intro k h1 h2; exact absurd h2 (by omega)
  | succ n ih =>
    intro k hk1 hk2 v5
    refine g_iload_4 C dX8_giveUp_21 rfl ?_
    refine g_iconst (v := 1) C dX8_giveUp_23 rfl (by decide) ?_
    refine g_aload_0 C dX8_giveUp_24 rfl ?_
    refine g_geti C 1 dX8_giveUp_25 rfl rfl rfl fl_X8_77 ?_
    rw [hnr]
    refine g_ishl C dX8_giveUp_28 rfl ?_
    rw [show (1 : Int32) <<< (nI nr &&& 31) = nI (2 ^ nr) from pw_nI nr (by have := hT.1; omega)]
    refine g_icmp_ge (tgt := 107) C dX8_giveUp_29 rfl (by decide) (fun h29 => ?_) (fun h29 => ?_)
    · skip
      have hk : k = 2 ^ nr := by have := n_ge (b := 2 ^ nr) h29 (by omega) (by omega); omega
      rw [hk]
      exact K _ _
    · skip
      refine g_iload_4 C dX8_giveUp_32 rfl ?_
      refine g_aload_0 C dX8_giveUp_34 rfl ?_
      refine g_getr C 5 dX8_giveUp_35 rfl rfl rfl fl_X8_19 (hR 25 5 29 rfl) ?_
      refine g_iconst (v := 2) C dX8_giveUp_38 rfl (by decide) ?_
      refine g_iald C dX8_giveUp_39 rfl rfl (n_in (k := 2) (N := 4) (by decide) (by decide)) ?_
      rw [show (mA S 29 (Int32.toNatClampNeg 2)) = mA S 29 2 from rfl]
      refine g_iand C dX8_giveUp_40 rfl ?_
      refine g_if_ne (tgt := 58) C dX8_giveUp_41 rfl (by decide) (fun h41 => ?_) (fun h41 => ?_)
      · skip
        refine g_iconst (v := 0) C dX8_giveUp_58 rfl (by decide) ?_
        refine g_istore_5 C rfl dX8_giveUp_59 rfl ?_
        refine g_iload_5 C dX8_giveUp_61 rfl ?_
        refine g_if_eq (tgt := 101) C dX8_giveUp_63 rfl (by decide) (fun h63 => ?_) (fun h63 => absurd rfl h63)
        refine g_iinc_4 (z := 1) C rfl dX8_giveUp_101 rfl (by decide) ?_
        refine g_goto (tgt := 21) C dX8_giveUp_104 (by decide) ?_
        have hk : k < 2 ^ nr := n_lt (b := 2 ^ nr) h29 (by omega) (by omega)
        rw [nI_1]
        have e := bstF_s0 (P := guP S nr) (wt := guW S nr) (show guP S nr k = false by unfold guP; rw [decide_eq_false h41]; rfl)
        have := ih (k + 1) (by omega) (by omega)
        rw [e] at this
        exact this _
      · skip
        refine g_aload_0 C dX8_giveUp_44 rfl ?_
        refine g_iload_4 C dX8_giveUp_45 rfl ?_
        refine g_cV1i C dX8_giveUp_47 rfl ml_X8_205 mz_X8_costOf (ok_X8_costOf _ S hR nr hnr hT.1) (by decide) rfl rfl rfl rfl (Nat.le_of_ble_eq_true rfl) (fun hn47 => ?_)
        refine g_iload_3 C dX8_giveUp_50 rfl ?_
        refine g_icmp_ge (tgt := 58) C dX8_giveUp_51 rfl (by decide) (fun h51 => ?_) (fun h51 => ?_)
        · skip
          refine g_iconst (v := 0) C dX8_giveUp_58 rfl (by decide) ?_
          refine g_istore_5 C rfl dX8_giveUp_59 rfl ?_
          refine g_iload_5 C dX8_giveUp_61 rfl ?_
          refine g_if_eq (tgt := 101) C dX8_giveUp_63 rfl (by decide) (fun h63 => ?_) (fun h63 => absurd rfl h63)
          refine g_iinc_4 (z := 1) C rfl dX8_giveUp_101 rfl (by decide) ?_
          refine g_goto (tgt := 21) C dX8_giveUp_104 (by decide) ?_
          have hk : k < 2 ^ nr := n_lt (b := 2 ^ nr) h29 (by omega) (by omega)
          rw [nI_1]
          cases hb : bstF (guP S nr) (guW S nr) k with
          | none =>
            rw [hb] at h51
            exact absurd h51 (guW_small hT.1 hC k)
          | some b =>
            have hw : guW S nr b ≤ guW S nr k := by have h := h51; rw [hb] at h; exact h
            have e := bstF_sg (P := guP S nr) (wt := guW S nr) hb (i_not_lt hw)
            have := ih (k + 1) (by omega) (by omega)
            rw [e] at this
            exact this _
        · skip
          refine g_iconst (v := 1) C dX8_giveUp_54 rfl (by decide) ?_
          refine g_goto (tgt := 59) C dX8_giveUp_55 (by decide) ?_
          refine g_istore_5 C rfl dX8_giveUp_59 rfl ?_
          refine g_iload_5 C dX8_giveUp_61 rfl ?_
          refine g_if_eq (tgt := 101) C dX8_giveUp_63 rfl (by decide) (fun h63 => absurd h63 (by decide)) (fun h63 => ?_)
          refine g_aload_0 C dX8_giveUp_66 rfl ?_
          refine g_aload_0 C dX8_giveUp_67 rfl ?_
          refine g_getr C 5 dX8_giveUp_68 rfl rfl rfl fl_X8_19 (hR 25 5 29 rfl) ?_
          refine g_iconst (v := 0) C dX8_giveUp_71 rfl (by decide) ?_
          refine g_iald C dX8_giveUp_72 rfl rfl (n_in (k := 0) (N := 4) (by decide) (by decide)) ?_
          rw [show (mA S 29 (Int32.toNatClampNeg 0)) = mA S 29 0 from rfl]
          refine g_aload_0 C dX8_giveUp_73 rfl ?_
          refine g_cV0i C dX8_giveUp_74 rfl ml_X8_149 mz_X8_allowed (ok_X8_allowed S hR) (by decide) rfl rfl rfl rfl (Nat.le_of_ble_eq_true rfl) (fun hn74 => ?_)
          rw [hnr]
          refine g_iload_4 C dX8_giveUp_77 rfl ?_
          refine g_iconst (v := -1) C dX8_giveUp_79 rfl (by decide) ?_
          refine g_ixor C dX8_giveUp_80 rfl ?_
          refine g_iand C dX8_giveUp_81 rfl ?_
          refine g_cV2i C dX8_giveUp_82 rfl ml_X8_152 mz_X8_close (ok_X8_close _ _ S hR nr hnr hT) (by decide) rfl rfl rfl rfl (Nat.le_of_ble_eq_true rfl) (fun hn82 => ?_)
          refine g_cS1i C dX8_giveUp_85 rfl ml_X8_158 mz_X8_quarrels (ok_X8_quarrels _ _) (by decide) rfl rfl (Nat.le_of_ble_eq_true rfl) (fun hn85 => ?_)
          refine g_if_ne (tgt := 101) C dX8_giveUp_88 rfl (by decide) (fun h88 => ?_) (fun h88 => ?_)
          · skip
            refine g_iinc_4 (z := 1) C rfl dX8_giveUp_101 rfl (by decide) ?_
            refine g_goto (tgt := 21) C dX8_giveUp_104 (by decide) ?_
            have hk : k < 2 ^ nr := n_lt (b := 2 ^ nr) h29 (by omega) (by omega)
            rw [nI_1]
            have e := bstF_s0 (P := guP S nr) (wt := guW S nr) (show guP S nr k = false by unfold guP; rw [decide_eq_false h88]; exact Bool.and_false _)
            have := ih (k + 1) (by omega) (by omega)
            rw [e] at this
            exact this _
          · skip
            refine g_iload_4 C dX8_giveUp_91 rfl ?_
            refine g_istore_2 C rfl dX8_giveUp_93 rfl ?_
            refine g_aload_0 C dX8_giveUp_94 rfl ?_
            refine g_iload_4 C dX8_giveUp_95 rfl ?_
            refine g_cV1i C dX8_giveUp_97 rfl ml_X8_205 mz_X8_costOf (ok_X8_costOf _ S hR nr hnr hT.1) (by decide) rfl rfl rfl rfl (Nat.le_of_ble_eq_true rfl) (fun hn97 => ?_)
            refine g_istore_3 C rfl dX8_giveUp_100 rfl ?_
            refine g_iinc_4 (z := 1) C rfl dX8_giveUp_101 rfl (by decide) ?_
            refine g_goto (tgt := 21) C dX8_giveUp_104 (by decide) ?_
            have hk : k < 2 ^ nr := n_lt (b := 2 ^ nr) h29 (by omega) (by omega)
            rw [nI_1]
            have hp : guP S nr k = true := by unfold guP; rw [decide_eq_true h41, decide_eq_true h88]; rfl
            have e : bstF (guP S nr) (guW S nr) (k + 1) = some k := by
              cases hb : bstF (guP S nr) (guW S nr) k with
              | none => exact bstF_sn hp hb
              | some b =>
                have hw : guW S nr k < guW S nr b := by have h := i_not_le h51; rw [hb] at h; exact h
                exact bstF_sl hp hb hw
            have := ih (k + 1) (by omega) (by omega)
            rw [e] at this
            exact this _

set_option maxHeartbeats 4000000 in
set_option maxRecDepth 20000 in
theorem ok_X8_giveUp (what : Int32) (S : Mem) (hR : Rs S) (nr : Nat) (hnr : mI S 25 1 = nI nr) (hT : Tn nr (mA S 27)) (hC : Cs nr (mA S 26)) : Ok yX8_giveUp cX8_giveUp 6 (some .int) 2 0 0 [.ref 25, .int what] S (RI (guV S nr what) S) := by
  have h10 := pw10 hT.1
  refine Ok.of (by decide) (Nat.le_of_ble_eq_true rfl) rfl (fun κ C hx => ?_)
  have C : Cx RX8 cX8_giveUp 6 (some .int) 2 false _ κ := C
  refine g_iload_1 C dX8_giveUp_0 rfl ?_
  refine g_i2l C dX8_giveUp_1 rfl ?_
  refine g_lconst (v := 0) C dX8_giveUp_2 rfl (by decide) ?_
  refine g_lconst (v := 1) C dX8_giveUp_3 rfl (by decide) ?_
  refine g_cS3i C dX8_giveUp_4 rfl ml_X8_73 mz_X8_in (ok_X8_in _ _ _ _) (by decide) rfl rfl (Nat.le_of_ble_eq_true rfl) (fun hn4 => ?_)
  rw [show inL what.toInt64 0 1 = inI what 0 1 from inL_32 what 0 1]
  refine g_if_ne (tgt := 13) C dX8_giveUp_7 rfl (by decide) (fun h7 => ?_) (fun h7 => ?_)
  · skip
    refine g_iconst (v := -1) C dX8_giveUp_13 rfl (by decide) ?_
    refine g_istore_2 C rfl dX8_giveUp_14 rfl ?_
    refine g_ldc C dX8_giveUp_15 rfl kc_X8_204 ?_
    refine g_istore_3 C rfl dX8_giveUp_17 rfl ?_
    refine g_iconst (v := 0) C dX8_giveUp_18 rfl (by decide) ?_
    refine g_istore_4 C rfl dX8_giveUp_19 rfl ?_
    refine lp_X8_giveUp C S hR nr hnr hT hC what (fun v4 v5 => ?_) (2 ^ nr + 1) 0 (Nat.zero_le _) (by omega) _
    refine g_iload_2 C dX8_giveUp_107 rfl ?_
    refine g_if_lt (tgt := 115) C dX8_giveUp_108 rfl (by decide) (fun h108 => ?_) (fun h108 => ?_)
    · skip
      refine g_iload_2 C dX8_giveUp_115 rfl ?_
      refine g_goto (tgt := 120) C dX8_giveUp_116 (by decide) ?_
      exact g_iret C rfl dX8_giveUp_120 ⟨by unfold guV; rw [if_pos (nf_t (fun q => h7 ((bI_0 _).mpr q)))]; rw [bst_none (by omega) h108]; rfl, rfl⟩
    · skip
      refine g_iload_1 C dX8_giveUp_111 rfl ?_
      refine g_if_ne (tgt := 119) C dX8_giveUp_112 rfl (by decide) (fun h112 => ?_) (fun h112 => ?_)
      · skip
        refine g_iload_3 C dX8_giveUp_119 rfl ?_
        exact g_iret C rfl dX8_giveUp_120 ⟨by unfold guV; rw [if_pos (nf_t (fun q => h7 ((bI_0 _).mpr q)))]; obtain ⟨b, hb⟩ := bst_some (by omega) h108; rw [hb, decide_eq_false h112]; rfl, rfl⟩
      · skip
        refine g_iload_2 C dX8_giveUp_115 rfl ?_
        refine g_goto (tgt := 120) C dX8_giveUp_116 (by decide) ?_
        exact g_iret C rfl dX8_giveUp_120 ⟨by unfold guV; rw [if_pos (nf_t (fun q => h7 ((bI_0 _).mpr q)))]; obtain ⟨b, hb⟩ := bst_some (by omega) h108; rw [hb, decide_eq_true h112]; rfl, rfl⟩
  · skip
    refine g_ldc C dX8_giveUp_10 rfl kc_X8_82 ?_
    exact g_iret C rfl dX8_giveUp_12 ⟨by unfold guV; rw [if_neg (by rw [(bI_0 _).mp h7]; decide)], rfl⟩

noncomputable def woP (S : Mem) (nr : Nat) (s : Int32) (k : Nat) : Bool := decide (nI k &&& (one s ||| one (denI s)) = 0) && (decide (cw k < 4) && dwB S nr (nI k) s)
noncomputable def woV (S : Mem) (nr th : Nat) (s : Int32) : Int32 := if sayB (mI S 25 0) s = true then oI (bstF (woP S nr s) cw (2 ^ (2 * th))) else -1000000001
set_option maxHeartbeats 4000000 in
set_option maxRecDepth 20000 in
theorem lp_X8_words {κ : Kx} {Φ : Option Value → Mem → Prop} (C : Cx RX8 cX8_words 7 (some .int) 3 false Φ κ) (S : Mem) (hR : Rs S) (nr : Nat) (hnr : mI S 25 1 = nI nr) (hT : Tn nr (mA S 27)) (th : Nat) (hth : mI S 25 0 = nI th) (h8 : th ≤ 8) (s : Int32) (hΦ : Φ (some (.int (oI (bstF (woP S nr s) cw (2 ^ (2 * th)))))) S) : ∀ (n k : Nat), k ≤ 2 ^ (2 * th) → 2 ^ (2 * th) + 1 ≤ k + n → ∀ v5 v6 : Value, G κ 0 0 S 27 [.ref 25, .int s, .int (one s ||| one (denI s)), .int (oI (bstF (woP S nr s) cw k)), .int (nI k), v5, v6] [] := by
  have h10 := pw16 h8
  intro n
  induction n with
  | zero => intro k h1 h2; exact absurd h2 (by omega)
  | succ n ih =>
    intro k hk1 hk2 v5 v6
    refine g_iload_4 C dX8_words_27 rfl ?_
    refine g_iconst (v := 1) C dX8_words_29 rfl (by decide) ?_
    refine g_iconst (v := 2) C dX8_words_30 rfl (by decide) ?_
    refine g_aload_0 C dX8_words_31 rfl ?_
    refine g_geti C 0 dX8_words_32 rfl rfl rfl fl_X8_70 ?_
    rw [hth]
    refine g_imul C dX8_words_35 rfl ?_
    refine g_ishl C dX8_words_36 rfl ?_
    rw [show (1 : Int32) <<< ((2 * nI th) &&& 31) = nI (2 ^ (2 * th)) from by rw [two_nI th (by omega)]; exact pw_nI (2 * th) (by omega)]
    refine g_icmp_ge (tgt := 108) C dX8_words_37 rfl (by decide) (fun h37 => ?_) (fun h37 => ?_)
    · skip
      have hk : k = 2 ^ (2 * th) := by have := n_ge (b := 2 ^ (2 * th)) h37 (by omega) (by omega); omega
      rw [hk]
      refine g_iload_3 C dX8_words_108 rfl ?_
      exact g_iret C rfl dX8_words_109 hΦ
    · skip
      refine g_iload_4 C dX8_words_40 rfl ?_
      refine g_cS1i C dX8_words_42 rfl ml_X8_201 mz_X8_bits (ok_X8_bits _ _) (by decide) rfl rfl (Nat.le_of_ble_eq_true rfl) (fun hn42 => ?_)
      refine g_istore_5 C rfl dX8_words_45 rfl ?_
      refine g_iload_4 C dX8_words_47 rfl ?_
      refine g_iload_2 C dX8_words_49 rfl ?_
      refine g_iand C dX8_words_50 rfl ?_
      refine g_if_ne (tgt := 77) C dX8_words_51 rfl (by decide) (fun h51 => ?_) (fun h51 => ?_)
      · skip
        refine g_iconst (v := 0) C dX8_words_77 rfl (by decide) ?_
        refine g_istore_6 C rfl dX8_words_78 rfl ?_
        refine g_iload_6 C dX8_words_80 rfl ?_
        refine g_if_eq (tgt := 100) C dX8_words_82 rfl (by decide) (fun h82 => ?_) (fun h82 => absurd rfl h82)
        refine g_iload_3 C dX8_words_100 rfl ?_
        refine g_istore_3 C rfl dX8_words_101 rfl ?_
        refine g_iinc_4 (z := 1) C rfl dX8_words_102 rfl (by decide) ?_
        refine g_goto (tgt := 27) C dX8_words_105 (by decide) ?_
        have hk : k < 2 ^ (2 * th) := n_lt (b := 2 ^ (2 * th)) h37 (by omega) (by omega)
        rw [nI_1]
        have e := bstF_s0 (P := (woP S nr s)) (wt := cw) (show woP S nr s k = false by unfold woP; rw [decide_eq_false h51]; rfl)
        have := ih (k + 1) (by omega) (by omega)
        rw [e] at this
        exact this _ _
      · skip
        refine g_iload_5 C dX8_words_54 rfl ?_
        refine g_iconst (v := 4) C dX8_words_56 rfl (by decide) ?_
        refine g_icmp_ge (tgt := 77) C dX8_words_57 rfl (by decide) (fun h57 => ?_) (fun h57 => ?_)
        · skip
          refine g_iconst (v := 0) C dX8_words_77 rfl (by decide) ?_
          refine g_istore_6 C rfl dX8_words_78 rfl ?_
          refine g_iload_6 C dX8_words_80 rfl ?_
          refine g_if_eq (tgt := 100) C dX8_words_82 rfl (by decide) (fun h82 => ?_) (fun h82 => absurd rfl h82)
          refine g_iload_3 C dX8_words_100 rfl ?_
          refine g_istore_3 C rfl dX8_words_101 rfl ?_
          refine g_iinc_4 (z := 1) C rfl dX8_words_102 rfl (by decide) ?_
          refine g_goto (tgt := 27) C dX8_words_105 (by decide) ?_
          have hk : k < 2 ^ (2 * th) := n_lt (b := 2 ^ (2 * th)) h37 (by omega) (by omega)
          rw [nI_1]
          have e := bstF_s0 (P := (woP S nr s)) (wt := cw) (show woP S nr s k = false by unfold woP; rw [decide_eq_false (p := cw k < 4) (i_not_lt h57), Bool.false_and, Bool.and_false])
          have := ih (k + 1) (by omega) (by omega)
          rw [e] at this
          exact this _ _
        · skip
          refine g_iload_3 C dX8_words_60 rfl ?_
          refine g_if_lt (tgt := 73) C dX8_words_61 rfl (by decide) (fun h61 => ?_) (fun h61 => ?_)
          · skip
            refine g_iconst (v := 1) C dX8_words_73 rfl (by decide) ?_
            refine g_goto (tgt := 78) C dX8_words_74 (by decide) ?_
            refine g_istore_6 C rfl dX8_words_78 rfl ?_
            refine g_iload_6 C dX8_words_80 rfl ?_
            refine g_if_eq (tgt := 100) C dX8_words_82 rfl (by decide) (fun h82 => absurd h82 (by decide)) (fun h82 => ?_)
            refine g_aload_0 C dX8_words_85 rfl ?_
            refine g_iload_4 C dX8_words_86 rfl ?_
            refine g_iload_1 C dX8_words_88 rfl ?_
            refine g_cV2i C dX8_words_89 rfl ml_X8_208 mz_X8_doWords (ok_X8_doWords _ _ S hR nr hnr hT) (by decide) rfl rfl rfl rfl (Nat.le_of_ble_eq_true rfl) (fun hn89 => ?_)
            refine g_if_eq (tgt := 100) C dX8_words_92 rfl (by decide) (fun h92 => ?_) (fun h92 => ?_)
            · skip
              refine g_iload_3 C dX8_words_100 rfl ?_
              refine g_istore_3 C rfl dX8_words_101 rfl ?_
              refine g_iinc_4 (z := 1) C rfl dX8_words_102 rfl (by decide) ?_
              refine g_goto (tgt := 27) C dX8_words_105 (by decide) ?_
              have hk : k < 2 ^ (2 * th) := n_lt (b := 2 ^ (2 * th)) h37 (by omega) (by omega)
              rw [nI_1]
              have e := bstF_s0 (P := (woP S nr s)) (wt := cw) (show woP S nr s k = false by unfold woP; rw [(bI_0 _).mp h92, Bool.and_false, Bool.and_false])
              have := ih (k + 1) (by omega) (by omega)
              rw [e] at this
              exact this _ _
            · skip
              refine g_iload_4 C dX8_words_95 rfl ?_
              refine g_goto (tgt := 101) C dX8_words_97 (by decide) ?_
              refine g_istore_3 C rfl dX8_words_101 rfl ?_
              refine g_iinc_4 (z := 1) C rfl dX8_words_102 rfl (by decide) ?_
              refine g_goto (tgt := 27) C dX8_words_105 (by decide) ?_
              have hk : k < 2 ^ (2 * th) := n_lt (b := 2 ^ (2 * th)) h37 (by omega) (by omega)
              rw [nI_1]
              have hb := bst_none (by omega) h61
              have hp : woP S nr s k = true := by unfold woP; rw [decide_eq_true h51, decide_eq_true (p := cw k < 4) (i_not_le h57), nf_t (fun q => h92 ((bI_0 _).mpr q))]; rfl
              have e := bstF_sn hp hb
              have := ih (k + 1) (by omega) (by omega)
              rw [e] at this
              exact this _ _
          · skip
            refine g_iload_5 C dX8_words_64 rfl ?_
            refine g_iload_3 C dX8_words_66 rfl ?_
            refine g_cS1i C dX8_words_67 rfl ml_X8_201 mz_X8_bits (ok_X8_bits _ _) (by decide) rfl rfl (Nat.le_of_ble_eq_true rfl) (fun hn67 => ?_)
            refine g_icmp_ge (tgt := 77) C dX8_words_70 rfl (by decide) (fun h70 => ?_) (fun h70 => ?_)
            · skip
              refine g_iconst (v := 0) C dX8_words_77 rfl (by decide) ?_
              refine g_istore_6 C rfl dX8_words_78 rfl ?_
              refine g_iload_6 C dX8_words_80 rfl ?_
              refine g_if_eq (tgt := 100) C dX8_words_82 rfl (by decide) (fun h82 => ?_) (fun h82 => absurd rfl h82)
              refine g_iload_3 C dX8_words_100 rfl ?_
              refine g_istore_3 C rfl dX8_words_101 rfl ?_
              refine g_iinc_4 (z := 1) C rfl dX8_words_102 rfl (by decide) ?_
              refine g_goto (tgt := 27) C dX8_words_105 (by decide) ?_
              have hk : k < 2 ^ (2 * th) := n_lt (b := 2 ^ (2 * th)) h37 (by omega) (by omega)
              rw [nI_1]
              obtain ⟨b, hb⟩ := bst_some (by omega) h61
              have hw : cw b ≤ cw k := by have h := h70; rw [hb] at h; exact h
              have e := bstF_sg (P := (woP S nr s)) (wt := cw) hb (i_not_lt hw)
              have := ih (k + 1) (by omega) (by omega)
              rw [e, ← hb] at this
              exact this _ _
            · skip
              refine g_iconst (v := 1) C dX8_words_73 rfl (by decide) ?_
              refine g_goto (tgt := 78) C dX8_words_74 (by decide) ?_
              refine g_istore_6 C rfl dX8_words_78 rfl ?_
              refine g_iload_6 C dX8_words_80 rfl ?_
              refine g_if_eq (tgt := 100) C dX8_words_82 rfl (by decide) (fun h82 => absurd h82 (by decide)) (fun h82 => ?_)
              refine g_aload_0 C dX8_words_85 rfl ?_
              refine g_iload_4 C dX8_words_86 rfl ?_
              refine g_iload_1 C dX8_words_88 rfl ?_
              refine g_cV2i C dX8_words_89 rfl ml_X8_208 mz_X8_doWords (ok_X8_doWords _ _ S hR nr hnr hT) (by decide) rfl rfl rfl rfl (Nat.le_of_ble_eq_true rfl) (fun hn89 => ?_)
              refine g_if_eq (tgt := 100) C dX8_words_92 rfl (by decide) (fun h92 => ?_) (fun h92 => ?_)
              · skip
                refine g_iload_3 C dX8_words_100 rfl ?_
                refine g_istore_3 C rfl dX8_words_101 rfl ?_
                refine g_iinc_4 (z := 1) C rfl dX8_words_102 rfl (by decide) ?_
                refine g_goto (tgt := 27) C dX8_words_105 (by decide) ?_
                have hk : k < 2 ^ (2 * th) := n_lt (b := 2 ^ (2 * th)) h37 (by omega) (by omega)
                rw [nI_1]
                have e := bstF_s0 (P := (woP S nr s)) (wt := cw) (show woP S nr s k = false by unfold woP; rw [(bI_0 _).mp h92, Bool.and_false, Bool.and_false])
                have := ih (k + 1) (by omega) (by omega)
                rw [e] at this
                exact this _ _
              · skip
                refine g_iload_4 C dX8_words_95 rfl ?_
                refine g_goto (tgt := 101) C dX8_words_97 (by decide) ?_
                refine g_istore_3 C rfl dX8_words_101 rfl ?_
                refine g_iinc_4 (z := 1) C rfl dX8_words_102 rfl (by decide) ?_
                refine g_goto (tgt := 27) C dX8_words_105 (by decide) ?_
                have hk : k < 2 ^ (2 * th) := n_lt (b := 2 ^ (2 * th)) h37 (by omega) (by omega)
                rw [nI_1]
                obtain ⟨b, hb⟩ := bst_some (by omega) h61
                have hp : woP S nr s k = true := by unfold woP; rw [decide_eq_true h51, decide_eq_true (p := cw k < 4) (i_not_le h57), nf_t (fun q => h92 ((bI_0 _).mpr q))]; rfl
                have hw : cw k < cw b := by have h := i_not_le h70; rw [hb] at h; exact h
                have e := bstF_sl hp hb hw
                have := ih (k + 1) (by omega) (by omega)
                rw [e] at this
                exact this _ _

set_option maxHeartbeats 4000000 in
set_option maxRecDepth 20000 in
theorem ok_X8_words (s : Int32) (S : Mem) (hR : Rs S) (nr : Nat) (hnr : mI S 25 1 = nI nr) (hT : Tn nr (mA S 27)) (th : Nat) (hth : mI S 25 0 = nI th) (h8 : th ≤ 8) : Ok yX8_words cX8_words 7 (some .int) 3 0 0 [.ref 25, .int s] S (RI (woV S nr th s) S) := by
  refine Ok.of (by decide) (Nat.le_of_ble_eq_true rfl) rfl (fun κ C hx => ?_)
  have C : Cx RX8 cX8_words 7 (some .int) 3 false _ κ := C
  refine g_aload_0 C dX8_words_0 rfl ?_
  refine g_iload_1 C dX8_words_1 rfl ?_
  refine g_cV1i C dX8_words_2 rfl ml_X8_166 mz_X8_isSaying (ok_X8_isSaying _ S) (by decide) rfl rfl rfl rfl (Nat.le_of_ble_eq_true rfl) (fun hn2 => ?_)
  refine g_if_ne (tgt := 11) C dX8_words_5 rfl (by decide) (fun h5 => ?_) (fun h5 => ?_)
  · skip
    refine g_iconst (v := 1) C dX8_words_11 rfl (by decide) ?_
    refine g_iload_1 C dX8_words_12 rfl ?_
    refine g_ishl C dX8_words_13 rfl ?_
    refine g_iconst (v := 1) C dX8_words_14 rfl (by decide) ?_
    refine g_iload_1 C dX8_words_15 rfl ?_
    refine g_cS1i C dX8_words_16 rfl ml_X8_195 mz_X8_denial (ok_X8_denial _ _) (by decide) rfl rfl (Nat.le_of_ble_eq_true rfl) (fun hn16 => ?_)
    refine g_ishl C dX8_words_19 rfl ?_
    refine g_ior C dX8_words_20 rfl ?_
    refine g_istore_2 C rfl dX8_words_21 rfl ?_
    refine g_iconst (v := -1) C dX8_words_22 rfl (by decide) ?_
    refine g_istore_3 C rfl dX8_words_23 rfl ?_
    refine g_iconst (v := 0) C dX8_words_24 rfl (by decide) ?_
    refine g_istore_4 C rfl dX8_words_25 rfl ?_
    exact lp_X8_words C S hR nr hnr hT th hth h8 s ⟨by unfold woV; rw [if_pos (nf_t (fun q => h5 ((bI_0 _).mpr q)))], rfl⟩ (2 ^ (2 * th) + 1) 0 (Nat.zero_le _) (by omega) _ _
  · skip
    refine g_ldc C dX8_words_8 rfl kc_X8_165 ?_
    exact g_iret C rfl dX8_words_10 ⟨by unfold woV; rw [if_neg (by rw [(bI_0 _).mp h5]; decide)], rfl⟩

noncomputable def stC (S : Mem) (nr : Nat) (s : Int32) (r : Nat) : Bool := hasB (clo nr (mA S 27) (mA S 28) (alw (nI nr) (mA S 29 2)) (mA S 29 0)) s && (hasB (alw (nI nr) (mA S 29 2)) (nI r) && !hasB (clo nr (mA S 27) (mA S 28) ((alw (nI nr) (mA S 29 2)) &&& (one (nI r) ^^^ (-1))) (mA S 29 0)) s)
def orF (c : Nat → Bool) (f : Nat → Int32) : Nat → Int32
  | 0 => 0
  | r + 1 => orF c f r ||| (if c r = true then f r else 0)
theorem orF_1 {c : Nat → Bool} {f : Nat → Int32} {r : Nat} (h : c r = true) : orF c f (r + 1) = orF c f r ||| f r := congrArg (fun z => orF c f r ||| z) (if_pos h)
theorem orF_0 {c : Nat → Bool} {f : Nat → Int32} {r : Nat} (h : c r = false) : orF c f (r + 1) = orF c f r ||| 0 := congrArg (fun z => orF c f r ||| z) (if_neg (by rw [h]; decide))
noncomputable def stV (S : Mem) (nr : Nat) (s : Int32) : Int32 := if sayB (mI S 25 0) s = true then orF (stC S nr s) (fun r => one (nI r)) nr else -1000000001
set_option maxHeartbeats 4000000 in
set_option maxRecDepth 20000 in
theorem lp_X8_step {κ : Kx} {Φ : Option Value → Mem → Prop} (C : Cx RX8 cX8_step 5 (some .int) 3 false Φ κ) (S : Mem) (hR : Rs S) (nr : Nat) (hnr : mI S 25 1 = nI nr) (hT : Tn nr (mA S 27)) (s : Int32) (hΦ : Φ (some (.int (orF (stC S nr s) (fun r => one (nI r)) nr))) S) : ∀ (n k : Nat), k ≤ nr → nr + 1 ≤ k + n → ∀ v4 : Value, G κ 0 0 S 15 [.ref 25, .int s, .int (orF (stC S nr s) (fun r => one (nI r)) k), .int (nI k), v4] [] := by
  have h10 := hT.1
  intro n
  induction n with
  | zero => intro k h1 h2; exact absurd h2 (by omega)
  | succ n ih =>
    intro k hk1 hk2 v4
    refine g_iload_3 C dX8_step_15 rfl ?_
    refine g_aload_0 C dX8_step_16 rfl ?_
    refine g_geti C 1 dX8_step_17 rfl rfl rfl fl_X8_77 ?_
    rw [hnr]
    refine g_icmp_ge (tgt := 100) C dX8_step_20 rfl (by decide) (fun h20 => ?_) (fun h20 => ?_)
    · skip
      have hk : k = nr := by have := n_ge (b := nr) h20 (by omega) (by omega); omega
      rw [hk]
      refine g_iload_2 C dX8_step_100 rfl ?_
      exact g_iret C rfl dX8_step_101 hΦ
    · skip
      refine g_aload_0 C dX8_step_23 rfl ?_
      refine g_cV0i C dX8_step_24 rfl ml_X8_155 mz_X8_followsNow (ok_X8_followsNow S hR nr hnr hT) (by decide) rfl rfl rfl rfl (Nat.le_of_ble_eq_true rfl) (fun hn24 => ?_)
      refine g_iload_1 C dX8_step_27 rfl ?_
      refine g_cS2i C dX8_step_28 rfl ml_X8_114 mz_X8_has (ok_X8_has _ _ _) (by decide) rfl rfl (Nat.le_of_ble_eq_true rfl) (fun hn28 => ?_)
      refine g_if_eq (tgt := 49) C dX8_step_31 rfl (by decide) (fun h31 => ?_) (fun h31 => ?_)
      · skip
        refine g_iconst (v := 0) C dX8_step_49 rfl (by decide) ?_
        refine g_istore_4 C rfl dX8_step_50 rfl ?_
        refine g_iload_2 C dX8_step_52 rfl ?_
        refine g_iload_4 C dX8_step_53 rfl ?_
        refine g_if_eq (tgt := 91) C dX8_step_55 rfl (by decide) (fun h55 => ?_) (fun h55 => absurd rfl h55)
        refine g_iconst (v := 0) C dX8_step_91 rfl (by decide) ?_
        refine g_ior C dX8_step_92 rfl ?_
        refine g_istore_2 C rfl dX8_step_93 rfl ?_
        refine g_iinc_3 (z := 1) C rfl dX8_step_94 rfl (by decide) ?_
        refine g_goto (tgt := 15) C dX8_step_97 (by decide) ?_
        have hk : k < nr := n_lt (b := nr) h20 (by omega) (by omega)
        rw [nI_1]
        have hc : stC S nr s k = false := by unfold stC; rw [(bI_0 _).mp h31]; rfl
        have e := orF_0 (f := fun r => one (nI r)) hc
        have := ih (k + 1) (by omega) (by omega)
        rw [e] at this
        exact this _
      · skip
        refine g_aload_0 C dX8_step_34 rfl ?_
        refine g_cV0i C dX8_step_35 rfl ml_X8_149 mz_X8_allowed (ok_X8_allowed S hR) (by decide) rfl rfl rfl rfl (Nat.le_of_ble_eq_true rfl) (fun hn35 => ?_)
        rw [hnr]
        refine g_iload_3 C dX8_step_38 rfl ?_
        refine g_cS2i C dX8_step_39 rfl ml_X8_114 mz_X8_has (ok_X8_has _ _ _) (by decide) rfl rfl (Nat.le_of_ble_eq_true rfl) (fun hn39 => ?_)
        refine g_if_eq (tgt := 49) C dX8_step_42 rfl (by decide) (fun h42 => ?_) (fun h42 => ?_)
        · skip
          refine g_iconst (v := 0) C dX8_step_49 rfl (by decide) ?_
          refine g_istore_4 C rfl dX8_step_50 rfl ?_
          refine g_iload_2 C dX8_step_52 rfl ?_
          refine g_iload_4 C dX8_step_53 rfl ?_
          refine g_if_eq (tgt := 91) C dX8_step_55 rfl (by decide) (fun h55 => ?_) (fun h55 => absurd rfl h55)
          refine g_iconst (v := 0) C dX8_step_91 rfl (by decide) ?_
          refine g_ior C dX8_step_92 rfl ?_
          refine g_istore_2 C rfl dX8_step_93 rfl ?_
          refine g_iinc_3 (z := 1) C rfl dX8_step_94 rfl (by decide) ?_
          refine g_goto (tgt := 15) C dX8_step_97 (by decide) ?_
          have hk : k < nr := n_lt (b := nr) h20 (by omega) (by omega)
          rw [nI_1]
          have hc : stC S nr s k = false := by unfold stC; rw [(bI_0 _).mp h42, Bool.false_and, Bool.and_false]
          have e := orF_0 (f := fun r => one (nI r)) hc
          have := ih (k + 1) (by omega) (by omega)
          rw [e] at this
          exact this _
        · skip
          refine g_iconst (v := 1) C dX8_step_45 rfl (by decide) ?_
          refine g_goto (tgt := 50) C dX8_step_46 (by decide) ?_
          refine g_istore_4 C rfl dX8_step_50 rfl ?_
          refine g_iload_2 C dX8_step_52 rfl ?_
          refine g_iload_4 C dX8_step_53 rfl ?_
          refine g_if_eq (tgt := 91) C dX8_step_55 rfl (by decide) (fun h55 => absurd h55 (by decide)) (fun h55 => ?_)
          refine g_aload_0 C dX8_step_58 rfl ?_
          refine g_aload_0 C dX8_step_59 rfl ?_
          refine g_getr C 5 dX8_step_60 rfl rfl rfl fl_X8_19 (hR 25 5 29 rfl) ?_
          refine g_iconst (v := 0) C dX8_step_63 rfl (by decide) ?_
          refine g_iald C dX8_step_64 rfl rfl (n_in (k := 0) (N := 4) (by decide) (by decide)) ?_
          rw [show (mA S 29 (Int32.toNatClampNeg 0)) = mA S 29 0 from rfl]
          refine g_aload_0 C dX8_step_65 rfl ?_
          refine g_cV0i C dX8_step_66 rfl ml_X8_149 mz_X8_allowed (ok_X8_allowed S hR) (by decide) rfl rfl rfl rfl (Nat.le_of_ble_eq_true rfl) (fun hn66 => ?_)
          rw [hnr]
          refine g_iconst (v := 1) C dX8_step_69 rfl (by decide) ?_
          refine g_iload_3 C dX8_step_70 rfl ?_
          refine g_ishl C dX8_step_71 rfl ?_
          rw [one_df]
          refine g_iconst (v := -1) C dX8_step_72 rfl (by decide) ?_
          refine g_ixor C dX8_step_73 rfl ?_
          refine g_iand C dX8_step_74 rfl ?_
          refine g_cV2i C dX8_step_75 rfl ml_X8_152 mz_X8_close (ok_X8_close _ _ S hR nr hnr hT) (by decide) rfl rfl rfl rfl (Nat.le_of_ble_eq_true rfl) (fun hn75 => ?_)
          refine g_iload_1 C dX8_step_78 rfl ?_
          refine g_cS2i C dX8_step_79 rfl ml_X8_114 mz_X8_has (ok_X8_has _ _ _) (by decide) rfl rfl (Nat.le_of_ble_eq_true rfl) (fun hn79 => ?_)
          refine g_if_ne (tgt := 91) C dX8_step_82 rfl (by decide) (fun h82 => ?_) (fun h82 => ?_)
          · skip
            refine g_iconst (v := 0) C dX8_step_91 rfl (by decide) ?_
            refine g_ior C dX8_step_92 rfl ?_
            refine g_istore_2 C rfl dX8_step_93 rfl ?_
            refine g_iinc_3 (z := 1) C rfl dX8_step_94 rfl (by decide) ?_
            refine g_goto (tgt := 15) C dX8_step_97 (by decide) ?_
            have hk : k < nr := n_lt (b := nr) h20 (by omega) (by omega)
            rw [nI_1]
            have hc : stC S nr s k = false := by unfold stC; rw [nf_t (fun q => h82 ((bI_0 _).mpr q)), Bool.not_true, Bool.and_false, Bool.and_false]
            have e := orF_0 (f := fun r => one (nI r)) hc
            have := ih (k + 1) (by omega) (by omega)
            rw [e] at this
            exact this _
          · skip
            refine g_iconst (v := 1) C dX8_step_85 rfl (by decide) ?_
            refine g_iload_3 C dX8_step_86 rfl ?_
            refine g_ishl C dX8_step_87 rfl ?_
            refine g_goto (tgt := 92) C dX8_step_88 (by decide) ?_
            refine g_ior C dX8_step_92 rfl ?_
            refine g_istore_2 C rfl dX8_step_93 rfl ?_
            refine g_iinc_3 (z := 1) C rfl dX8_step_94 rfl (by decide) ?_
            refine g_goto (tgt := 15) C dX8_step_97 (by decide) ?_
            have hk : k < nr := n_lt (b := nr) h20 (by omega) (by omega)
            rw [nI_1]
            have hc : stC S nr s k = true := by unfold stC; rw [nf_t (fun q => h31 ((bI_0 _).mpr q)), nf_t (fun q => h42 ((bI_0 _).mpr q)), (bI_0 _).mp h82]; rfl
            have e := orF_1 (f := fun r => one (nI r)) hc
            have := ih (k + 1) (by omega) (by omega)
            rw [e] at this
            exact this _

set_option maxHeartbeats 4000000 in
set_option maxRecDepth 20000 in
theorem ok_X8_step (s : Int32) (S : Mem) (hR : Rs S) (nr : Nat) (hnr : mI S 25 1 = nI nr) (hT : Tn nr (mA S 27)) : Ok yX8_step cX8_step 5 (some .int) 3 0 0 [.ref 25, .int s] S (RI (stV S nr s) S) := by
  refine Ok.of (by decide) (Nat.le_of_ble_eq_true rfl) rfl (fun κ C hx => ?_)
  have C : Cx RX8 cX8_step 5 (some .int) 3 false _ κ := C
  refine g_aload_0 C dX8_step_0 rfl ?_
  refine g_iload_1 C dX8_step_1 rfl ?_
  refine g_cV1i C dX8_step_2 rfl ml_X8_166 mz_X8_isSaying (ok_X8_isSaying _ S) (by decide) rfl rfl rfl rfl (Nat.le_of_ble_eq_true rfl) (fun hn2 => ?_)
  refine g_if_ne (tgt := 11) C dX8_step_5 rfl (by decide) (fun h5 => ?_) (fun h5 => ?_)
  · skip
    refine g_iconst (v := 0) C dX8_step_11 rfl (by decide) ?_
    refine g_istore_2 C rfl dX8_step_12 rfl ?_
    refine g_iconst (v := 0) C dX8_step_13 rfl (by decide) ?_
    refine g_istore_3 C rfl dX8_step_14 rfl ?_
    exact lp_X8_step C S hR nr hnr hT s ⟨by unfold stV; rw [if_pos (nf_t (fun q => h5 ((bI_0 _).mpr q)))], rfl⟩ (nr + 1) 0 (Nat.zero_le _) (by omega) _
  · skip
    refine g_ldc C dX8_step_8 rfl kc_X8_165 ?_
    exact g_iret C rfl dX8_step_10 ⟨by unfold stV; rw [if_neg (by rw [(bI_0 _).mp h5]; decide)], rfl⟩

def nvF (bb x : Int32) (cn : Nat → Int32) : Nat → Int32
  | 0 => x
  | r + 1 => nvF bb x cn r &&& (if hasB bb (nI r) = true then one (cn r) ^^^ (-1) else -1)
set_option maxHeartbeats 4000000 in
set_option maxRecDepth 20000 in
theorem lp_X8_never {κ : Kx} {Φ : Option Value → Mem → Prop} (C : Cx RX8 cX8_never 3 (some .int) 1 false Φ κ) (S : Mem) (hR : Rs S) (nr : Nat) (hnr : mI S 25 1 = nI nr) (hT : Tn nr (mA S 27)) (x : Int32) (hΦ : Φ (some (.int (nvF (alw (nI nr) (mA S 29 2)) x (mA S 27) nr))) S) : ∀ (n k : Nat), k ≤ nr → nr + 1 ≤ k + n → G κ 0 0 S 13 [.ref 25, .int (nvF (alw (nI nr) (mA S 29 2)) x (mA S 27) k), .int (nI k)] [] := by
  have h10 := hT.1
  intro n
  induction n with
  | zero => intro k h1 h2; exact absurd h2 (by omega)
  | succ n ih =>
    intro k hk1 hk2
    refine g_iload_2 C dX8_never_13 rfl ?_
    refine g_aload_0 C dX8_never_14 rfl ?_
    refine g_geti C 1 dX8_never_15 rfl rfl rfl fl_X8_77 ?_
    rw [hnr]
    refine g_icmp_ge (tgt := 55) C dX8_never_18 rfl (by decide) (fun h18 => ?_) (fun h18 => ?_)
    · skip
      have hk : k = nr := by have := n_ge (b := nr) h18 (by omega) (by omega); omega
      rw [hk]
      refine g_iload_1 C dX8_never_55 rfl ?_
      exact g_iret C rfl dX8_never_56 hΦ
    · skip
      refine g_iload_1 C dX8_never_21 rfl ?_
      refine g_aload_0 C dX8_never_22 rfl ?_
      refine g_cV0i C dX8_never_23 rfl ml_X8_149 mz_X8_allowed (ok_X8_allowed S hR) (by decide) rfl rfl rfl rfl (Nat.le_of_ble_eq_true rfl) (fun hn23 => ?_)
      rw [hnr]
      refine g_iload_2 C dX8_never_26 rfl ?_
      refine g_cS2i C dX8_never_27 rfl ml_X8_114 mz_X8_has (ok_X8_has _ _ _) (by decide) rfl rfl (Nat.le_of_ble_eq_true rfl) (fun hn27 => ?_)
      refine g_if_eq (tgt := 46) C dX8_never_30 rfl (by decide) (fun h30 => ?_) (fun h30 => ?_)
      · skip
        refine g_iconst (v := -1) C dX8_never_46 rfl (by decide) ?_
        refine g_iand C dX8_never_47 rfl ?_
        refine g_istore_1 C rfl dX8_never_48 rfl ?_
        refine g_iinc_2 (z := 1) C rfl dX8_never_49 rfl (by decide) ?_
        refine g_goto (tgt := 13) C dX8_never_52 (by decide) ?_
        have hk : k < nr := n_lt (b := nr) h18 (by omega) (by omega)
        rw [nI_1]
        have e : nvF (alw (nI nr) (mA S 29 2)) x (mA S 27) (k + 1) = nvF (alw (nI nr) (mA S 29 2)) x (mA S 27) k &&& _ := congrArg (fun z => nvF (alw (nI nr) (mA S 29 2)) x (mA S 27) k &&& z) (if_neg (by rw [(bI_0 _).mp h30]; decide))
        have := ih (k + 1) (by omega) (by omega)
        rw [e] at this
        exact this
      · skip
        refine g_iconst (v := 1) C dX8_never_33 rfl (by decide) ?_
        refine g_aload_0 C dX8_never_34 rfl ?_
        refine g_getr C 3 dX8_never_35 rfl rfl rfl fl_X8_13 (hR 25 3 27 rfl) ?_
        refine g_iload_2 C dX8_never_38 rfl ?_
        refine g_iald C dX8_never_39 rfl rfl (n_in (show k < 10 by have := n_lt (b := nr) h18 (by omega) (by omega); omega) (by decide)) ?_
        rw [nI_clamp (show k < 2 ^ 31 by omega)]
        refine g_ishl C dX8_never_40 rfl ?_
        refine g_iconst (v := -1) C dX8_never_41 rfl (by decide) ?_
        refine g_ixor C dX8_never_42 rfl ?_
        refine g_goto (tgt := 47) C dX8_never_43 (by decide) ?_
        refine g_iand C dX8_never_47 rfl ?_
        refine g_istore_1 C rfl dX8_never_48 rfl ?_
        refine g_iinc_2 (z := 1) C rfl dX8_never_49 rfl (by decide) ?_
        refine g_goto (tgt := 13) C dX8_never_52 (by decide) ?_
        have hk : k < nr := n_lt (b := nr) h18 (by omega) (by omega)
        rw [nI_1]
        have e : nvF (alw (nI nr) (mA S 29 2)) x (mA S 27) (k + 1) = nvF (alw (nI nr) (mA S 29 2)) x (mA S 27) k &&& _ := congrArg (fun z => nvF (alw (nI nr) (mA S 29 2)) x (mA S 27) k &&& z) (if_pos (nf_t (fun q => h30 ((bI_0 _).mpr q))))
        have := ih (k + 1) (by omega) (by omega)
        rw [e] at this
        exact this

set_option maxHeartbeats 4000000 in
set_option maxRecDepth 20000 in
theorem ok_X8_never (S : Mem) (hR : Rs S) (nr : Nat) (hnr : mI S 25 1 = nI nr) (hT : Tn nr (mA S 27)) : Ok yX8_never cX8_never 3 (some .int) 1 0 0 [.ref 25] S (RI (nvF (alw (nI nr) (mA S 29 2)) (one (2 * mI S 25 0) - 1) (mA S 27) nr) S) := by
  refine Ok.of (by decide) (Nat.le_of_ble_eq_true rfl) rfl (fun κ C hx => ?_)
  have C : Cx RX8 cX8_never 3 (some .int) 1 false _ κ := C
  refine g_iconst (v := 1) C dX8_never_0 rfl (by decide) ?_
  refine g_iconst (v := 2) C dX8_never_1 rfl (by decide) ?_
  refine g_aload_0 C dX8_never_2 rfl ?_
  refine g_geti C 0 dX8_never_3 rfl rfl rfl fl_X8_70 ?_
  refine g_imul C dX8_never_6 rfl ?_
  refine g_ishl C dX8_never_7 rfl ?_
  refine g_iconst (v := 1) C dX8_never_8 rfl (by decide) ?_
  refine g_isub C dX8_never_9 rfl ?_
  refine g_istore_1 C rfl dX8_never_10 rfl ?_
  refine g_iconst (v := 0) C dX8_never_11 rfl (by decide) ?_
  refine g_istore_2 C rfl dX8_never_12 rfl ?_
  exact lp_X8_never C S hR nr hnr hT _ ⟨rfl, rfl⟩ (nr + 1) 0 (Nat.zero_le _) (by omega)

noncomputable def roC (S : Mem) (nr r : Nat) : Bool := hasB (alw (nI nr) (mA S 29 2)) (nI r) && decide (mA S 28 r &&& (clo nr (mA S 27) (mA S 28) (alw (nI nr) (mA S 29 2)) (one (mA S 27 r)) ^^^ (-1)) = 0)
set_option maxHeartbeats 4000000 in
set_option maxRecDepth 20000 in
theorem lp_X8_round {κ : Kx} {Φ : Option Value → Mem → Prop} (C : Cx RX8 cX8_round 4 (some .int) 2 false Φ κ) (S : Mem) (hR : Rs S) (nr : Nat) (hnr : mI S 25 1 = nI nr) (hT : Tn nr (mA S 27)) (hΦ : Φ (some (.int (orF (roC S nr) (fun r => one (mA S 27 r)) nr))) S) : ∀ (n k : Nat), k ≤ nr → nr + 1 ≤ k + n → ∀ v3 : Value, G κ 0 0 S 4 [.ref 25, .int (orF (roC S nr) (fun r => one (mA S 27 r)) k), .int (nI k), v3] [] := by
  have h10 := hT.1
  intro n
  induction n with
  | zero => intro k h1 h2; exact absurd h2 (by omega)
  | succ n ih =>
    intro k hk1 hk2 v3
    refine g_iload_2 C dX8_round_4 rfl ?_
    refine g_aload_0 C dX8_round_5 rfl ?_
    refine g_geti C 1 dX8_round_6 rfl rfl rfl fl_X8_77 ?_
    rw [hnr]
    refine g_icmp_ge (tgt := 74) C dX8_round_9 rfl (by decide) (fun h9 => ?_) (fun h9 => ?_)
    · skip
      have hk : k = nr := by have := n_ge (b := nr) h9 (by omega) (by omega); omega
      rw [hk]
      refine g_iload_1 C dX8_round_74 rfl ?_
      exact g_iret C rfl dX8_round_75 hΦ
    · skip
      refine g_aload_0 C dX8_round_12 rfl ?_
      refine g_iconst (v := 1) C dX8_round_13 rfl (by decide) ?_
      refine g_aload_0 C dX8_round_14 rfl ?_
      refine g_getr C 3 dX8_round_15 rfl rfl rfl fl_X8_13 (hR 25 3 27 rfl) ?_
      refine g_iload_2 C dX8_round_18 rfl ?_
      refine g_iald C dX8_round_19 rfl rfl (n_in (show k < 10 by have := n_lt (b := nr) h9 (by omega) (by omega); omega) (by decide)) ?_
      rw [nI_clamp (show k < 2 ^ 31 by omega)]
      refine g_ishl C dX8_round_20 rfl ?_
      rw [one_df]
      refine g_aload_0 C dX8_round_21 rfl ?_
      refine g_cV0i C dX8_round_22 rfl ml_X8_149 mz_X8_allowed (ok_X8_allowed S hR) (by decide) rfl rfl rfl rfl (Nat.le_of_ble_eq_true rfl) (fun hn22 => ?_)
      rw [hnr]
      refine g_cV2i C dX8_round_25 rfl ml_X8_152 mz_X8_close (ok_X8_close _ _ S hR nr hnr hT) (by decide) rfl rfl rfl rfl (Nat.le_of_ble_eq_true rfl) (fun hn25 => ?_)
      refine g_istore_3 C rfl dX8_round_28 rfl ?_
      refine g_iload_1 C dX8_round_29 rfl ?_
      refine g_aload_0 C dX8_round_30 rfl ?_
      refine g_cV0i C dX8_round_31 rfl ml_X8_149 mz_X8_allowed (ok_X8_allowed S hR) (by decide) rfl rfl rfl rfl (Nat.le_of_ble_eq_true rfl) (fun hn31 => ?_)
      rw [hnr]
      refine g_iload_2 C dX8_round_34 rfl ?_
      refine g_cS2i C dX8_round_35 rfl ml_X8_114 mz_X8_has (ok_X8_has _ _ _) (by decide) rfl rfl (Nat.le_of_ble_eq_true rfl) (fun hn35 => ?_)
      refine g_if_eq (tgt := 65) C dX8_round_38 rfl (by decide) (fun h38 => ?_) (fun h38 => ?_)
      · skip
        refine g_iconst (v := 0) C dX8_round_65 rfl (by decide) ?_
        refine g_ior C dX8_round_66 rfl ?_
        refine g_istore_1 C rfl dX8_round_67 rfl ?_
        refine g_iinc_2 (z := 1) C rfl dX8_round_68 rfl (by decide) ?_
        refine g_goto (tgt := 4) C dX8_round_71 (by decide) ?_
        have hk : k < nr := n_lt (b := nr) h9 (by omega) (by omega)
        rw [nI_1]
        have hc : roC S nr k = false := by unfold roC; rw [(bI_0 _).mp h38]; rfl
        have e := orF_0 (f := fun r => one (mA S 27 r)) hc
        have := ih (k + 1) (by omega) (by omega)
        rw [e] at this
        exact this _
      · skip
        refine g_aload_0 C dX8_round_41 rfl ?_
        refine g_getr C 4 dX8_round_42 rfl rfl rfl fl_X8_16 (hR 25 4 28 rfl) ?_
        refine g_iload_2 C dX8_round_45 rfl ?_
        refine g_iald C dX8_round_46 rfl rfl (n_in (show k < 10 by have := n_lt (b := nr) h9 (by omega) (by omega); omega) (by decide)) ?_
        rw [nI_clamp (show k < 2 ^ 31 by omega)]
        refine g_iload_3 C dX8_round_47 rfl ?_
        refine g_iconst (v := -1) C dX8_round_48 rfl (by decide) ?_
        refine g_ixor C dX8_round_49 rfl ?_
        refine g_iand C dX8_round_50 rfl ?_
        refine g_if_ne (tgt := 65) C dX8_round_51 rfl (by decide) (fun h51 => ?_) (fun h51 => ?_)
        · skip
          refine g_iconst (v := 0) C dX8_round_65 rfl (by decide) ?_
          refine g_ior C dX8_round_66 rfl ?_
          refine g_istore_1 C rfl dX8_round_67 rfl ?_
          refine g_iinc_2 (z := 1) C rfl dX8_round_68 rfl (by decide) ?_
          refine g_goto (tgt := 4) C dX8_round_71 (by decide) ?_
          have hk : k < nr := n_lt (b := nr) h9 (by omega) (by omega)
          rw [nI_1]
          have hc : roC S nr k = false := by unfold roC; rw [decide_eq_false h51, Bool.and_false]
          have e := orF_0 (f := fun r => one (mA S 27 r)) hc
          have := ih (k + 1) (by omega) (by omega)
          rw [e] at this
          exact this _
        · skip
          refine g_iconst (v := 1) C dX8_round_54 rfl (by decide) ?_
          refine g_aload_0 C dX8_round_55 rfl ?_
          refine g_getr C 3 dX8_round_56 rfl rfl rfl fl_X8_13 (hR 25 3 27 rfl) ?_
          refine g_iload_2 C dX8_round_59 rfl ?_
          refine g_iald C dX8_round_60 rfl rfl (n_in (show k < 10 by have := n_lt (b := nr) h9 (by omega) (by omega); omega) (by decide)) ?_
          rw [nI_clamp (show k < 2 ^ 31 by omega)]
          refine g_ishl C dX8_round_61 rfl ?_
          refine g_goto (tgt := 66) C dX8_round_62 (by decide) ?_
          refine g_ior C dX8_round_66 rfl ?_
          refine g_istore_1 C rfl dX8_round_67 rfl ?_
          refine g_iinc_2 (z := 1) C rfl dX8_round_68 rfl (by decide) ?_
          refine g_goto (tgt := 4) C dX8_round_71 (by decide) ?_
          have hk : k < nr := n_lt (b := nr) h9 (by omega) (by omega)
          rw [nI_1]
          have hc : roC S nr k = true := by unfold roC; rw [nf_t (fun q => h38 ((bI_0 _).mpr q)), decide_eq_true h51]; rfl
          have e := orF_1 (f := fun r => one (mA S 27 r)) hc
          have := ih (k + 1) (by omega) (by omega)
          rw [e] at this
          exact this _

set_option maxHeartbeats 4000000 in
set_option maxRecDepth 20000 in
theorem ok_X8_round (S : Mem) (hR : Rs S) (nr : Nat) (hnr : mI S 25 1 = nI nr) (hT : Tn nr (mA S 27)) : Ok yX8_round cX8_round 4 (some .int) 2 0 0 [.ref 25] S (RI (orF (roC S nr) (fun r => one (mA S 27 r)) nr) S) := by
  refine Ok.of (by decide) (Nat.le_of_ble_eq_true rfl) rfl (fun κ C hx => ?_)
  have C : Cx RX8 cX8_round 4 (some .int) 2 false _ κ := C
  refine g_iconst (v := 0) C dX8_round_0 rfl (by decide) ?_
  refine g_istore_1 C rfl dX8_round_1 rfl ?_
  refine g_iconst (v := 0) C dX8_round_2 rfl (by decide) ?_
  refine g_istore_2 C rfl dX8_round_3 rfl ?_
  exact lp_X8_round C S hR nr hnr hT ⟨rfl, rfl⟩ (nr + 1) 0 (Nat.zero_le _) (by omega) _

