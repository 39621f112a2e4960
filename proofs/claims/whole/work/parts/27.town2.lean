theorem mis_top {x : Int32} : ∀ n, n ≤ 32 → n ≤ mis x n → ∀ i, i < n → bt x i = false
  | 0, _, _, i, hi => absurd hi (Nat.not_lt_zero i)
  | n + 1, hn, h, i, hi => by
    have hle : ∀ m, mis x m ≤ m := by
      intro m
      induction m with
      | zero => exact Nat.le_refl 0
      | succ m ih =>
        unfold mis
        split <;> omega
    unfold mis at h
    have h2 := hle n
    by_cases hb : bt x n = true
    · rw [if_pos hb] at h; omega
    · rw [if_neg hb] at h
      rcases Nat.lt_succ_iff_lt_or_eq.mp hi with h3 | h3
      · exact mis_top n (by omega) (by omega) i h3
      · rw [h3]; cases hc : bt x n with
        | false => rfl
        | true => exact absurd hc hb
def CoI (nr : Nat) (cn nd : Nat → Int32) (bb set so w : Int32) : Prop := (sub set so ∧ ∀ z, sub set z → cls9 nr cn nd bb z → sub so z) ∧ (∀ r, r < nr → hasB bb (nI r) = true → hasB w (nI r) = true ∨ sub (one (cn r)) so) ∧ (∀ r, r < nr → hasB w (nI r) = true → hasB bb (nI r) = true)
theorem CoI.fin {nr : Nat} {cn nd : Nat → Int32} {bb set so w : Int32} (h : CoI nr cn nd bb set so w) (hq : ∀ r, r < nr → hasB w (nI r) = true → ¬ sub (nd r) so) : clo nr cn nd bb set = so :=
  clo_eq ⟨h.1.1, fun r hr hb hs => (h.2.1 r hr hb).elim (fun hw => absurd hs (hq r hr hw)) id, h.1.2⟩
theorem bt_clr {w : Int32} {r i : Nat} (hr : r < 32) (hi : i < 32) : bt (w &&& (one (nI r) ^^^ (-1))) i = (bt w i && !decide (i = r)) := by
  rw [b_and, b_xor, bt_one hr hi, b_m1 i hi, Bool.xor_true]
theorem CoI.put {nr : Nat} {cn nd : Nat → Int32} {bb set so w : Int32} (h10 : nr ≤ 10) (h : CoI nr cn nd bb set so w) {r : Nat} (hr : r < nr) (hw : hasB w (nI r) = true) (hs : sub (nd r) so) : CoI nr cn nd bb set (so ||| one (cn r)) (w &&& (one (nI r) ^^^ (-1))) ∧ mis w 10 < mis (w &&& (one (nI r) ^^^ (-1))) 10 := by
  refine ⟨⟨⟨sub_trans h.1.1 (sub_or_left _ _), fun z h1 h2 => or_sub (h.1.2 z h1 h2) (h2 r hr (h.2.2 r hr hw) (sub_trans hs (h.1.2 z h1 h2)))⟩, fun q hq hb => ?_, fun q hq hb => ?_⟩, ?_⟩
  · by_cases e : q = r
    · right; rw [e]; exact sub_or_right _ _
    · rcases h.2.1 q hq hb with h3 | h3
      · left
        rw [hasB_bt (by omega)] at h3
        rw [hasB_bt (by omega), bt_clr (by omega) (by omega), h3, decide_eq_false e]
        rfl
      · right; exact sub_trans h3 (sub_or_left _ _)
  · rw [hasB_bt (by omega), bt_clr (by omega) (by omega)] at hb
    exact h.2.2 q hq (by rw [hasB_bt (by omega)]; exact (Bool.and_eq_true _ _ ▸ hb).1)
  · rw [hasB_bt (by omega)] at hw
    refine mis_lt (c := r) (sub_iff.mpr fun i hi hb => ?_) ?_ hw 10 (by omega) (by omega)
    · rw [bt_clr (by omega) hi] at hb
      exact (Bool.and_eq_true _ _ ▸ hb).1
    · rw [bt_clr (by omega) (by omega), decide_eq_true rfl]
      simp
set_option maxHeartbeats 4000000 in
set_option maxRecDepth 20000 in
theorem lp_X4_closure_i {κ : Kx} {Φ : Option Value → Mem → Prop} (C : Cx RX4 cX4_closure 8 (some .int) 1 false Φ κ) (t : Nat) (S : Mem) (hW : TwK S t) (nr : Nat) (hnr : mI S t 4 = nI nr) (hT : Tn nr (mA S (t + 2))) (set bb : Int32) (p : Nat) (w0 : Int32) (K : ∀ (so wt : Int32) (v7 : Value), CoI nr (mA S (t + 2)) (mA S (t + 3)) bb set so wt → ((wt = w0 ∧ ∀ q, q < nr → hasB wt (nI q) = true → ¬ sub (mA S (t + 3) q) so) ∨ mis w0 10 < mis wt 10) → G κ 0 0 S 94 [.ref t, .int set, .int bb, .int so, .int wt, .int (nI p), .int w0, v7] []) :
    ∀ (n r : Nat) (so wt : Int32), r ≤ nr → nr + 1 ≤ r + n → CoI nr (mA S (t + 2)) (mA S (t + 3)) bb set so wt → ((wt = w0 ∧ ∀ q, q < r → hasB wt (nI q) = true → ¬ sub (mA S (t + 3) q) so) ∨ mis w0 10 < mis wt 10) → G κ 0 0 S 32 [.ref t, .int set, .int bb, .int so, .int wt, .int (nI p), .int w0, .int (nI r)] [] := by
  have hle10 := hT.1
  intro n
  induction n with
  | zero => intro r so wt h1 h2; exact absurd h2 (by omega)
  | succ n ih =>
    intro r so wt hr hn hI hf
    refine g_iload_7 C dX4_closure_32 rfl ?_
    refine g_aload_0 C dX4_closure_34 rfl ?_
    refine g_getiD C 4 dX4_closure_35 rfl hW.1 (by decide) (by decide) rfl fl_X4_25 ?_
    rw [hnr]
    refine g_icmp_ge (tgt := 94) C dX4_closure_38 rfl (by decide) (fun h38 => ?_) (fun h38 => ?_)
    · skip
      have hge := n_ge h38 (by omega) (by omega)
      have e : r = nr := by omega
      rw [e] at hf
      exact K so wt _ hI hf
    · skip
      refine g_iload_4 C dX4_closure_41 rfl ?_
      refine g_iload_7 C dX4_closure_43 rfl ?_
      refine g_ishr C dX4_closure_45 rfl ?_
      refine g_iconst (v := 1) C dX4_closure_46 rfl (by decide) ?_
      refine g_iand C dX4_closure_47 rfl ?_
      refine g_if_eq (tgt := 88) C dX4_closure_48 rfl (by decide) (fun h48 => ?_) (fun h48 => ?_)
      · skip
        refine g_iinc_7 (z := 1) C rfl dX4_closure_88 rfl (by decide) ?_
        refine g_goto (tgt := 32) C dX4_closure_91 (by decide) ?_
        rw [nI_1]
        have hrr : r < nr := n_lt h38 (by omega) (by omega)
        refine ih (r + 1) so wt (by omega) (by omega) hI (hf.imp (fun z => ⟨z.1, fun q hq hb => ?_⟩) id)
        rcases Nat.lt_succ_iff_lt_or_eq.mp hq with h3 | h3
        · exact z.2 q h3 hb
        · rw [h3, hasB_0 h48] at hb; cases hb
      · skip
        refine g_aload_0 C dX4_closure_51 rfl ?_
        refine g_getrD C 2 dX4_closure_52 rfl hW.1 (by decide) (by decide) rfl fl_X4_18 hW.2.2.2.1 ?_
        refine g_iload_7 C dX4_closure_55 rfl ?_
        refine g_ialdD (N := 10) C dX4_closure_57 rfl hW.2.2.2.2.2.2 (n_in (show r < 10 by have := n_lt h38 (by omega) (by omega); omega) (by decide)) ?_
        rw [nI_clamp (show r < 2 ^ 31 by omega)]
        refine g_iload_3 C dX4_closure_58 rfl ?_
        refine g_iconst (v := -1) C dX4_closure_59 rfl (by decide) ?_
        refine g_ixor C dX4_closure_60 rfl ?_
        refine g_iand C dX4_closure_61 rfl ?_
        refine g_if_ne (tgt := 88) C dX4_closure_62 rfl (by decide) (fun h62 => ?_) (fun h62 => ?_)
        · skip
          refine g_iinc_7 (z := 1) C rfl dX4_closure_88 rfl (by decide) ?_
          refine g_goto (tgt := 32) C dX4_closure_91 (by decide) ?_
          rw [nI_1]
          have hrr : r < nr := n_lt h38 (by omega) (by omega)
          refine ih (r + 1) so wt (by omega) (by omega) hI (hf.imp (fun z => ⟨z.1, fun q hq hb => ?_⟩) id)
          rcases Nat.lt_succ_iff_lt_or_eq.mp hq with h3 | h3
          · exact z.2 q h3 hb
          · rw [h3]; exact h62
        · skip
          refine g_iload_3 C dX4_closure_65 rfl ?_
          refine g_iconst (v := 1) C dX4_closure_66 rfl (by decide) ?_
          refine g_aload_0 C dX4_closure_67 rfl ?_
          refine g_getrD C 1 dX4_closure_68 rfl hW.1 (by decide) (by decide) rfl fl_X4_15 hW.2.2.1 ?_
          refine g_iload_7 C dX4_closure_71 rfl ?_
          refine g_ialdD (N := 10) C dX4_closure_73 rfl hW.2.2.2.2.2.1 (n_in (show r < 10 by have := n_lt h38 (by omega) (by omega); omega) (by decide)) ?_
          rw [nI_clamp (show r < 2 ^ 31 by omega)]
          refine g_ishl C dX4_closure_74 rfl ?_
          refine g_ior C dX4_closure_75 rfl ?_
          refine g_istore_3 C rfl dX4_closure_76 rfl ?_
          refine g_iload_4 C dX4_closure_77 rfl ?_
          refine g_iconst (v := 1) C dX4_closure_79 rfl (by decide) ?_
          refine g_iload_7 C dX4_closure_80 rfl ?_
          refine g_ishl C dX4_closure_82 rfl ?_
          refine g_iconst (v := -1) C dX4_closure_83 rfl (by decide) ?_
          refine g_ixor C dX4_closure_84 rfl ?_
          refine g_iand C dX4_closure_85 rfl ?_
          refine g_istore_4 C rfl dX4_closure_86 rfl ?_
          refine g_iinc_7 (z := 1) C rfl dX4_closure_88 rfl (by decide) ?_
          refine g_goto (tgt := 32) C dX4_closure_91 (by decide) ?_
          rw [nI_1]
          have hrr : r < nr := n_lt h38 (by omega) (by omega)
          have hp := CoI.put hle10 hI hrr (hasB_ne h48) h62
          exact ih (r + 1) _ _ (by omega) (by omega) hp.1 (Or.inr (hf.elim (fun z => by rw [← z.1]; exact hp.2) (fun z => Nat.lt_trans z hp.2)))

set_option maxHeartbeats 4000000 in
set_option maxRecDepth 20000 in
theorem lp_X4_closure_o {κ : Kx} {Φ : Option Value → Mem → Prop} (C : Cx RX4 cX4_closure 8 (some .int) 1 false Φ κ) (t : Nat) (S : Mem) (hW : TwK S t) (nr : Nat) (hnr : mI S t 4 = nI nr) (hT : Tn nr (mA S (t + 2))) (set bb : Int32) (hΦ : Φ (some (.int (clo nr (mA S (t + 2)) (mA S (t + 3)) bb set))) S) : ∀ (n p : Nat) (so wt : Int32) (v6 v7 : Value), p ≤ 10 → 11 ≤ p + n → p ≤ mis wt 10 → CoI nr (mA S (t + 2)) (mA S (t + 3)) bb set so wt → G κ 0 0 S 13 [.ref t, .int set, .int bb, .int so, .int wt, .int (nI p), v6, v7] [] := by
  have hle10 := hT.1
  intro n
  induction n with
  | zero => intro p so wt v6 v7 h1 h2; exact absurd h2 (by omega)
  | succ n ih =>
    intro p so wt v6 v7 hp hn hmi hI
    refine g_iload_5 C dX4_closure_13 rfl ?_
    refine g_bipush (v := 10) C dX4_closure_15 rfl (by decide) ?_
    refine g_icmp_ge (tgt := 110) C dX4_closure_17 rfl (by decide) (fun h17 => ?_) (fun h17 => ?_)
    · skip
      have hge := n_ge (b := 10) h17 (by omega) (by omega)
      have hc := CoI.fin hI (fun r hr hb => by rw [hasB_bt (by omega), mis_top 10 (by omega) (by omega) r (by omega)] at hb; cases hb)
      rw [hc] at hΦ
      refine g_iload_3 C dX4_closure_110 rfl ?_
      exact g_iret C rfl dX4_closure_111 hΦ
    · skip
      refine g_iload_4 C dX4_closure_20 rfl ?_
      refine g_if_eq (tgt := 110) C dX4_closure_22 rfl (by decide) (fun h22 => ?_) (fun h22 => ?_)
      · skip
        have hc := CoI.fin hI (fun r hr hb => by rw [h22, hasB_bt (by omega), b_0] at hb; cases hb)
        rw [hc] at hΦ
        refine g_iload_3 C dX4_closure_110 rfl ?_
        exact g_iret C rfl dX4_closure_111 hΦ
      · skip
        refine g_iload_4 C dX4_closure_25 rfl ?_
        refine g_istore_6 C rfl dX4_closure_27 rfl ?_
        refine g_iconst (v := 0) C dX4_closure_29 rfl (by decide) ?_
        refine g_istore_7 C rfl dX4_closure_30 rfl ?_
        have hlt : p < 10 := n_lt (b := 10) h17 (by omega) (by omega)
        refine lp_X4_closure_i C t S hW nr hnr hT set bb p wt (fun so' wt' v7 hI' hf => ?_) (nr + 1) 0 so wt (Nat.zero_le _) (by omega) hI (Or.inl ⟨rfl, fun q h => absurd h (Nat.not_lt_zero _)⟩)
        refine g_iload_4 C dX4_closure_94 rfl ?_
        refine g_iload_6 C dX4_closure_96 rfl ?_
        refine g_icmp_ne (tgt := 104) C dX4_closure_98 rfl (by decide) (fun h98 => ?_) (fun h98 => ?_)
        · skip
          refine g_iinc_5 (z := 1) C rfl dX4_closure_104 rfl (by decide) ?_
          refine g_goto (tgt := 13) C dX4_closure_107 (by decide) ?_
          rw [nI_1]
          exact ih (p + 1) so' wt' _ _ (by omega) (by omega) (hf.elim (fun z => absurd z.1 h98) (fun z => by omega)) hI'
        · skip
          refine g_goto (tgt := 110) C dX4_closure_101 (by decide) ?_
          have hc := CoI.fin hI' (hf.elim (fun z => z.2) (fun z => absurd (show mis wt 10 < mis wt 10 by rw [h98] at z; exact z) (Nat.lt_irrefl _)))
          rw [hc] at hΦ
          refine g_iload_3 C dX4_closure_110 rfl ?_
          exact g_iret C rfl dX4_closure_111 hΦ

theorem bt_low : ∀ n, n ≤ 16 → ∀ i, i < 32 → bt (one (nI n) - 1) i = decide (i < n) := by decide +kernel
set_option maxHeartbeats 4000000 in
set_option maxRecDepth 20000 in
theorem ok_X4_closure (set bb : Int32) (t : Nat) (S : Mem) (hW : TwK S t) (nr : Nat) (hnr : mI S t 4 = nI nr) (hT : Tn nr (mA S (t + 2))) : Ok yX4_closure cX4_closure 8 (some .int) 1 0 0 [.ref t, .int set, .int bb] S (RI (clo nr (mA S (t + 2)) (mA S (t + 3)) bb set) S) := by
  refine Ok.of (by decide) (Nat.le_of_ble_eq_true rfl) rfl (fun κ C hx => ?_)
  have C : Cx RX4 cX4_closure 8 (some .int) 1 false _ κ := C
  refine g_iload_1 C dX4_closure_0 rfl ?_
  refine g_istore_3 C rfl dX4_closure_1 rfl ?_
  refine g_iload_2 C dX4_closure_2 rfl ?_
  refine g_aload_0 C dX4_closure_3 rfl ?_
  refine g_cD0i C dX4_closure_4 rfl ml_X4_42 mz_X4_allRules (ok_X4_allRules t S hW) (by decide) rfl rfl hW.1 (by decide) rfl (Nat.le_of_ble_eq_true rfl) (fun hn4 => ?_)
  rw [hnr]
  refine g_iand C dX4_closure_7 rfl ?_
  refine g_istore_4 C rfl dX4_closure_8 rfl ?_
  refine g_iconst (v := 0) C dX4_closure_10 rfl (by decide) ?_
  refine g_istore_5 C rfl dX4_closure_11 rfl ?_
  have hle10 := hT.1
  refine lp_X4_closure_o C t S hW nr hnr hT set bb ⟨rfl, rfl⟩ 11 0 set (bb &&& (one (nI nr) - 1)) _ _ (Nat.zero_le _) (by omega) (Nat.zero_le _) ⟨⟨sub_refl set, fun z h _ => h⟩, fun r hr hb => Or.inl ?_, fun r hr hb => ?_⟩
  · rw [hasB_bt (by omega)] at hb ⊢
    rw [b_and, hb, bt_low nr (by omega) r (by omega), decide_eq_true hr]
    rfl
  · rw [hasB_bt (by omega), b_and] at hb
    rw [hasB_bt (by omega)]
    exact (Bool.and_eq_true _ _ ▸ hb).1

noncomputable def fitB (nr : Nat) (cn nd : Nat → Int32) (aw as ai : Nat → Int32) (bb : Int32) : Nat → Nat → Bool
  | 0, _ => true
  | n + 1, k => if bI (hasB (clo nr cn nd bb (aw k)) (as k)) = ai k then fitB nr cn nd aw as ai bb n (k + 1) else false
set_option maxHeartbeats 4000000 in
set_option maxRecDepth 20000 in
theorem lp_X3_fit {κ : Kx} {Φ : Option Value → Mem → Prop} (C : Cx RX3 cX3_fit 4 (some .boolean) 2 false Φ κ) (t : Nat) (S : Mem) (hW : TwK S t) (hR : Rs S) (nr : Nat) (hnr : mI S t 4 = nI nr) (hT : Tn nr (mA S (t + 2))) (an : Nat) (han : mI S 5 3 = nI an) (ha6 : an ≤ 6) (bb : Int32) : ∀ (n k : Nat), k + n = an → Φ (some (.int (bI (fitB nr (mA S (t + 2)) (mA S (t + 3)) (mA S 6) (mA S 7) (mA S 8) bb n k)))) S → G κ 0 0 S 2 [.ref 5, .ref t, .int bb, .int (nI k)] [] := by
  intro n
  induction n with
  | zero =>
    intro k hk hΦ
    refine g_iload_3 C dX3_fit_2 rfl ?_
    refine g_aload_0 C dX3_fit_3 rfl ?_
    refine g_geti C 3 dX3_fit_4 rfl rfl rfl fl_X3_22 ?_
    rw [han]
    refine g_icmp_ge (tgt := 47) C dX3_fit_7 rfl (by decide) (fun h7 => ?_) (fun h7 => absurd (nI_le (a := an) (b := k) (by omega) (by omega)) h7)
    refine g_iconst (v := 1) C dX3_fit_47 rfl (by decide) ?_
    exact g_zret C rfl dX3_fit_48 (by first | exact Or.inl rfl | exact Or.inr rfl | exact bI_01 _) hΦ
  | succ n ih =>
    intro k hk hΦ
    refine g_iload_3 C dX3_fit_2 rfl ?_
    refine g_aload_0 C dX3_fit_3 rfl ?_
    refine g_geti C 3 dX3_fit_4 rfl rfl rfl fl_X3_22 ?_
    rw [han]
    refine g_icmp_ge (tgt := 47) C dX3_fit_7 rfl (by decide) (fun h7 => absurd h7 (nI_ge (a := k) (b := an) (by omega) (by omega))) (fun h7 => ?_)
    refine g_aload_1 C dX3_fit_10 rfl ?_
    refine g_aload_0 C dX3_fit_11 rfl ?_
    refine g_getr C 0 dX3_fit_12 rfl rfl rfl fl_X3_9 (hR 5 0 6 rfl) ?_
    refine g_iload_3 C dX3_fit_15 rfl ?_
    refine g_iald C dX3_fit_16 rfl rfl (n_in (show k < 6 by omega) (by decide)) ?_
    rw [nI_clamp (show k < 2 ^ 31 by omega)]
    refine g_iload_2 C dX3_fit_17 rfl ?_
    refine g_cD2i C dX3_fit_18 rfl ml_X3_26 mz_X4_closure (ok_X4_closure _ _ t S hW nr hnr hT) (by decide) rfl rfl hW.1 (by decide) rfl (Nat.le_of_ble_eq_true rfl) (fun hn18 => ?_)
    refine g_aload_0 C dX3_fit_21 rfl ?_
    refine g_getr C 1 dX3_fit_22 rfl rfl rfl fl_X3_15 (hR 5 1 7 rfl) ?_
    refine g_iload_3 C dX3_fit_25 rfl ?_
    refine g_iald C dX3_fit_26 rfl rfl (n_in (show k < 6 by omega) (by decide)) ?_
    rw [nI_clamp (show k < 2 ^ 31 by omega)]
    refine g_cN2i C dX3_fit_27 rfl nl_X3_32 mz_X7_has (ok_X7_has _ _ S) (by decide) rfl rfl (Nat.le_of_ble_eq_true rfl) (fun hn27 => ?_)
    refine g_aload_0 C dX3_fit_30 rfl ?_
    refine g_getr C 2 dX3_fit_31 rfl rfl rfl fl_X3_18 (hR 5 2 8 rfl) ?_
    refine g_iload_3 C dX3_fit_34 rfl ?_
    refine g_zald C dX3_fit_35 rfl rfl (n_in (show k < 6 by omega) (by decide)) ?_
    rw [nI_clamp (show k < 2 ^ 31 by omega)]
    refine g_icmp_eq (tgt := 41) C dX3_fit_36 rfl (by decide) (fun h36 => ?_) (fun h36 => ?_)
    · skip
      refine g_iinc_3 (z := 1) C rfl dX3_fit_41 rfl (by decide) ?_
      refine g_goto (tgt := 2) C dX3_fit_44 (by decide) ?_
      rw [nI_1]
      exact ih (k + 1) (by omega) (by rw [show fitB nr (mA S (t + 2)) (mA S (t + 3)) (mA S 6) (mA S 7) (mA S 8) bb (n + 1) k = fitB nr (mA S (t + 2)) (mA S (t + 3)) (mA S 6) (mA S 7) (mA S 8) bb n (k + 1) from if_pos h36] at hΦ; exact hΦ)
    · skip
      refine g_iconst (v := 0) C dX3_fit_39 rfl (by decide) ?_
      exact g_zret C rfl dX3_fit_40 (by first | exact Or.inl rfl | exact Or.inr rfl | exact bI_01 _) (by rw [show fitB nr (mA S (t + 2)) (mA S (t + 3)) (mA S 6) (mA S 7) (mA S 8) bb (n + 1) k = false from if_neg h36] at hΦ; exact hΦ)

set_option maxHeartbeats 4000000 in
set_option maxRecDepth 20000 in
theorem ok_X3_fit (bb : Int32) (t : Nat) (S : Mem) (hW : TwK S t) (hR : Rs S) (nr : Nat) (hnr : mI S t 4 = nI nr) (hT : Tn nr (mA S (t + 2))) (an : Nat) (han : mI S 5 3 = nI an) (ha6 : an ≤ 6) : Ok yX3_fit cX3_fit 4 (some .boolean) 2 0 0 [.ref 5, .ref t, .int bb] S (RI (bI (fitB nr (mA S (t + 2)) (mA S (t + 3)) (mA S 6) (mA S 7) (mA S 8) bb an 0)) S) := by
  refine Ok.of (by decide) (Nat.le_of_ble_eq_true rfl) rfl (fun κ C hx => ?_)
  have C : Cx RX3 cX3_fit 4 (some .boolean) 2 false _ κ := C
  refine g_iconst (v := 0) C dX3_fit_0 rfl (by decide) ?_
  refine g_istore_3 C rfl dX3_fit_1 rfl ?_
  exact lp_X3_fit C t S hW hR nr hnr hT an han ha6 bb an 0 (by omega) ⟨rfl, rfl⟩

