/-- the rest of the memory, the model apart -/
def FX (S S2 : Mem) : Prop := mN S2 = mN S ∧ mK S2 = mK S ∧ mR S2 = mR S ∧ mQ S2 = mQ S ∧ ∀ a, a < 25 ∨ 44 ≤ a ∨ a = 30 → mI S2 a = mI S a ∧ mA S2 a = mA S a ∧ mL S2 a = mL S a
def twP (S : Mem) (tn : Nat) : Int32 → Mem → Prop := fun v S2 => FX S S2 ∧ mI S2 25 8 = 0 ∧ mI S2 25 6 = mI S 25 6 ∧ (match prF (mA S 30) tn (tn + 1) (0, 0, 0, mA S 31, mA S 32, mA S 33, 0) with
  | .inl (k, pl) => v = -10 - nI k ∧ (1 ≤ k ∧ k ≤ 4) ∧ mI S2 25 9 = nI pl ∧ (∀ j, j ≠ 8 → j ≠ 9 → j ≠ 10 → j ≠ 11 → j ≠ 12 → j ≠ 13 → j ≠ 14 → j ≠ 18 → mI S2 25 j = mI S 25 j) ∧ (∀ a, a < 31 ∨ 34 ≤ a → mA S2 a = mA S a)
  | .inr t => TauOk tn t ∧ v = nI t.2.2.1 ∧ mI S2 25 9 = -1 ∧ mI S2 25 0 = nI t.2.1 ∧ mI S2 25 1 = nI t.2.2.1 ∧ (∀ r, r < t.2.2.1 → mA S2 26 r = t.2.2.2.1 r ∧ mA S2 27 r = t.2.2.2.2.1 r ∧ mA S2 28 r = t.2.2.2.2.2.1 r) ∧ mA S2 29 0 = t.2.2.2.2.2.2 ∧ mA S2 29 1 = 0 ∧ mA S2 29 2 = 0 ∧ mA S2 29 3 = 0 ∧ mI S2 25 22 = 0 ∧ mI S2 25 27 = 0 ∧ mI S2 25 19 = 0 ∧ mA S2 43 0 = 0 ∧ mA S2 43 1 = 0)
/-- behind k copied rules -/
def cyI (T : Mem) (k : Nat) (T2 : Mem) : Prop := mN T2 = mN T ∧ mK T2 = mK T ∧ mI T2 = mI T ∧ mR T2 = mR T ∧ mL T2 = mL T ∧ mQ T2 = mQ T ∧ (∀ a, a ≠ 26 → a ≠ 27 → a ≠ 28 → mA T2 a = mA T a) ∧ ∀ r, r < k → mA T2 26 r = mA T 31 r ∧ mA T2 27 r = mA T 32 r ∧ mA T2 28 r = mA T 33 r
theorem mA_sAi (S : Mem) (p j : Nat) (x : Int32) (a b : Nat) : mA (sA S p j x) a b = if a = p then (if b = j then x else mA S a b) else mA S a b := rfl
theorem mA_sAne (S : Mem) (p j : Nat) (x : Int32) {a : Nat} (h : a ≠ p) : mA (sA S p j x) a = mA S a := by
  funext b
  rw [mA_sAi, if_neg h]
theorem cyI_s {T T2 : Mem} {k : Nat} (h : cyI T k T2) : cyI T (k + 1) (sA (sA (sA T2 26 k (mA T 31 k)) 27 k (mA T 32 k)) 28 k (mA T 33 k)) := by
  obtain ⟨h1, h2, h3, h4, h5, h6, h7, h8⟩ := h
  refine ⟨h1, h2, h3, h4, h5, h6, fun a a1 a2 a3 => ?_, fun r hr => ?_⟩
  · rw [mA_sAne _ _ _ _ a3, mA_sAne _ _ _ _ a2, mA_sAne _ _ _ _ a1]
    exact h7 a a1 a2 a3
  · by_cases e : r = k
    · subst e
      refine ⟨?_, ?_, ?_⟩
      · rw [mA_sAne _ _ _ _ (by decide), mA_sAne _ _ _ _ (by decide), mA_sAi, if_pos rfl, if_pos rfl]
      · rw [mA_sAne _ _ _ _ (by decide), mA_sAi, if_pos rfl, if_pos rfl]
      · rw [mA_sAi, if_pos rfl, if_pos rfl]
    · have hh := h8 r (by omega)
      refine ⟨?_, ?_, ?_⟩
      · rw [mA_sAne _ _ _ _ (by decide), mA_sAne _ _ _ _ (by decide), mA_sAi, if_pos rfl, if_neg e]; exact hh.1
      · rw [mA_sAne _ _ _ _ (by decide), mA_sAi, if_pos rfl, if_neg e, mA_sAne _ _ _ _ (by decide)]; exact hh.2.1
      · rw [mA_sAi, if_pos rfl, if_neg e, mA_sAne _ _ _ _ (by decide), mA_sAne _ _ _ _ (by decide)]; exact hh.2.2
set_option maxHeartbeats 4000000 in
set_option maxRecDepth 20000 in
theorem lp_X8_town_c {κ : Kx} {Φ : Option Value → Mem → Prop} (C : Cx RX8 cX8_town 3 (some .int) 5 false Φ κ) (T : Mem) (hR : Rs T) (nr : Nat) (hnr : mI T 25 1 = nI nr) (h10 : nr ≤ 10) (f : Int32) (K : ∀ (T2 : Mem) (v2 : Value), cyI T nr T2 → G κ 0 0 T2 128 [.ref 25, .int f, v2] []) : ∀ (n k : Nat) (T2 : Mem), k ≤ nr → nr + 1 ≤ k + n → cyI T k T2 → G κ 0 0 T2 78 [.ref 25, .int f, .int (nI k)] [] := by
  intro n
  induction n with
  | zero => intro k T2 h1 h2; exact absurd h2 (by omega)
  | succ n ih =>
    intro k T2 hk1 hk2 hI
    have hR2 : Rs T2 := fun p j r h => by rw [hI.2.2.2.1]; exact hR p j r h
    have eI : mI T2 25 1 = nI nr := by rw [hI.2.2.1]; exact hnr
    refine g_iload_2 C dX8_town_78 rfl ?_
    refine g_aload_0 C dX8_town_79 rfl ?_
    refine g_geti C 1 dX8_town_80 rfl rfl rfl fl_X8_77 ?_
    rw [eI]
    refine g_icmp_ge (tgt := 128) C dX8_town_83 rfl (by decide) (fun h83 => ?_) (fun h83 => ?_)
    · skip
      have hk : k = nr := by have := n_ge (b := nr) h83 (by omega) (by omega); omega
      rw [hk] at hI
      exact K T2 _ hI
    · skip
      refine g_aload_0 C dX8_town_86 rfl ?_
      have hk : k < nr := n_lt (b := nr) h83 (by omega) (by omega)
      refine g_getr C 2 dX8_town_87 rfl rfl rfl fl_X8_7 (hR2 25 2 26 rfl) ?_
      refine g_iload_2 C dX8_town_90 rfl ?_
      refine g_aload_0 C dX8_town_91 rfl ?_
      refine g_getr C 15 dX8_town_92 rfl rfl rfl fl_X8_29 (hR2 25 15 31 rfl) ?_
      refine g_iload_2 C dX8_town_95 rfl ?_
      refine g_iald C dX8_town_96 rfl rfl (n_in (show k < 10 by omega) (by decide)) ?_
      rw [nI_clamp (show k < 2 ^ 31 by omega), show mA T2 31 k = mA T 31 k from by rw [hI.2.2.2.2.2.2.1 31 (by decide) (by decide) (by decide)]]
      refine g_iast C dX8_town_97 rfl rfl (n_in (show k < 10 by omega) (by decide)) ?_
      rw [nI_clamp (show k < 2 ^ 31 by omega)]
      refine g_aload_0 C dX8_town_98 rfl ?_
      refine g_getr C 3 dX8_town_99 rfl rfl rfl fl_X8_13 (hR2 25 3 27 rfl) ?_
      refine g_iload_2 C dX8_town_102 rfl ?_
      refine g_aload_0 C dX8_town_103 rfl ?_
      refine g_getr C 16 dX8_town_104 rfl rfl rfl fl_X8_32 (hR2 25 16 32 rfl) ?_
      refine g_iload_2 C dX8_town_107 rfl ?_
      refine g_iald C dX8_town_108 rfl rfl (n_in (show k < 10 by omega) (by decide)) ?_
      rw [nI_clamp (show k < 2 ^ 31 by omega), mA_sAne _ _ _ _ (show 32 ≠ 26 by decide), show mA T2 32 k = mA T 32 k from by rw [hI.2.2.2.2.2.2.1 32 (by decide) (by decide) (by decide)]]
      refine g_iast C dX8_town_109 rfl rfl (n_in (show k < 10 by omega) (by decide)) ?_
      rw [nI_clamp (show k < 2 ^ 31 by omega)]
      refine g_aload_0 C dX8_town_110 rfl ?_
      refine g_getr C 4 dX8_town_111 rfl rfl rfl fl_X8_16 (hR2 25 4 28 rfl) ?_
      refine g_iload_2 C dX8_town_114 rfl ?_
      refine g_aload_0 C dX8_town_115 rfl ?_
      refine g_getr C 17 dX8_town_116 rfl rfl rfl fl_X8_35 (hR2 25 17 33 rfl) ?_
      refine g_iload_2 C dX8_town_119 rfl ?_
      refine g_iald C dX8_town_120 rfl rfl (n_in (show k < 10 by omega) (by decide)) ?_
      rw [nI_clamp (show k < 2 ^ 31 by omega), mA_sAne _ _ _ _ (show 33 ≠ 27 by decide), mA_sAne _ _ _ _ (show 33 ≠ 26 by decide), show mA T2 33 k = mA T 33 k from by rw [hI.2.2.2.2.2.2.1 33 (by decide) (by decide) (by decide)]]
      refine g_iast C dX8_town_121 rfl rfl (n_in (show k < 10 by omega) (by decide)) ?_
      rw [nI_clamp (show k < 2 ^ 31 by omega)]
      refine g_iinc_2 (z := 1) C rfl dX8_town_122 rfl (by decide) ?_
      refine g_goto (tgt := 78) C dX8_town_125 (by decide) ?_
      rw [nI_1]
      exact ih (k + 1) _ (by omega) (by omega) (cyI_s hI)

theorem mI_far {S : Mem} {a j : Nat} {x : Int32} (h : a ≠ 25) : mI (sI S 25 j x) a = mI S a := u2_nep _ _ _ _ h
set_option maxHeartbeats 4000000 in
set_option maxRecDepth 20000 in
theorem ok_X8_town (S : Mem) (hR : Rs S) (tn : Nat) (h8 : mI S 25 8 = nI tn) (hX : Tx (mA S 30) tn) : Ok yX8_town cX8_town 3 (some .int) 5 0 0 [.ref 25] S (RX (twP S tn)) := by
  have eS : S = zS S (mI S 25) (mA S 31) (mA S 32) (mA S 33) := (zS_self S).symm
  refine Ok.of (by decide) (Nat.le_of_ble_eq_true rfl) rfl (fun κ C hx => ?_)
  have C : Cx RX8 cX8_town 3 (some .int) 5 false _ κ := C
  refine g_aload_0 C dX8_town_0 rfl ?_
  refine g_iconst (v := -1) C dX8_town_1 rfl (by decide) ?_
  refine g_puti C 9 dX8_town_2 rfl rfl rfl (Or.inl rfl) fl_X8_25 ?_
  refine g_aload_0 C dX8_town_5 rfl ?_
  refine g_iconst (v := 0) C dX8_town_6 rfl (by decide) ?_
  refine g_puti C 10 dX8_town_7 rfl rfl rfl (Or.inl rfl) fl_X8_87 ?_
  refine g_aload_0 C dX8_town_10 rfl ?_
  refine g_iconst (v := 0) C dX8_town_11 rfl (by decide) ?_
  refine g_puti C 13 dX8_town_12 rfl rfl rfl (Or.inl rfl) fl_X8_111 ?_
  refine g_aload_0 C dX8_town_15 rfl ?_
  refine g_iconst (v := 0) C dX8_town_16 rfl (by decide) ?_
  refine g_puti C 14 dX8_town_17 rfl rfl rfl (Or.inl rfl) fl_X8_118 ?_
  refine g_aload_0 C dX8_town_20 rfl ?_
  refine g_iconst (v := 0) C dX8_town_21 rfl (by decide) ?_
  refine g_puti C 18 dX8_town_22 rfl rfl rfl (Or.inl rfl) fl_X8_125 ?_
  refine g_iconst (v := 0) C dX8_town_25 rfl (by decide) ?_
  refine g_istore_1 C rfl dX8_town_26 rfl ?_
  have key := lp_X8_town C S hR tn hX (tn + 1) 0 0 0 0 (upd (upd (upd (upd (upd (mI S 25) 9 (-1)) 10 0) 13 0) 14 0) 18 0) (mA S 31) (mA S 32) (mA S 33) (by omega) h8 rfl rfl rfl rfl ⟨Nat.zero_le _, Nat.zero_le _, Nat.zero_le _, fun r h => absurd h (Nat.not_lt_zero r), sub_0 _, fun _ => ⟨rfl, rfl⟩⟩ (fun v g2 a2 b2 c2 hf hq => ?_)
  · rw [← zS_sI, ← zS_sI, ← zS_sI, ← zS_sI, ← zS_sI, zS_self] at key
    exact key
  · unfold rdQ at hq
    cases hpr : prF (mA S 30) tn (tn + 1) (0, 0, 0, mA S 31, mA S 32, mA S 33, 0) with
    | inl f =>
      obtain ⟨k, pl⟩ := f
      rw [hpr] at hq
      have hpos : ¬ v ≤ 0 := by rw [hq.1]; exact nI_nle (by omega) (by omega)
      refine g_aload_0 C dX8_town_46 rfl ?_
      refine g_iconst (v := 0) C dX8_town_47 rfl (by decide) ?_
      refine g_puti C 8 dX8_town_48 rfl rfl rfl (Or.inl rfl) fl_X8_83 ?_
      rw [zS_sI]
      refine g_iload_1 C dX8_town_51 rfl ?_
      refine g_if_le (tgt := 60) C dX8_town_52 rfl (by decide) (fun h52 => absurd h52 hpos) (fun h52 => ?_)
      refine g_bipush (v := -10) C dX8_town_55 rfl (by decide) ?_
      refine g_iload_1 C dX8_town_57 rfl ?_
      refine g_isub C dX8_town_58 rfl ?_
      refine g_iret C rfl dX8_town_59 ⟨_, rfl, ⟨rfl, rfl, rfl, rfl, fun a ha => ⟨?_, ?_, rfl⟩⟩, rfl, ?_, ?_⟩
      · show u1 (mI S) 25 _ a = mI S a
        unfold u1
        rw [if_neg (by omega)]
      · show (if a = 31 then a2 else if a = 32 then b2 else if a = 33 then c2 else mA S a) = mA S a
        rw [if_neg (by omega), if_neg (by omega), if_neg (by omega)]
      · show upd g2 8 0 6 = _
        rw [upd_ne _ _ (by decide), hf 6 (by decide) (by decide) (by decide) (by decide) (by decide) (by decide) (by decide)]
        rfl
      · rw [hpr]
        refine ⟨by rw [hq.1], hq.2.1, hq.2.2, fun j n8 n9 n10 n11 n12 n13 n14 n18 => ?_, fun a ha => ?_⟩
        · show upd g2 8 0 j = _
          rw [upd_ne _ _ n8, hf j n9 n10 n11 n12 n13 n14 n18, upd_ne _ _ n18, upd_ne _ _ n14, upd_ne _ _ n13, upd_ne _ _ n10, upd_ne _ _ n9]
        · show (if a = 31 then a2 else if a = 32 then b2 else if a = 33 then c2 else mA S a) = mA S a
          rw [if_neg (by omega), if_neg (by omega), if_neg (by omega)]
    | inr t =>
      rw [hpr] at hq
      obtain ⟨hT, hv, q9, q13, q14, q18, qa, qb, qc⟩ := hq
      subst hv
      refine g_aload_0 C dX8_town_46 rfl ?_
      refine g_iconst (v := 0) C dX8_town_47 rfl (by decide) ?_
      refine g_puti C 8 dX8_town_48 rfl rfl rfl (Or.inl rfl) fl_X8_83 ?_
      rw [zS_sI]
      refine g_iload_1 C dX8_town_51 rfl ?_
      refine g_if_le (tgt := 60) C dX8_town_52 rfl (by decide) (fun h52 => ?_) (fun h52 => absurd (show (0 : Int32) ≤ 0 by decide) h52)
      refine g_aload_0 C dX8_town_60 rfl ?_
      refine g_aload_0 C dX8_town_61 rfl ?_
      refine g_geti C 13 dX8_town_62 rfl rfl rfl fl_X8_111 ?_
      rw [show mI (zS S (upd g2 8 0) a2 b2 c2) 25 13 = nI t.2.1 from q13]
      refine g_puti C 0 dX8_town_65 rfl rfl rfl (Or.inl rfl) fl_X8_70 ?_
      rw [zS_sI]
      refine g_aload_0 C dX8_town_68 rfl ?_
      refine g_aload_0 C dX8_town_69 rfl ?_
      refine g_geti C 14 dX8_town_70 rfl rfl rfl fl_X8_118 ?_
      rw [show mI (zS S (upd (upd g2 8 0) 0 (nI t.2.1)) a2 b2 c2) 25 14 = nI t.2.2.1 from q14]
      refine g_puti C 1 dX8_town_73 rfl rfl rfl (Or.inl rfl) fl_X8_77 ?_
      rw [zS_sI]
      refine g_iconst (v := 0) C dX8_town_76 rfl (by decide) ?_
      refine g_istore_2 C rfl dX8_town_77 rfl ?_
      generalize hT1 : zS S (upd (upd (upd g2 8 0) 0 (nI t.2.1)) 1 (nI t.2.2.1)) a2 b2 c2 = T
      have hRT : Rs T := by rw [← hT1]; exact hR
      have hn1 : mI T 25 1 = nI t.2.2.1 := by rw [← hT1]; rfl
      refine lp_X8_town_c C T hRT t.2.2.1 hn1 hT.2.2.1 0 (fun T2 v2 hI => ?_) (t.2.2.1 + 1) 0 T (Nat.zero_le _) (by omega) ⟨rfl, rfl, rfl, rfl, rfl, rfl, fun a _ _ _ => rfl, fun r h => absurd h (Nat.not_lt_zero r)⟩
      have hR2 : Rs T2 := fun p j r h => by rw [hI.2.2.2.1]; exact hRT p j r h
      obtain ⟨i1, i2, i3, i4, i5, i6, i7, i8⟩ := hI
      refine g_aload_0 C dX8_town_128 rfl ?_
      refine g_getr C 5 dX8_town_129 rfl rfl rfl fl_X8_19 (hR2 25 5 29 rfl) ?_
      refine g_iconst (v := 0) C dX8_town_132 rfl (by decide) ?_
      refine g_aload_0 C dX8_town_133 rfl ?_
      refine g_geti C 18 dX8_town_134 rfl rfl rfl fl_X8_125 ?_
      refine g_iast C dX8_town_137 rfl rfl (by first | exact n_in (k := 0) (N := 4) (by decide) (by decide) | exact n_in (k := 1) (N := 4) (by decide) (by decide) | exact n_in (k := 2) (N := 4) (by decide) (by decide) | exact n_in (k := 3) (N := 4) (by decide) (by decide)) ?_
      refine g_iconst (v := 1) C dX8_town_138 rfl (by decide) ?_
      refine g_istore_2 C rfl dX8_town_139 rfl ?_
      refine g_iload_2 C dX8_town_140 rfl ?_
      refine g_iconst (v := 4) C dX8_town_141 rfl (by decide) ?_
      refine g_icmp_ge (tgt := 158) C dX8_town_142 rfl (by decide) (fun h142 => absurd h142 (by decide)) (fun h142 => ?_)
      refine g_aload_0 C dX8_town_145 rfl ?_
      refine g_getr C 5 dX8_town_146 rfl rfl rfl fl_X8_19 (hR2 25 5 29 rfl) ?_
      refine g_iload_2 C dX8_town_149 rfl ?_
      refine g_iconst (v := 0) C dX8_town_150 rfl (by decide) ?_
      refine g_iast C dX8_town_151 rfl rfl (by first | exact n_in (k := 0) (N := 4) (by decide) (by decide) | exact n_in (k := 1) (N := 4) (by decide) (by decide) | exact n_in (k := 2) (N := 4) (by decide) (by decide) | exact n_in (k := 3) (N := 4) (by decide) (by decide)) ?_
      refine g_iinc_2 (z := 1) C rfl dX8_town_152 rfl (by decide) ?_
      refine g_goto (tgt := 140) C dX8_town_155 (by decide) ?_
      refine g_iload_2 C dX8_town_140 rfl ?_
      refine g_iconst (v := 4) C dX8_town_141 rfl (by decide) ?_
      refine g_icmp_ge (tgt := 158) C dX8_town_142 rfl (by decide) (fun h142 => absurd h142 (by decide)) (fun h142 => ?_)
      refine g_aload_0 C dX8_town_145 rfl ?_
      refine g_getr C 5 dX8_town_146 rfl rfl rfl fl_X8_19 (hR2 25 5 29 rfl) ?_
      refine g_iload_2 C dX8_town_149 rfl ?_
      refine g_iconst (v := 0) C dX8_town_150 rfl (by decide) ?_
      refine g_iast C dX8_town_151 rfl rfl (by first | exact n_in (k := 0) (N := 4) (by decide) (by decide) | exact n_in (k := 1) (N := 4) (by decide) (by decide) | exact n_in (k := 2) (N := 4) (by decide) (by decide) | exact n_in (k := 3) (N := 4) (by decide) (by decide)) ?_
      refine g_iinc_2 (z := 1) C rfl dX8_town_152 rfl (by decide) ?_
      refine g_goto (tgt := 140) C dX8_town_155 (by decide) ?_
      refine g_iload_2 C dX8_town_140 rfl ?_
      refine g_iconst (v := 4) C dX8_town_141 rfl (by decide) ?_
      refine g_icmp_ge (tgt := 158) C dX8_town_142 rfl (by decide) (fun h142 => absurd h142 (by decide)) (fun h142 => ?_)
      refine g_aload_0 C dX8_town_145 rfl ?_
      refine g_getr C 5 dX8_town_146 rfl rfl rfl fl_X8_19 (hR2 25 5 29 rfl) ?_
      refine g_iload_2 C dX8_town_149 rfl ?_
      refine g_iconst (v := 0) C dX8_town_150 rfl (by decide) ?_
      refine g_iast C dX8_town_151 rfl rfl (by first | exact n_in (k := 0) (N := 4) (by decide) (by decide) | exact n_in (k := 1) (N := 4) (by decide) (by decide) | exact n_in (k := 2) (N := 4) (by decide) (by decide) | exact n_in (k := 3) (N := 4) (by decide) (by decide)) ?_
      refine g_iinc_2 (z := 1) C rfl dX8_town_152 rfl (by decide) ?_
      refine g_goto (tgt := 140) C dX8_town_155 (by decide) ?_
      refine g_iload_2 C dX8_town_140 rfl ?_
      refine g_iconst (v := 4) C dX8_town_141 rfl (by decide) ?_
      refine g_icmp_ge (tgt := 158) C dX8_town_142 rfl (by decide) (fun h142 => ?_) (fun h142 => absurd (by decide) h142)
      refine g_aload_0 C dX8_town_158 rfl ?_
      refine g_iconst (v := 0) C dX8_town_159 rfl (by decide) ?_
      refine g_puti C 22 dX8_town_160 rfl rfl rfl (Or.inl rfl) fl_X8_140 ?_
      refine g_aload_0 C dX8_town_163 rfl ?_
      refine g_iconst (v := 0) C dX8_town_164 rfl (by decide) ?_
      refine g_puti C 27 dX8_town_165 rfl rfl rfl (Or.inl rfl) fl_X8_143 ?_
      refine g_aload_0 C dX8_town_168 rfl ?_
      refine g_iconst (v := 0) C dX8_town_169 rfl (by decide) ?_
      refine g_puti C 19 dX8_town_170 rfl rfl rfl (Or.inl rfl) fl_X8_146 ?_
      refine g_aload_0 C dX8_town_173 rfl ?_
      refine g_getr C 31 dX8_town_174 rfl rfl rfl fl_X8_67 (hR2 25 31 43 rfl) ?_
      refine g_iconst (v := 0) C dX8_town_177 rfl (by decide) ?_
      refine g_iconst (v := 0) C dX8_town_178 rfl (by decide) ?_
      refine g_zast C dX8_town_179 rfl rfl (by first | exact n_in (k := 0) (N := 2) (by decide) (by decide) | exact n_in (k := 1) (N := 2) (by decide) (by decide)) (by first | exact Or.inl rfl | exact Or.inr rfl) ?_
      refine g_aload_0 C dX8_town_180 rfl ?_
      refine g_getr C 31 dX8_town_181 rfl rfl rfl fl_X8_67 (hR2 25 31 43 rfl) ?_
      refine g_iconst (v := 1) C dX8_town_184 rfl (by decide) ?_
      refine g_iconst (v := 0) C dX8_town_185 rfl (by decide) ?_
      refine g_zast C dX8_town_186 rfl rfl (by first | exact n_in (k := 0) (N := 2) (by decide) (by decide) | exact n_in (k := 1) (N := 2) (by decide) (by decide)) (by first | exact Or.inl rfl | exact Or.inr rfl) ?_
      refine g_aload_0 C dX8_town_187 rfl ?_
      refine g_geti C 1 dX8_town_188 rfl rfl rfl fl_X8_77 ?_
      refine g_iret C rfl dX8_town_191 ⟨_, rfl, ⟨i1.trans (by rw [← hT1]; rfl), i2.trans (by rw [← hT1]; rfl), i4.trans (by rw [← hT1]; rfl), i6.trans (by rw [← hT1]; rfl), fun a ha => ⟨?_, ?_, ?_⟩⟩, ?_, ?_, ?_⟩
      · show u2 (u2 (u2 (mI T2) 25 22 0) 25 27 0) 25 19 0 a = mI S a
        rw [u2_nep _ _ _ _ (show a ≠ 25 by omega), u2_nep _ _ _ _ (show a ≠ 25 by omega), u2_nep _ _ _ _ (show a ≠ 25 by omega), i3, ← hT1]
        show u1 (mI S) 25 _ a = mI S a
        unfold u1
        rw [if_neg (by omega)]
      · show u2 (u2 (u2 (u2 (u2 (u2 (mA T2) 29 _ _) 29 _ _) 29 _ _) 29 _ _) 43 _ _) 43 _ _ a = _
        rw [u2_nep _ _ _ _ (show a ≠ 43 by omega), u2_nep _ _ _ _ (show a ≠ 43 by omega), u2_nep _ _ _ _ (show a ≠ 29 by omega), u2_nep _ _ _ _ (show a ≠ 29 by omega), u2_nep _ _ _ _ (show a ≠ 29 by omega), u2_nep _ _ _ _ (show a ≠ 29 by omega), i7 a (by omega) (by omega) (by omega), ← hT1]
        show (if a = 31 then a2 else if a = 32 then b2 else if a = 33 then c2 else mA S a) = mA S a
        rw [if_neg (by omega), if_neg (by omega), if_neg (by omega)]
      · show mL T2 a = mL S a
        rw [i5, ← hT1]
        rfl
      · show mI T2 25 8 = 0
        rw [i3, ← hT1]
        rfl
      · show mI T2 25 6 = _
        rw [i3, ← hT1]
        show g2 6 = _
        rw [hf 6 (by decide) (by decide) (by decide) (by decide) (by decide) (by decide) (by decide)]
        rfl
      · rw [hpr]
        have e31 : mA T 31 = a2 := by rw [← hT1]; rfl
        have e32 : mA T 32 = b2 := by rw [← hT1]; rfl
        have e33 : mA T 33 = c2 := by rw [← hT1]; rfl
        refine ⟨hT, ?_, ?_, ?_, ?_, fun r hr => ?_, ?_, rfl, rfl, rfl, rfl, rfl, rfl, rfl, rfl⟩
        · show mI T2 25 1 = _
          rw [i3]; exact hn1
        · show mI T2 25 9 = -1
          rw [i3, ← hT1]; exact q9
        · show mI T2 25 0 = _
          rw [i3, ← hT1]; rfl
        · show mI T2 25 1 = _
          rw [i3]; exact hn1
        · have h := i8 r hr
          rw [e31, e32, e33, qa, qb, qc] at h
          exact h
        · show mI T2 25 18 = _
          rw [i3, ← hT1]; exact q18

