noncomputable def tl7 (S : Mem) (t nw th nr k : Nat) : Int32 := match k with | 0 => nI th | 1 => nI nr | 2 => mI S 1 1 | 3 => mI S nw 0 | 4 => mI S nw 1 | 5 => mI S nw 2 | 6 => mI S nw 3 | 7 => (clo nr (mA (tS S t nw nr) (t + 2)) (mA (tS S t nw nr) (t + 3)) (mI (tS S t nw nr) (mN S) 2) (mI (tS S t nw nr) (mN S) 1)) | 8 => qcF (clo nr (mA (tS S t nw nr) (t + 2)) (mA (tS S t nw nr) (t + 3)) (mI (tS S t nw nr) (mN S) 2) (mI (tS S t nw nr) (mN S) 1)) th | 9 => qcF (mI S nw 1) th | 10 => mI S 5 3 | 11 => mI S 9 2 | _ => mI S 3 1
noncomputable def tl7M (S : Mem) (t nw nr k : Nat) : Mem := match k with | 7 => (tS S t nw nr) | 8 => (tS S t nw nr) | _ => S
noncomputable def to7V (S : Mem) (t nw th nr : Nat) (wh : Int32) : Int32 := if inI wh 0 12 = true then tl7 S t nw th nr wh.toNatClampNeg else -1000000002
noncomputable def to7S (S : Mem) (t nw nr : Nat) (wh : Int32) : Mem := if inI wh 0 12 = true then tl7M S t nw nr wh.toNatClampNeg else S
theorem to7_in {S : Mem} {t nw th nr k : Nat} (h : k ≤ 12) : to7V S t nw th nr (nI k) = tl7 S t nw th nr k := by
  unfold to7V
  rw [if_pos (inI_lo (M := 12) (n := 12) rfl (by decide) h rfl), nI_clamp (by omega)]
theorem to7_m {S : Mem} {t nw nr k : Nat} (h : k ≤ 12) : to7S S t nw nr (nI k) = tl7M S t nw nr k := by
  unfold to7S
  rw [if_pos (inI_lo (M := 12) (n := 12) rfl (by decide) h rfl), nI_clamp (by omega)]
set_option maxHeartbeats 4000000 in
set_option maxRecDepth 20000 in
theorem ok_X7_told (wh : Int32) (S : Mem) (t nw th nr : Nat) (hC : CW S t nw th nr) : Ok yX7_told cX7_told 2 (some .int) 3 1 3 [.ref 0, .int wh] S (RI (to7V S t nw th nr wh) (to7S S t nw nr wh)) := by
  have hR := hC.1.1
  refine Ok.of (by decide) (Nat.le_of_ble_eq_true rfl) rfl (fun κ C hx => ?_)
  have C : Cx RX7 cX7_told 2 (some .int) 3 false _ κ := C
  refine g_iload_1 C dX7_told_0 rfl ?_
  cases hin : inI wh 0 12 with
  | false =>
    refine g_tableOut (tgt := 186) C dX7_told_1 (inI_out (n := 12) rfl hin) (by decide) ?_
    have eV : to7V S t nw th nr wh = -1000000002 := if_neg (by rw [hin]; decide)
    have eS : to7S S t nw nr wh = S := if_neg (by rw [hin]; decide)
    refine g_ldc C dX7_told_186 rfl kc_X7_75 ?_
    exact g_iret C rfl dX7_told_188 ⟨by rw [eV], by rw [eS]⟩
  | true =>
    obtain ⟨k, hk, e⟩ := inI_of (n := 12) rfl hin
    subst e
    match k, hk with
    | 0, _ =>
      refine g_tableIn (off := 67) (tgt := 68) C dX7_told_1 (by decide) (by decide) (by decide) (by decide) ?_
      refine g_aload_0 C dX7_told_68 rfl ?_
      refine g_getr C 8 dX7_told_69 rfl rfl rfl fl_X7_57 hC.2.1.1 ?_
      refine g_getiD C 3 dX7_told_72 rfl hC.2.2.1.1 (by decide) (by decide) rfl fl_X7_112 ?_
      rw [hC.2.2.2.2.1.1]
      exact g_iret C rfl dX7_told_75 ⟨by rw [to7_in (k := 0) (by decide)] <;> rfl, by rw [to7_m (k := 0) (by decide)] <;> rfl⟩
    | 1, _ =>
      refine g_tableIn (off := 75) (tgt := 76) C dX7_told_1 (by decide) (by decide) (by decide) (by decide) ?_
      refine g_aload_0 C dX7_told_76 rfl ?_
      refine g_getr C 8 dX7_told_77 rfl rfl rfl fl_X7_57 hC.2.1.1 ?_
      refine g_getiD C 4 dX7_told_80 rfl hC.2.2.1.1 (by decide) (by decide) rfl fl_X7_98 ?_
      rw [hC.2.2.2.2.2.1]
      exact g_iret C rfl dX7_told_83 ⟨by rw [to7_in (k := 1) (by decide)] <;> rfl, by rw [to7_m (k := 1) (by decide)] <;> rfl⟩
    | 2, _ =>
      refine g_tableIn (off := 83) (tgt := 84) C dX7_told_1 (by decide) (by decide) (by decide) (by decide) ?_
      refine g_aload_0 C dX7_told_84 rfl ?_
      refine g_getr C 0 dX7_told_85 rfl rfl rfl fl_X7_12 (hR 0 0 1 rfl) ?_
      refine g_cV0i C dX7_told_88 rfl ml_X7_80 mz_X5_length (ok_X5_length S) (by decide) rfl rfl rfl rfl (Nat.le_of_ble_eq_true rfl) (fun hn88 => ?_)
      exact g_iret C rfl dX7_told_91 ⟨by rw [to7_in (k := 2) (by decide)] <;> rfl, by rw [to7_m (k := 2) (by decide)] <;> rfl⟩
    | 3, _ =>
      refine g_tableIn (off := 91) (tgt := 92) C dX7_told_1 (by decide) (by decide) (by decide) (by decide) ?_
      refine g_aload_0 C dX7_told_92 rfl ?_
      refine g_getr C 10 dX7_told_93 rfl rfl rfl fl_X7_67 hC.2.1.2 ?_
      refine g_getiD C 0 dX7_told_96 rfl hC.2.2.2.1 (by decide) (by decide) rfl fl_X7_115 ?_
      exact g_iret C rfl dX7_told_99 ⟨by rw [to7_in (k := 3) (by decide)] <;> rfl, by rw [to7_m (k := 3) (by decide)] <;> rfl⟩
    | 4, _ =>
      refine g_tableIn (off := 99) (tgt := 100) C dX7_told_1 (by decide) (by decide) (by decide) (by decide) ?_
      refine g_aload_0 C dX7_told_100 rfl ?_
      refine g_getr C 10 dX7_told_101 rfl rfl rfl fl_X7_67 hC.2.1.2 ?_
      refine g_getiD C 1 dX7_told_104 rfl hC.2.2.2.1 (by decide) (by decide) rfl fl_X7_118 ?_
      exact g_iret C rfl dX7_told_107 ⟨by rw [to7_in (k := 4) (by decide)] <;> rfl, by rw [to7_m (k := 4) (by decide)] <;> rfl⟩
    | 5, _ =>
      refine g_tableIn (off := 107) (tgt := 108) C dX7_told_1 (by decide) (by decide) (by decide) (by decide) ?_
      refine g_aload_0 C dX7_told_108 rfl ?_
      refine g_getr C 10 dX7_told_109 rfl rfl rfl fl_X7_67 hC.2.1.2 ?_
      refine g_getiD C 2 dX7_told_112 rfl hC.2.2.2.1 (by decide) (by decide) rfl fl_X7_121 ?_
      exact g_iret C rfl dX7_told_115 ⟨by rw [to7_in (k := 5) (by decide)] <;> rfl, by rw [to7_m (k := 5) (by decide)] <;> rfl⟩
    | 6, _ =>
      refine g_tableIn (off := 115) (tgt := 116) C dX7_told_1 (by decide) (by decide) (by decide) (by decide) ?_
      refine g_aload_0 C dX7_told_116 rfl ?_
      refine g_getr C 10 dX7_told_117 rfl rfl rfl fl_X7_67 hC.2.1.2 ?_
      refine g_getiD C 3 dX7_told_120 rfl hC.2.2.2.1 (by decide) (by decide) rfl fl_X7_124 ?_
      exact g_iret C rfl dX7_told_123 ⟨by rw [to7_in (k := 6) (by decide)] <;> rfl, by rw [to7_m (k := 6) (by decide)] <;> rfl⟩
    | 7, _ =>
      refine g_tableIn (off := 123) (tgt := 124) C dX7_told_1 (by decide) (by decide) (by decide) (by decide) ?_
      refine g_aload_0 C dX7_told_124 rfl ?_
      refine g_cV0r C dX7_told_125 rfl ml_X7_127 mz_X7_trialNow (ok_X7_trialNow S t nw th nr hC) (by decide) rfl rfl rfl rfl (Nat.le_of_ble_eq_true rfl) (fun hn125 => ?_)
      refine g_cD0i C dX7_told_128 rfl ml_X7_131 mz_X6_conclusions (ok_X6_conclusions (mN S) t (tS S t nw nr) (trS_K _ _ _ _) (trS_R _ _ _ _) (hC.ext (trS_ext S t (mI S nw 0) (alw (nI nr) (mI S nw 2)))).2.2.1 nr (hC.ext (trS_ext S t (mI S nw 0) (alw (nI nr) (mI S nw 2)))).2.2.2.2.2.1 (hC.ext (trS_ext S t (mI S nw 0) (alw (nI nr) (mI S nw 2)))).2.2.2.2.2.2.1) (by decide) rfl rfl (trS_K S t (mI S nw 0) (alw (nI nr) (mI S nw 2))) (by decide) rfl (Nat.le_of_ble_eq_true rfl) (fun hn128 => ?_)
      exact g_iret C rfl dX7_told_131 ⟨by rw [to7_in (k := 7) (by decide)] <;> rfl, by rw [to7_m (k := 7) (by decide)] <;> rfl⟩
    | 8, _ =>
      refine g_tableIn (off := 131) (tgt := 132) C dX7_told_1 (by decide) (by decide) (by decide) (by decide) ?_
      refine g_aload_0 C dX7_told_132 rfl ?_
      refine g_getr C 8 dX7_told_133 rfl rfl rfl fl_X7_57 hC.2.1.1 ?_
      refine g_aload_0 C dX7_told_136 rfl ?_
      refine g_cV0r C dX7_told_137 rfl ml_X7_127 mz_X7_trialNow (ok_X7_trialNow S t nw th nr hC) (by decide) rfl rfl rfl rfl (Nat.le_of_ble_eq_true rfl) (fun hn137 => ?_)
      refine g_cD0i C dX7_told_140 rfl ml_X7_131 mz_X6_conclusions (ok_X6_conclusions (mN S) t (tS S t nw nr) (trS_K _ _ _ _) (trS_R _ _ _ _) (hC.ext (trS_ext S t (mI S nw 0) (alw (nI nr) (mI S nw 2)))).2.2.1 nr (hC.ext (trS_ext S t (mI S nw 0) (alw (nI nr) (mI S nw 2)))).2.2.2.2.2.1 (hC.ext (trS_ext S t (mI S nw 0) (alw (nI nr) (mI S nw 2)))).2.2.2.2.2.2.1) (by decide) rfl rfl (trS_K S t (mI S nw 0) (alw (nI nr) (mI S nw 2))) (by decide) rfl (Nat.le_of_ble_eq_true rfl) (fun hn140 => ?_)
      refine g_cD1i C dX7_told_143 rfl ml_X7_136 mz_X4_quarrelsIn (ok_X4_quarrelsIn _ t (tS S t nw nr) (hC.ext (trS_ext S t (mI S nw 0) (alw (nI nr) (mI S nw 2)))).2.2.1 th (hC.ext (trS_ext S t (mI S nw 0) (alw (nI nr) (mI S nw 2)))).2.2.2.2.1.1 (hC.ext (trS_ext S t (mI S nw 0) (alw (nI nr) (mI S nw 2)))).2.2.2.2.1.2) (by decide) rfl rfl (hC.ext (trS_ext S t (mI S nw 0) (alw (nI nr) (mI S nw 2)))).2.2.1.1 (by decide) rfl (Nat.le_of_ble_eq_true rfl) (fun hn143 => ?_)
      exact g_iret C rfl dX7_told_146 ⟨by rw [to7_in (k := 8) (by decide)] <;> rfl, by rw [to7_m (k := 8) (by decide)] <;> rfl⟩
    | 9, _ =>
      refine g_tableIn (off := 146) (tgt := 147) C dX7_told_1 (by decide) (by decide) (by decide) (by decide) ?_
      refine g_aload_0 C dX7_told_147 rfl ?_
      refine g_getr C 8 dX7_told_148 rfl rfl rfl fl_X7_57 hC.2.1.1 ?_
      refine g_aload_0 C dX7_told_151 rfl ?_
      refine g_getr C 10 dX7_told_152 rfl rfl rfl fl_X7_67 hC.2.1.2 ?_
      refine g_getiD C 1 dX7_told_155 rfl hC.2.2.2.1 (by decide) (by decide) rfl fl_X7_118 ?_
      refine g_cD1i C dX7_told_158 rfl ml_X7_136 mz_X4_quarrelsIn (ok_X4_quarrelsIn _ t S hC.2.2.1 th hC.2.2.2.2.1.1 hC.2.2.2.2.1.2) (by decide) rfl rfl hC.2.2.1.1 (by decide) rfl (Nat.le_of_ble_eq_true rfl) (fun hn158 => ?_)
      exact g_iret C rfl dX7_told_161 ⟨by rw [to7_in (k := 9) (by decide)] <;> rfl, by rw [to7_m (k := 9) (by decide)] <;> rfl⟩
    | 10, _ =>
      refine g_tableIn (off := 161) (tgt := 162) C dX7_told_1 (by decide) (by decide) (by decide) (by decide) ?_
      refine g_aload_0 C dX7_told_162 rfl ?_
      refine g_getr C 2 dX7_told_163 rfl rfl rfl fl_X7_26 (hR 0 2 5 rfl) ?_
      refine g_cV0i C dX7_told_166 rfl ml_X7_140 mz_X3_size (ok_X3_size S) (by decide) rfl rfl rfl rfl (Nat.le_of_ble_eq_true rfl) (fun hn166 => ?_)
      exact g_iret C rfl dX7_told_169 ⟨by rw [to7_in (k := 10) (by decide)] <;> rfl, by rw [to7_m (k := 10) (by decide)] <;> rfl⟩
    | 11, _ =>
      refine g_tableIn (off := 169) (tgt := 170) C dX7_told_1 (by decide) (by decide) (by decide) (by decide) ?_
      refine g_aload_0 C dX7_told_170 rfl ?_
      refine g_getr C 3 dX7_told_171 rfl rfl rfl fl_X7_33 (hR 0 3 9 rfl) ?_
      refine g_cV0i C dX7_told_174 rfl ml_X7_143 mz_X0_size (ok_X0_size S) (by decide) rfl rfl rfl rfl (Nat.le_of_ble_eq_true rfl) (fun hn174 => ?_)
      exact g_iret C rfl dX7_told_177 ⟨by rw [to7_in (k := 11) (by decide)] <;> rfl, by rw [to7_m (k := 11) (by decide)] <;> rfl⟩
    | 12, _ =>
      refine g_tableIn (off := 177) (tgt := 178) C dX7_told_1 (by decide) (by decide) (by decide) (by decide) ?_
      refine g_aload_0 C dX7_told_178 rfl ?_
      refine g_getr C 1 dX7_told_179 rfl rfl rfl fl_X7_19 (hR 0 1 3 rfl) ?_
      refine g_cV0i C dX7_told_182 rfl ml_X7_144 mz_X1_size (ok_X1_size S) (by decide) rfl rfl rfl rfl (Nat.le_of_ble_eq_true rfl) (fun hn182 => ?_)
      exact g_iret C rfl dX7_told_185 ⟨by rw [to7_in (k := 12) (by decide)] <;> rfl, by rw [to7_m (k := 12) (by decide)] <;> rfl⟩
    | k + 13, h => exact absurd h (by omega)

def rl7 (S : Mem) (t nw r k : Nat) : Int32 := match k with | 0 => mA S (t + 1) r | 1 => mA S (t + 2) r | 2 => mA S (t + 3) r | _ => bI (hasB (mI S nw 2) (nI r))
def ru7V (S : Mem) (t nw nr : Nat) (r wh : Int32) : Int32 := if hsB (nI nr) r = true then (if inI wh 0 3 = true then rl7 S t nw r.toNatClampNeg wh.toNatClampNeg else -1000000002) else -1000000001
theorem hsB_in {n : Nat} {r : Int32} (hn : n < 2147483648) (h : hsB (nI n) r = true) : ∃ j : Nat, j < n ∧ r = nI j := by
  have h1 := of_decide_eq_true h
  obtain ⟨j, hj, e⟩ := nI_of (i_not_lt h1.1)
  refine ⟨j, ?_, e⟩
  rw [e] at h1
  exact n_lt' h1.2 (by omega) hn
theorem ru7_in {S : Mem} {t nw nr j k : Nat} (h10 : nr ≤ 10) (hj : j < nr) (hr : hsB (nI nr) (nI j) = true) (h : k ≤ 3) : ru7V S t nw nr (nI j) (nI k) = rl7 S t nw j k := by
  unfold ru7V
  rw [if_pos hr, if_pos (inI_lo (M := 3) (n := 3) rfl (by decide) h rfl), nI_clamp (by omega), nI_clamp (by omega)]
set_option maxHeartbeats 4000000 in
set_option maxRecDepth 20000 in
theorem ok_X7_rule (r wh : Int32) (S : Mem) (t nw th nr : Nat) (hC : CW S t nw th nr) : Ok yX7_rule cX7_rule 3 (some .int) 1 0 0 [.ref 0, .int r, .int wh] S (RI (ru7V S t nw nr r wh) S) := by
  have h10 := hC.2.2.2.2.2.2.1.1
  refine Ok.of (by decide) (Nat.le_of_ble_eq_true rfl) rfl (fun κ C hx => ?_)
  have C : Cx RX7 cX7_rule 3 (some .int) 1 false _ κ := C
  refine g_aload_0 C dX7_rule_0 rfl ?_
  refine g_getr C 8 dX7_rule_1 rfl rfl rfl fl_X7_57 hC.2.1.1 ?_
  refine g_iload_1 C dX7_rule_4 rfl ?_
  refine g_cD1i C dX7_rule_5 rfl ml_X7_145 mz_X4_hasRule (ok_X4_hasRule _ t S hC.2.2.1) (by decide) rfl rfl hC.2.2.1.1 (by decide) rfl (Nat.le_of_ble_eq_true rfl) (fun hn5 => ?_)
  rw [hC.2.2.2.2.2.1]
  refine g_if_ne (tgt := 14) C dX7_rule_8 rfl (by decide) (fun h8 => ?_) (fun h8 => ?_)
  · skip
    have hr : hsB (nI nr) r = true := nf_t (fun q => h8 ((bI_0 _).mpr q))
    obtain ⟨j, hj, e⟩ := hsB_in (by omega) hr
    subst e
    refine g_iload_2 C dX7_rule_14 rfl ?_
    cases hin : inI wh 0 3 with
    | false =>
      refine g_tableOut (tgt := 94) C dX7_rule_15 (inI_out (n := 3) rfl hin) (by decide) ?_
      have eV : ru7V S t nw nr (nI j) wh = -1000000002 := by unfold ru7V; rw [if_pos hr, if_neg (by rw [hin]; decide)]
      refine g_ldc C dX7_rule_94 rfl kc_X7_75 ?_
      exact g_iret C rfl dX7_rule_96 ⟨by rw [eV], rfl⟩
    | true =>
      obtain ⟨k, hk, e⟩ := inI_of (n := 3) rfl hin
      subst e
      match k, hk with
      | 0, _ =>
        refine g_tableIn (off := 29) (tgt := 44) C dX7_rule_15 (by decide) (by decide) (by decide) (by decide) ?_
        refine g_aload_0 C dX7_rule_44 rfl ?_
        refine g_getr C 8 dX7_rule_45 rfl rfl rfl fl_X7_57 hC.2.1.1 ?_
        refine g_getrD C 0 dX7_rule_48 rfl hC.2.2.1.1 (by decide) (by decide) rfl fl_X7_149 hC.2.2.1.2.1 ?_
        refine g_iload_1 C dX7_rule_51 rfl ?_
        refine g_ialdD (N := 10) C dX7_rule_52 rfl hC.2.2.1.2.2.2.2.1 (n_in (show j < 10 by omega) (by decide)) ?_
        rw [nI_clamp (show j < 2 ^ 31 by omega)]
        exact g_iret C rfl dX7_rule_53 ⟨by rw [ru7_in (k := 0) h10 hj hr (by decide)] <;> rfl, rfl⟩
      | 1, _ =>
        refine g_tableIn (off := 39) (tgt := 54) C dX7_rule_15 (by decide) (by decide) (by decide) (by decide) ?_
        refine g_aload_0 C dX7_rule_54 rfl ?_
        refine g_getr C 8 dX7_rule_55 rfl rfl rfl fl_X7_57 hC.2.1.1 ?_
        refine g_getrD C 1 dX7_rule_58 rfl hC.2.2.1.1 (by decide) (by decide) rfl fl_X7_152 hC.2.2.1.2.2.1 ?_
        refine g_iload_1 C dX7_rule_61 rfl ?_
        refine g_ialdD (N := 10) C dX7_rule_62 rfl hC.2.2.1.2.2.2.2.2.1 (n_in (show j < 10 by omega) (by decide)) ?_
        rw [nI_clamp (show j < 2 ^ 31 by omega)]
        exact g_iret C rfl dX7_rule_63 ⟨by rw [ru7_in (k := 1) h10 hj hr (by decide)] <;> rfl, rfl⟩
      | 2, _ =>
        refine g_tableIn (off := 49) (tgt := 64) C dX7_rule_15 (by decide) (by decide) (by decide) (by decide) ?_
        refine g_aload_0 C dX7_rule_64 rfl ?_
        refine g_getr C 8 dX7_rule_65 rfl rfl rfl fl_X7_57 hC.2.1.1 ?_
        refine g_getrD C 2 dX7_rule_68 rfl hC.2.2.1.1 (by decide) (by decide) rfl fl_X7_155 hC.2.2.1.2.2.2.1 ?_
        refine g_iload_1 C dX7_rule_71 rfl ?_
        refine g_ialdD (N := 10) C dX7_rule_72 rfl hC.2.2.1.2.2.2.2.2.2 (n_in (show j < 10 by omega) (by decide)) ?_
        rw [nI_clamp (show j < 2 ^ 31 by omega)]
        exact g_iret C rfl dX7_rule_73 ⟨by rw [ru7_in (k := 2) h10 hj hr (by decide)] <;> rfl, rfl⟩
      | 3, _ =>
        refine g_tableIn (off := 59) (tgt := 74) C dX7_rule_15 (by decide) (by decide) (by decide) (by decide) ?_
        refine g_aload_0 C dX7_rule_74 rfl ?_
        refine g_getr C 10 dX7_rule_75 rfl rfl rfl fl_X7_67 hC.2.1.2 ?_
        refine g_getiD C 2 dX7_rule_78 rfl hC.2.2.2.1 (by decide) (by decide) rfl fl_X7_121 ?_
        refine g_iload_1 C dX7_rule_81 rfl ?_
        refine g_cS2i C dX7_rule_82 rfl ml_X7_158 mz_X7_has (ok_X7_has _ _ S) (by decide) rfl rfl (Nat.le_of_ble_eq_true rfl) (fun hn82 => ?_)
        refine g_if_eq (tgt := 92) C dX7_rule_85 rfl (by decide) (fun h85 => ?_) (fun h85 => ?_)
        · skip
          refine g_iconst (v := 0) C dX7_rule_92 rfl (by decide) ?_
          exact g_iret C rfl dX7_rule_93 ⟨by rw [ru7_in (k := 3) h10 hj hr (by decide), show rl7 S t nw j 3 = bI (hasB (mI S nw 2) (nI j)) from rfl, (bI_0 _).mp h85] <;> rfl, rfl⟩
        · skip
          refine g_iconst (v := 1) C dX7_rule_88 rfl (by decide) ?_
          refine g_goto (tgt := 93) C dX7_rule_89 (by decide) ?_
          exact g_iret C rfl dX7_rule_93 ⟨by rw [ru7_in (k := 3) h10 hj hr (by decide), show rl7 S t nw j 3 = bI (hasB (mI S nw 2) (nI j)) from rfl, (nf_t (fun q => h85 ((bI_0 _).mpr q)))] <;> rfl, rfl⟩
      | k + 4, h => exact absurd h (by omega)
  · skip
    refine g_ldc C dX7_rule_11 rfl kc_X7_148 ?_
    exact g_iret C rfl dX7_rule_13 ⟨by unfold ru7V; rw [if_neg (by rw [(bI_0 _).mp h8]; decide)], rfl⟩

