theorem sd_at (S : Mem) (x : Int32) : mI (sI S 0 11 x) 0 11 = x := rfl
noncomputable def dq7 (S : Mem) (t nw th nr k : Nat) : Int32 × Int32 × Int32 × Int32 := df7 nr (mA S (t + 2)) (mA S (t + 3)) (alw (nI nr) (mI S nw 2)) (2 * nI th) (mI S 0 11, mI S nw 0, mI S nw 1, mI S nw 3) k
theorem dq7_s (S : Mem) (t nw th nr k : Nat) : dq7 S t nw th nr (k + 1) = day7 nr (mA S (t + 2)) (mA S (t + 3)) (alw (nI nr) (mI S nw 2)) (2 * nI th) (dq7 S t nw th nr k) := rfl
set_option maxHeartbeats 4000000 in
set_option maxRecDepth 20000 in
theorem lp_X7_drift {κ : Kx} {Φ : Option Value → Mem → Prop} (C : Cx RX7 cX7_drift 7 (some .int) 3 false Φ κ) (S : Mem) (t nw th nr : Nat) (hC : CW S t nw th nr) (N : Nat) (hN : N ≤ 60) (K : ∀ v6 : Value, G κ 1 4 (sI S 0 11 (dq7 S t nw th nr N).1) 139 [.ref 0, .int (nI N), .int (dq7 S t nw th nr N).2.1, .int (dq7 S t nw th nr N).2.2.1, .int (dq7 S t nw th nr N).2.2.2, .int (nI N), v6] []) : ∀ (n k : Nat) (v6 : Value), k ≤ N → N + 1 ≤ k + n → G κ 1 4 (sI S 0 11 (dq7 S t nw th nr k).1) 71 [.ref 0, .int (nI N), .int (dq7 S t nw th nr k).2.1, .int (dq7 S t nw th nr k).2.2.1, .int (dq7 S t nw th nr k).2.2.2, .int (nI k), v6] [] := by
  intro n
  induction n with
  | zero => intro k v6 h1 h2; exact absurd h2 (by omega)
  | succ n ih =>
    intro k v6 hk1 hk2
    refine g_iload_5 C dX7_drift_71 rfl ?_
    refine g_iload_1 C dX7_drift_73 rfl ?_
    refine g_icmp_ge (tgt := 139) C dX7_drift_74 rfl (by decide) (fun h74 => ?_) (fun h74 => ?_)
    · skip
      have hk : k = N := by have := n_ge (b := N) h74 (by omega) (by omega); omega
      rw [hk]
      exact K _
    · skip
      refine g_aload_0 C dX7_drift_77 rfl ?_
      refine g_aload_0 C dX7_drift_78 rfl ?_
      refine g_getr C 8 dX7_drift_79 rfl rfl rfl fl_X7_57 (hC.sd _).2.1.1 ?_
      refine g_cD0i C dX7_drift_82 rfl ml_X7_185 mz_X4_sayings (ok_X4_sayings t _ (hC.sd _).2.2.1) (by decide) rfl rfl (hC.sd _).2.2.1.1 (by decide) rfl (Nat.le_of_ble_eq_true rfl) (fun hn82 => ?_)
      rw [(hC.sd _).2.2.2.2.1.1]
      refine g_cV1i C dX7_drift_85 rfl ml_X7_188 mz_X7_draw (ok_X7_draw _ _) (by decide) rfl rfl rfl rfl (Nat.le_of_ble_eq_true rfl) (fun hn85 => ?_)
      rw [sd_at, sI_sI]
      refine g_istore_6 C rfl dX7_drift_88 rfl ?_
      refine g_iload_2 C dX7_drift_90 rfl ?_
      refine g_iload_6 C dX7_drift_91 rfl ?_
      refine g_iconst (v := 1) C dX7_drift_93 rfl (by decide) ?_
      refine g_cS3i C dX7_drift_94 rfl ml_X7_165 mz_X7_put (ok_X7_put _ _ _ _) (by decide) rfl rfl (Nat.le_of_ble_eq_true rfl) (fun hn94 => ?_)
      refine g_iload_6 C dX7_drift_97 rfl ?_
      refine g_cS1i C dX7_drift_99 rfl ml_X7_191 mz_X7_denialOf (ok_X7_denialOf _ _) (by decide) rfl rfl (Nat.le_of_ble_eq_true rfl) (fun hn99 => ?_)
      refine g_iconst (v := 0) C dX7_drift_102 rfl (by decide) ?_
      refine g_cS3i C dX7_drift_103 rfl ml_X7_165 mz_X7_put (ok_X7_put _ _ _ _) (by decide) rfl rfl (Nat.le_of_ble_eq_true rfl) (fun hn103 => ?_)
      refine g_istore_2 C rfl dX7_drift_106 rfl ?_
      refine g_aload_0 C dX7_drift_107 rfl ?_
      refine g_iconst (v := 4) C dX7_drift_108 rfl (by decide) ?_
      refine g_cV1i C dX7_drift_109 rfl ml_X7_188 mz_X7_draw (ok_X7_draw _ _) (by decide) rfl rfl rfl rfl (Nat.le_of_ble_eq_true rfl) (fun hn109 => ?_)
      rw [sd_at, sI_sI]
      refine g_if_ne (tgt := 133) C dX7_drift_112 rfl (by decide) (fun h112 => ?_) (fun h112 => ?_)
      · skip
        refine g_iinc_5 (z := 1) C rfl dX7_drift_133 rfl (by decide) ?_
        refine g_goto (tgt := 71) C dX7_drift_136 (by decide) ?_
        have hk : k < N := n_lt (b := N) h74 (by omega) (by omega)
        rw [nI_1]
        have e : dq7 S t nw th nr (k + 1) = _ := (dq7_s S t nw th nr k).trans (if_neg h112)
        have := ih (k + 1) (.int (dr7 (dq7 S t nw th nr k).1 (2 * nI th))) (by omega) (by omega)
        rw [e] at this
        exact this
      · skip
        refine g_aload_0 C dX7_drift_115 rfl ?_
        refine g_getr C 8 dX7_drift_116 rfl rfl rfl fl_X7_57 (hC.sd _).2.1.1 ?_
        refine g_iload_2 C dX7_drift_119 rfl ?_
        refine g_iload_3 C dX7_drift_120 rfl ?_
        refine g_ior C dX7_drift_121 rfl ?_
        refine g_aload_0 C dX7_drift_122 rfl ?_
        refine g_cV0i C dX7_drift_123 rfl ml_X7_178 mz_X7_rulesGoneBy (ok_X7_rulesGoneBy _ t nw th nr (hC.sd _)) (by decide) rfl rfl rfl rfl (Nat.le_of_ble_eq_true rfl) (fun hn123 => ?_)
        rw [sd_nw S nw _ (by decide)]
        refine g_cD2i C dX7_drift_126 rfl ml_X7_181 mz_X4_closure (ok_X4_closure _ _ t _ (hC.sd _).2.2.1 nr (hC.sd _).2.2.2.2.2.1 (hC.sd _).2.2.2.2.2.2.1) (by decide) rfl rfl (hC.sd _).2.2.1.1 (by decide) rfl (Nat.le_of_ble_eq_true rfl) (fun hn126 => ?_)
        refine g_istore_3 C rfl dX7_drift_129 rfl ?_
        refine g_iinc_4 (z := 1) C rfl dX7_drift_130 rfl (by decide) ?_
        refine g_iinc_5 (z := 1) C rfl dX7_drift_133 rfl (by decide) ?_
        refine g_goto (tgt := 71) C dX7_drift_136 (by decide) ?_
        have hk : k < N := n_lt (b := N) h74 (by omega) (by omega)
        rw [nI_1]
        have e : dq7 S t nw th nr (k + 1) = _ := (dq7_s S t nw th nr k).trans (if_pos h112)
        have := ih (k + 1) (.int (dr7 (dq7 S t nw th nr k).1 (2 * nI th))) (by omega) (by omega)
        rw [e] at this
        exact this

noncomputable def df7V (S : Mem) (t nw th nr : Nat) (n : Int32) : Int32 := if inI n 1 60 = true then (if nI th = 0 then -1000000003 else if mI S nw 3 ≤ 9000 then (dq7 S t nw th nr n.toNatClampNeg).2.1 else -1000000004) else -1000000002
noncomputable def df7M (S : Mem) (t nw th nr un N : Nat) : Mem := neS (sI S 0 11 (dq7 S t nw th nr N).1) un nw (dq7 S t nw th nr N).2.1 (dq7 S t nw th nr N).2.2.1 (mI S nw 2) (dq7 S t nw th nr N).2.2.2
noncomputable def df7S (S : Mem) (t nw th nr un : Nat) (n : Int32) : Mem := if inI n 1 60 = true then (if nI th = 0 then S else if mI S nw 3 ≤ 9000 then df7M S t nw th nr un n.toNatClampNeg else S) else S
theorem sI_self (S : Mem) (p j : Nat) : sI S p j (mI S p j) = S := by
  refine mem_ext rfl rfl ?_ rfl rfl rfl rfl
  funext a b
  show u2 (mI S) p j (mI S p j) a b = mI S a b
  unfold u2
  by_cases h : a = p
  · by_cases h2 : b = j
    · rw [if_pos h, if_pos h2, h, h2]
    · rw [if_pos h, if_neg h2]
  · rw [if_neg h]
theorem drift0 {S : Mem} {t nw th nr : Nat} {P : Mem → Prop} (h : P (sI S 0 11 (dq7 S t nw th nr 0).1)) : P S := by
  rw [show sI S 0 11 (dq7 S t nw th nr 0).1 = S from sI_self S 0 11] at h
  exact h
theorem i_lt_le {a b : Int32} (h : ¬ a < b) : b ≤ a := by
  rw [Int32.lt_iff_toInt_lt] at h
  rw [Int32.le_iff_toInt_le]
  omega
set_option maxHeartbeats 4000000 in
set_option maxRecDepth 20000 in
theorem ok_X7_drift (n : Int32) (S : Mem) (t nw th nr : Nat) (hC : CW S t nw th nr) (un : Nat) (hU : HB S un) : Ok yX7_drift cX7_drift 7 (some .int) 3 1 4 [.ref 0, .int n] S (RI (df7V S t nw th nr n) (df7S S t nw th nr un n)) := by
  have hR := hC.1.1
  refine Ok.of (by decide) (Nat.le_of_ble_eq_true rfl) rfl (fun κ C hx => ?_)
  have C : Cx RX7 cX7_drift 7 (some .int) 3 false _ κ := C
  refine g_iload_1 C dX7_drift_0 rfl ?_
  refine g_iconst (v := 1) C dX7_drift_1 rfl (by decide) ?_
  refine g_icmp_lt (tgt := 11) C dX7_drift_2 rfl (by decide) (fun h2 => ?_) (fun h2 => ?_)
  · skip
    refine g_ldc C dX7_drift_11 rfl kc_X7_75 ?_
    exact g_iret C rfl dX7_drift_13 ⟨by unfold df7V; rw [if_neg (by rw [show inI n 1 60 = false from decide_eq_false (fun z => i_not_lt z.1 h2)]; decide)], by unfold df7S; rw [if_neg (by rw [show inI n 1 60 = false from decide_eq_false (fun z => i_not_lt z.1 h2)]; decide)]⟩
  · skip
    refine g_iload_1 C dX7_drift_5 rfl ?_
    refine g_bipush (v := 60) C dX7_drift_6 rfl (by decide) ?_
    refine g_icmp_le (tgt := 14) C dX7_drift_8 rfl (by decide) (fun h8 => ?_) (fun h8 => ?_)
    · skip
      refine g_aload_0 C dX7_drift_14 rfl ?_
      refine g_getr C 8 dX7_drift_15 rfl rfl rfl fl_X7_57 hC.2.1.1 ?_
      refine g_cD0i C dX7_drift_18 rfl ml_X7_173 mz_X4_isNone (ok_X4_isNone t S hC.2.2.1) (by decide) rfl rfl hC.2.2.1.1 (by decide) rfl (Nat.le_of_ble_eq_true rfl) (fun hn18 => ?_)
      rw [hC.2.2.2.2.1.1]
      refine g_if_eq (tgt := 27) C dX7_drift_21 rfl (by decide) (fun h21 => ?_) (fun h21 => ?_)
      · skip
        refine g_aload_0 C dX7_drift_27 rfl ?_
        refine g_getr C 10 dX7_drift_28 rfl rfl rfl fl_X7_67 hC.2.1.2 ?_
        refine g_getiD C 3 dX7_drift_31 rfl hC.2.2.2.1 (by decide) (by decide) rfl fl_X7_124 ?_
        refine g_sipush (v := 9000) C dX7_drift_34 rfl (by decide) ?_
        refine g_icmp_le (tgt := 43) C dX7_drift_37 rfl (by decide) (fun h37 => ?_) (fun h37 => ?_)
        · skip
          refine g_aload_0 C dX7_drift_43 rfl ?_
          refine g_getr C 10 dX7_drift_44 rfl rfl rfl fl_X7_67 hC.2.1.2 ?_
          refine g_getiD C 0 dX7_drift_47 rfl hC.2.2.2.1 (by decide) (by decide) rfl fl_X7_115 ?_
          refine g_istore_2 C rfl dX7_drift_50 rfl ?_
          refine g_aload_0 C dX7_drift_51 rfl ?_
          refine g_getr C 10 dX7_drift_52 rfl rfl rfl fl_X7_67 hC.2.1.2 ?_
          refine g_getiD C 1 dX7_drift_55 rfl hC.2.2.2.1 (by decide) (by decide) rfl fl_X7_118 ?_
          refine g_istore_3 C rfl dX7_drift_58 rfl ?_
          refine g_aload_0 C dX7_drift_59 rfl ?_
          refine g_getr C 10 dX7_drift_60 rfl rfl rfl fl_X7_67 hC.2.1.2 ?_
          refine g_getiD C 3 dX7_drift_63 rfl hC.2.2.2.1 (by decide) (by decide) rfl fl_X7_124 ?_
          refine g_istore_4 C rfl dX7_drift_66 rfl ?_
          refine g_iconst (v := 0) C dX7_drift_68 rfl (by decide) ?_
          refine g_istore_5 C rfl dX7_drift_69 rfl ?_
          have hn : inI n 1 60 = true := decide_eq_true ⟨i_lt_le h2, h8⟩
          obtain ⟨N, hN1, hN, eN⟩ := in60 hn
          have eV : df7V S t nw th nr n = (dq7 S t nw th nr N).2.1 := by unfold df7V; rw [if_pos hn, if_neg (of_decide_eq_false ((bI_0 _).mp h21)), if_pos h37, eN, nI_clamp (by omega)]
          have eS : df7S S t nw th nr un n = df7M S t nw th nr un N := by unfold df7S; rw [if_pos hn, if_neg (of_decide_eq_false ((bI_0 _).mp h21)), if_pos h37, eN, nI_clamp (by omega)]
          rw [eN]
          refine drift0 (t := t) (nw := nw) (th := th) (nr := nr) (P := fun M => G κ 1 4 M 71 _ _) ?_
          refine lp_X7_drift C S t nw th nr hC N hN (fun v6 => ?_) (N + 1) 0 _ (Nat.zero_le _) (by omega)
          refine g_aload_0 C dX7_drift_139 rfl ?_
          refine g_new (rc := 0) (rs := 0) C 2 dX7_drift_140 rfl (by decide) cl_X7_37 ic_X2 in_X2 (fun h => absurd h (by have := (hC.sd (dq7 S t nw th nr N).1).1.2.1; omega)) ?_
          refine g_dup C dX7_drift_143 rfl rfl ?_
          refine g_iload_2 C dX7_drift_144 rfl ?_
          refine g_iload_3 C dX7_drift_145 rfl ?_
          refine g_aload_0 C dX7_drift_146 rfl ?_
          refine g_getr C 10 dX7_drift_147 rfl rfl rfl fl_X7_67 ((hC.sd (dq7 S t nw th nr N).1).ext (Ext.new (sI S 0 11 (dq7 S t nw th nr N).1) 2)).2.1.2 ?_
          refine g_getiD C 2 dX7_drift_150 rfl ((hC.sd (dq7 S t nw th nr N).1).ext (Ext.new (sI S 0 11 (dq7 S t nw th nr N).1) 2)).2.2.2.1 (by decide) (by decide) rfl fl_X7_121 ?_
          rw [show mI (sN (sI S 0 11 (dq7 S t nw th nr N).1) 2) nw 2 = mI S nw 2 from (congrFun ((Ext.new (sI S 0 11 (dq7 S t nw th nr N).1) 2).2 nw (hC.sd (dq7 S t nw th nr N).1).1.2.2.2).2.1 2).trans (sd_nw S nw _ (by decide))]
          refine g_iload_4 C dX7_drift_153 rfl ?_
          refine g_cI4 C dX7_drift_155 rfl ml_X7_64 mz_X2_init (ok_X2_init (mN (sI S 0 11 (dq7 S t nw th nr N).1)) _ _ _ _ (sN (sI S 0 11 (dq7 S t nw th nr N).1) 2) mK_sN) (by decide) rfl rfl (Nat.le_of_ble_eq_true rfl) (fun hn155 => ?_)
          refine g_cV1v C dX7_drift_158 rfl ml_X7_169 mz_X7_change (ok_X7_change (mN (sI S 0 11 (dq7 S t nw th nr N).1)) _ t nw th nr ((hC.sd (dq7 S t nw th nr N).1).ext (moS_ext (sI S 0 11 (dq7 S t nw th nr N).1) _ _ _ _)) ((hU.sd (dq7 S t nw th nr N).1).ext (hC.sd (dq7 S t nw th nr N).1).1.2.1 (moS_ext (sI S 0 11 (dq7 S t nw th nr N).1) _ _ _ _)).1.m un ((hU.sd (dq7 S t nw th nr N).1).ext (hC.sd (dq7 S t nw th nr N).1).1.2.1 (moS_ext (sI S 0 11 (dq7 S t nw th nr N).1) _ _ _ _)).2.1 hU.2.2) (by decide) rfl rfl rfl rfl (Nat.le_of_ble_eq_true rfl) (fun hn158 => ?_)
          refine g_iload_2 C dX7_drift_161 rfl ?_
          exact g_iret C rfl dX7_drift_162 ⟨by rw [eV], by rw [eS]; rfl⟩
        · skip
          refine g_ldc C dX7_drift_40 rfl kc_X7_84 ?_
          exact g_iret C rfl dX7_drift_42 ⟨by unfold df7V; rw [if_pos (show inI n 1 60 = true from decide_eq_true ⟨i_lt_le h2, h8⟩), if_neg (of_decide_eq_false ((bI_0 _).mp h21)), if_neg h37], by unfold df7S; rw [if_pos (show inI n 1 60 = true from decide_eq_true ⟨i_lt_le h2, h8⟩), if_neg (of_decide_eq_false ((bI_0 _).mp h21)), if_neg h37]⟩
      · skip
        refine g_ldc C dX7_drift_24 rfl kc_X7_177 ?_
        exact g_iret C rfl dX7_drift_26 ⟨by unfold df7V; rw [if_pos (show inI n 1 60 = true from decide_eq_true ⟨i_lt_le h2, h8⟩), if_pos (of_decide_eq_true (nf_t (fun q => h21 ((bI_0 _).mpr q))))], by unfold df7S; rw [if_pos (show inI n 1 60 = true from decide_eq_true ⟨i_lt_le h2, h8⟩), if_pos (of_decide_eq_true (nf_t (fun q => h21 ((bI_0 _).mpr q))))]⟩
    · skip
      refine g_ldc C dX7_drift_11 rfl kc_X7_75 ?_
      exact g_iret C rfl dX7_drift_13 ⟨by unfold df7V; rw [if_neg (by rw [show inI n 1 60 = false from decide_eq_false (fun z => h8 z.2)]; decide)], by unfold df7S; rw [if_neg (by rw [show inI n 1 60 = false from decide_eq_false (fun z => h8 z.2)]; decide)]⟩

