def bvG (F : Nat → Bool) (m0 : Int32) : Nat → Int32 × Int32 × Int32
  | 0 => (0, -1, m0)
  | k + 1 => if F k = true then ((bvG F m0 k).1 + 1, (if (bvG F m0 k).1 = 0 then nI k else (bvG F m0 k).2.1), (bvG F m0 k).2.2 &&& nI k) else bvG F m0 k
theorem mask_nI : ∀ n, n ≤ 16 → one (nI n) - 1 = nI (2 ^ n - 1) := by decide +kernel
noncomputable def ft7 (S : Mem) (t nr an k : Nat) : Bool := fitB nr (mA S (t + 2)) (mA S (t + 3)) (mA S 6) (mA S 7) (mA S 8) (nI k) an 0
def in02 (x : Int32) : Bool := decide (0 ≤ x ∧ x ≤ 2)
noncomputable def bv7 (S : Mem) (t nr an : Nat) : Int32 × Int32 × Int32 := bvG (ft7 S t nr an) (nI (2 ^ nr - 1)) (2 ^ nr)
noncomputable def bv7V (S : Mem) (t nr an : Nat) (wh : Int32) : Int32 := if in02 wh = true then (if wh = 0 then (bv7 S t nr an).1 else if wh = 1 then (bv7 S t nr an).2.1 else if (bv7 S t nr an).1 = 0 then 0 else (bv7 S t nr an).2.2) else -1000000002
set_option maxHeartbeats 4000000 in
set_option maxRecDepth 20000 in
theorem lp_X7_believed {κ : Kx} {Φ : Option Value → Mem → Prop} (C : Cx RX7 cX7_believed 6 (some .int) 3 false Φ κ) (S : Mem) (t nw th nr : Nat) (hC : CW S t nw th nr) (an : Nat) (han : mI S 5 3 = nI an) (ha : an ≤ 6) (wh : Int32) (K : G κ 0 0 S 83 [.ref 0, .int wh, .int (bv7 S t nr an).1, .int (bv7 S t nr an).2.1, .int (bv7 S t nr an).2.2, .int (nI (2 ^ nr))] []) : ∀ (n k : Nat), k ≤ 2 ^ nr → 2 ^ nr + 1 ≤ k + n → G κ 0 0 S 28 [.ref 0, .int wh, .int (bvG (ft7 S t nr an) (nI (2 ^ nr - 1)) k).1, .int (bvG (ft7 S t nr an) (nI (2 ^ nr - 1)) k).2.1, .int (bvG (ft7 S t nr an) (nI (2 ^ nr - 1)) k).2.2, .int (nI k)] [] := by
  have hR := hC.1.1
  have h10 := hC.2.2.2.2.2.2.1.1
  have hp := pw10 h10
  have hp1 := Nat.one_le_two_pow (n := nr)
  intro n
  induction n with
  | zero => intro k h1 h2; exact absurd h2 (by omega)
  | succ n ih =>
    intro k hk1 hk2
    refine g_iload_5 C dX7_believed_28 rfl ?_
    refine g_aload_0 C dX7_believed_30 rfl ?_
    refine g_getr C 8 dX7_believed_31 rfl rfl rfl fl_X7_57 hC.2.1.1 ?_
    refine g_cD0i C dX7_believed_34 rfl ml_X7_247 mz_X4_allRules (ok_X4_allRules t S hC.2.2.1) (by decide) rfl rfl hC.2.2.1.1 (by decide) rfl (Nat.le_of_ble_eq_true rfl) (fun hn34 => ?_)
    rw [hC.2.2.2.2.2.1, mask_nI nr (by omega)]
    refine g_icmp_gt (tgt := 83) C dX7_believed_37 rfl (by decide) (fun h37 => ?_) (fun h37 => ?_)
    · skip
      have hk : k = 2 ^ nr := by have := n_lt' (a := 2 ^ nr - 1) (b := k) h37 (by omega) (by omega); omega
      rw [hk]
      exact K
    · skip
      refine g_aload_0 C dX7_believed_40 rfl ?_
      refine g_getr C 2 dX7_believed_41 rfl rfl rfl fl_X7_26 (hR 0 2 5 rfl) ?_
      refine g_aload_0 C dX7_believed_44 rfl ?_
      refine g_getr C 8 dX7_believed_45 rfl rfl rfl fl_X7_57 hC.2.1.1 ?_
      refine g_iload_5 C dX7_believed_48 rfl ?_
      refine g_cV2i C dX7_believed_50 rfl ml_X7_250 mz_X3_fit (ok_X3_fit _ t S hC.2.2.1 hR nr hC.2.2.2.2.2.1 hC.2.2.2.2.2.2.1 an han ha) (by decide) rfl rfl rfl rfl (Nat.le_of_ble_eq_true rfl) (fun hn50 => ?_)
      refine g_if_eq (tgt := 77) C dX7_believed_53 rfl (by decide) (fun h53 => ?_) (fun h53 => ?_)
      · skip
        refine g_iinc_5 (z := 1) C rfl dX7_believed_77 rfl (by decide) ?_
        refine g_goto (tgt := 28) C dX7_believed_80 (by decide) ?_
        have hk : k < 2 ^ nr := by have := n_nlt (a := 2 ^ nr - 1) (b := k) h37 (by omega) (by omega); omega
        rw [nI_1]
        have e : bvG (ft7 S t nr an) (nI (2 ^ nr - 1)) (k + 1) = (bvG (ft7 S t nr an) (nI (2 ^ nr - 1)) k) := if_neg (by rw [show ft7 S t nr an k = false from (bI_0 _).mp h53]; decide)
        have := ih (k + 1) (by omega) (by omega)
        rw [e] at this
        exact this
      · skip
        refine g_iload_2 C dX7_believed_56 rfl ?_
        refine g_if_ne (tgt := 65) C dX7_believed_57 rfl (by decide) (fun h57 => ?_) (fun h57 => ?_)
        · skip
          refine g_iload_3 C dX7_believed_65 rfl ?_
          refine g_istore_3 C rfl dX7_believed_66 rfl ?_
          refine g_iload_4 C dX7_believed_67 rfl ?_
          refine g_iload_5 C dX7_believed_69 rfl ?_
          refine g_iand C dX7_believed_71 rfl ?_
          refine g_istore_4 C rfl dX7_believed_72 rfl ?_
          refine g_iinc_2 (z := 1) C rfl dX7_believed_74 rfl (by decide) ?_
          refine g_iinc_5 (z := 1) C rfl dX7_believed_77 rfl (by decide) ?_
          refine g_goto (tgt := 28) C dX7_believed_80 (by decide) ?_
          have hk : k < 2 ^ nr := by have := n_nlt (a := 2 ^ nr - 1) (b := k) h37 (by omega) (by omega); omega
          rw [nI_1]
          have e : bvG (ft7 S t nr an) (nI (2 ^ nr - 1)) (k + 1) = ((bvG (ft7 S t nr an) (nI (2 ^ nr - 1)) k).1 + 1, _, (bvG (ft7 S t nr an) (nI (2 ^ nr - 1)) k).2.2 &&& nI k) := (if_pos (show ft7 S t nr an k = true from (nf_t (fun q => h53 ((bI_0 _).mpr q))))).trans (congrArg (fun z => ((bvG (ft7 S t nr an) (nI (2 ^ nr - 1)) k).1 + 1, z, (bvG (ft7 S t nr an) (nI (2 ^ nr - 1)) k).2.2 &&& nI k)) (if_neg h57))
          have := ih (k + 1) (by omega) (by omega)
          rw [e] at this
          exact this
        · skip
          refine g_iload_5 C dX7_believed_60 rfl ?_
          refine g_goto (tgt := 66) C dX7_believed_62 (by decide) ?_
          refine g_istore_3 C rfl dX7_believed_66 rfl ?_
          refine g_iload_4 C dX7_believed_67 rfl ?_
          refine g_iload_5 C dX7_believed_69 rfl ?_
          refine g_iand C dX7_believed_71 rfl ?_
          refine g_istore_4 C rfl dX7_believed_72 rfl ?_
          refine g_iinc_2 (z := 1) C rfl dX7_believed_74 rfl (by decide) ?_
          refine g_iinc_5 (z := 1) C rfl dX7_believed_77 rfl (by decide) ?_
          refine g_goto (tgt := 28) C dX7_believed_80 (by decide) ?_
          have hk : k < 2 ^ nr := by have := n_nlt (a := 2 ^ nr - 1) (b := k) h37 (by omega) (by omega); omega
          rw [nI_1]
          have e : bvG (ft7 S t nr an) (nI (2 ^ nr - 1)) (k + 1) = ((bvG (ft7 S t nr an) (nI (2 ^ nr - 1)) k).1 + 1, _, (bvG (ft7 S t nr an) (nI (2 ^ nr - 1)) k).2.2 &&& nI k) := (if_pos (show ft7 S t nr an k = true from (nf_t (fun q => h53 ((bI_0 _).mpr q))))).trans (congrArg (fun z => ((bvG (ft7 S t nr an) (nI (2 ^ nr - 1)) k).1 + 1, z, (bvG (ft7 S t nr an) (nI (2 ^ nr - 1)) k).2.2 &&& nI k)) (if_pos h57))
          have := ih (k + 1) (by omega) (by omega)
          rw [e] at this
          exact this

set_option maxHeartbeats 4000000 in
set_option maxRecDepth 20000 in
theorem ok_X7_believed (wh : Int32) (S : Mem) (t nw th nr : Nat) (hC : CW S t nw th nr) (an : Nat) (han : mI S 5 3 = nI an) (ha : an ≤ 6) : Ok yX7_believed cX7_believed 6 (some .int) 3 0 0 [.ref 0, .int wh] S (RI (bv7V S t nr an wh) S) := by
  have hR := hC.1.1
  have h10 := hC.2.2.2.2.2.2.1.1
  refine Ok.of (by decide) (Nat.le_of_ble_eq_true rfl) rfl (fun κ C hx => ?_)
  have C : Cx RX7 cX7_believed 6 (some .int) 3 false _ κ := C
  refine g_iload_1 C dX7_believed_0 rfl ?_
  refine g_if_lt (tgt := 9) C dX7_believed_1 rfl (by decide) (fun h1 => ?_) (fun h1 => ?_)
  · skip
    refine g_ldc C dX7_believed_9 rfl kc_X7_75 ?_
    exact g_iret C rfl dX7_believed_11 ⟨by unfold bv7V; rw [if_neg (by rw [show in02 wh = false from decide_eq_false (fun z => i_not_lt z.1 h1)]; decide)], rfl⟩
  · skip
    refine g_iload_1 C dX7_believed_4 rfl ?_
    refine g_iconst (v := 2) C dX7_believed_5 rfl (by decide) ?_
    refine g_icmp_le (tgt := 12) C dX7_believed_6 rfl (by decide) (fun h6 => ?_) (fun h6 => ?_)
    · skip
      refine g_iconst (v := 0) C dX7_believed_12 rfl (by decide) ?_
      refine g_istore_2 C rfl dX7_believed_13 rfl ?_
      refine g_iconst (v := -1) C dX7_believed_14 rfl (by decide) ?_
      refine g_istore_3 C rfl dX7_believed_15 rfl ?_
      refine g_aload_0 C dX7_believed_16 rfl ?_
      refine g_getr C 8 dX7_believed_17 rfl rfl rfl fl_X7_57 hC.2.1.1 ?_
      refine g_cD0i C dX7_believed_20 rfl ml_X7_247 mz_X4_allRules (ok_X4_allRules t S hC.2.2.1) (by decide) rfl rfl hC.2.2.1.1 (by decide) rfl (Nat.le_of_ble_eq_true rfl) (fun hn20 => ?_)
      rw [hC.2.2.2.2.2.1, mask_nI nr (by omega)]
      refine g_istore_4 C rfl dX7_believed_23 rfl ?_
      refine g_iconst (v := 0) C dX7_believed_25 rfl (by decide) ?_
      refine g_istore_5 C rfl dX7_believed_26 rfl ?_
      refine lp_X7_believed C S t nw th nr hC an han ha wh ?_ (2 ^ nr + 1) 0 (Nat.zero_le _) (by omega)
      refine g_iload_1 C dX7_believed_83 rfl ?_
      refine g_if_ne (tgt := 89) C dX7_believed_84 rfl (by decide) (fun h84 => ?_) (fun h84 => ?_)
      · skip
        refine g_iload_1 C dX7_believed_89 rfl ?_
        refine g_iconst (v := 1) C dX7_believed_90 rfl (by decide) ?_
        refine g_icmp_ne (tgt := 96) C dX7_believed_91 rfl (by decide) (fun h91 => ?_) (fun h91 => ?_)
        · skip
          refine g_iload_2 C dX7_believed_96 rfl ?_
          refine g_if_ne (tgt := 104) C dX7_believed_97 rfl (by decide) (fun h97 => ?_) (fun h97 => ?_)
          · skip
            refine g_iload_4 C dX7_believed_104 rfl ?_
            exact g_iret C rfl dX7_believed_106 ⟨by unfold bv7V; rw [if_pos (show in02 wh = true from decide_eq_true ⟨lt0_n h1, h6⟩), if_neg h84, if_neg h91, if_neg h97], rfl⟩
          · skip
            refine g_iconst (v := 0) C dX7_believed_100 rfl (by decide) ?_
            refine g_goto (tgt := 106) C dX7_believed_101 (by decide) ?_
            exact g_iret C rfl dX7_believed_106 ⟨by unfold bv7V; rw [if_pos (show in02 wh = true from decide_eq_true ⟨lt0_n h1, h6⟩), if_neg h84, if_neg h91, if_pos h97], rfl⟩
        · skip
          refine g_iload_3 C dX7_believed_94 rfl ?_
          exact g_iret C rfl dX7_believed_95 ⟨by unfold bv7V; rw [if_pos (show in02 wh = true from decide_eq_true ⟨lt0_n h1, h6⟩), if_neg h84, if_pos h91], rfl⟩
      · skip
        refine g_iload_2 C dX7_believed_87 rfl ?_
        exact g_iret C rfl dX7_believed_88 ⟨by unfold bv7V; rw [if_pos (show in02 wh = true from decide_eq_true ⟨lt0_n h1, h6⟩), if_pos h84], rfl⟩
    · skip
      refine g_ldc C dX7_believed_9 rfl kc_X7_75 ?_
      exact g_iret C rfl dX7_believed_11 ⟨by unfold bv7V; rw [if_neg (by rw [show in02 wh = false from decide_eq_false (fun z => h6 z.2)]; decide)], rfl⟩

theorem u2_jn {α : Type} (f : Nat → Nat → α) (p : Nat) {j b : Nat} (a : Nat) (v : α) (h : b ≠ j) : u2 f p j v a b = f a b := by
  unfold u2
  by_cases h2 : a = p
  · rw [if_pos h2, if_neg h]
  · rw [if_neg h2]
theorem CW.sd {S : Mem} {t nw th nr : Nat} (h : CW S t nw th nr) (x : Int32) : CW (sI S 0 11 x) t nw th nr :=
  ⟨h.1, h.2.1, h.2.2.1, h.2.2.2.1, ⟨(u2_jn _ _ t x (by decide)).trans h.2.2.2.2.1.1, h.2.2.2.2.1.2⟩, (u2_jn _ _ t x (by decide)).trans h.2.2.2.2.2.1, h.2.2.2.2.2.2⟩
theorem sd_nw (S : Mem) (nw : Nat) (x : Int32) {j : Nat} (hj : j ≠ 11) : mI (sI S 0 11 x) nw j = mI S nw j := u2_jn _ _ nw x hj
theorem HB.sd {S : Mem} {un : Nat} (h : HB S un) (x : Int32) : HB (sI S 0 11 x) un := h
noncomputable def day7 (nr : Nat) (cn nd : Nat → Int32) (al t2 : Int32) (q : Int32 × Int32 × Int32 × Int32) : Int32 × Int32 × Int32 × Int32 :=
  if dr7 (nx7 q.1) 4 = 0 then (nx7 (nx7 q.1), withI (withI q.2.1 (dr7 q.1 t2) 1) (dr7 q.1 t2 ^^^ 1) 0, clo nr cn nd al (withI (withI q.2.1 (dr7 q.1 t2) 1) (dr7 q.1 t2 ^^^ 1) 0 ||| q.2.2.1), q.2.2.2 + 1)
  else (nx7 (nx7 q.1), withI (withI q.2.1 (dr7 q.1 t2) 1) (dr7 q.1 t2 ^^^ 1) 0, q.2.2.1, q.2.2.2)
noncomputable def df7 (nr : Nat) (cn nd : Nat → Int32) (al t2 : Int32) (q : Int32 × Int32 × Int32 × Int32) : Nat → Int32 × Int32 × Int32 × Int32
  | 0 => q
  | k + 1 => day7 nr cn nd al t2 (df7 nr cn nd al t2 q k)
