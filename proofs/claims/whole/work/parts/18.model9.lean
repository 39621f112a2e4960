/-! draws and days; glued rows -/
def nxM (x : Int32) : Int32 := (x.toInt64 * 1103515245 + 12345 - (x.toInt64 * 1103515245 + 12345) / 2147483648 * 2147483648).toInt32
def dwV (x n : Int32) : Int32 := nxM x / 65536 - nxM x / 65536 / n * n
def rowN (f : Nat → Int32) (q : Int32 × Int32 × Int32 × Int32) : Nat → Int32 := fun j => if j = 0 then q.2.1 else if j = 1 then q.2.2.1 else if j = 3 then q.2.2.2 else f j
/-- the memory of the model with seed, seen, held, debates as told -/
def mq (S : Mem) (q : Int32 × Int32 × Int32 × Int32) : Mem := sI (sW S 29 (rowN (mA S 29) q)) 25 6 q.1
theorem mq_draw (S : Mem) (q : Int32 × Int32 × Int32 × Int32) (x : Int32) : sI (mq S q) 25 6 x = mq S (x, q.2) := sI_sI _ _ _ _ _
theorem mq_A (S : Mem) (q : Int32 × Int32 × Int32 × Int32) {f : Nat → Int32} {q' : Int32 × Int32 × Int32 × Int32} (h1 : q'.1 = q.1) (h : f = rowN (mA S 29) q') : sW (mq S q) 29 f = mq S q' := by
  rw [h]
  show sW (sI (sW S 29 _) 25 6 q.1) 29 _ = _
  rw [sI_sW, sW_sW, ← h1]
  rfl
theorem mq_seen (S : Mem) (q : Int32 × Int32 × Int32 × Int32) (x : Int32) : sA (mq S q) 29 0 x = mq S (q.1, x, q.2.2) := by
  rw [sA_sW]
  refine mq_A S q rfl ?_
  have e : mA (mq S q) 29 = rowN (mA S 29) q := mA_sW _ _ _
  rw [e]
  funext j
  unfold upd rowN
  by_cases h : j = 0 <;> simp [h]
theorem mq_held (S : Mem) (q : Int32 × Int32 × Int32 × Int32) (x : Int32) : sA (mq S q) 29 1 x = mq S (q.1, q.2.1, x, q.2.2.2) := by
  rw [sA_sW]
  refine mq_A S q rfl ?_
  have e : mA (mq S q) 29 = rowN (mA S 29) q := mA_sW _ _ _
  rw [e]
  funext j
  unfold upd rowN
  by_cases h : j = 1
  · subst h; simp
  · by_cases h0 : j = 0 <;> simp [h, h0]
theorem mq_deb (S : Mem) (q : Int32 × Int32 × Int32 × Int32) (x : Int32) : sA (mq S q) 29 3 x = mq S (q.1, q.2.1, q.2.2.1, x) := by
  rw [sA_sW]
  refine mq_A S q rfl ?_
  have e : mA (mq S q) 29 = rowN (mA S 29) q := mA_sW _ _ _
  rw [e]
  funext j
  unfold upd rowN
  by_cases h : j = 3
  · subst h; simp
  · by_cases h0 : j = 0 <;> by_cases h1 : j = 1 <;> simp [h, h0, h1]
theorem mq_self (S : Mem) : mq S (mI S 25 6, mA S 29 0, mA S 29 1, mA S 29 3) = S := by
  have e : rowN (mA S 29) (mI S 25 6, mA S 29 0, mA S 29 1, mA S 29 3) = mA S 29 := by
    funext j
    unfold rowN
    by_cases h0 : j = 0
    · subst h0; simp
    · by_cases h1 : j = 1
      · subst h1; simp
      · by_cases h3 : j = 3
        · subst h3; simp
        · simp [h0, h1, h3]
  unfold mq
  rw [e, sW_self]
  refine mem_ext rfl rfl ?_ rfl rfl rfl rfl
  funext a b
  show u2 (mI S) 25 6 (mI S 25 6) a b = mI S a b
  unfold u2
  by_cases h : a = 25
  · by_cases h2 : b = 6
    · subst h; subst h2; simp
    · simp [h2]
  · simp [h]
theorem mq_I6 (S : Mem) (q : Int32 × Int32 × Int32 × Int32) : mI (mq S q) 25 6 = q.1 := rfl
theorem mq_A0 (S : Mem) (q : Int32 × Int32 × Int32 × Int32) : mA (mq S q) 29 0 = q.2.1 := rfl
theorem mq_A1 (S : Mem) (q : Int32 × Int32 × Int32 × Int32) : mA (mq S q) 29 1 = q.2.2.1 := rfl
theorem mq_A2 (S : Mem) (q : Int32 × Int32 × Int32 × Int32) : mA (mq S q) 29 2 = mA S 29 2 := rfl
theorem mq_A3 (S : Mem) (q : Int32 × Int32 × Int32 × Int32) : mA (mq S q) 29 3 = q.2.2.2 := rfl
theorem mq_A27 (S : Mem) (q : Int32 × Int32 × Int32 × Int32) : mA (mq S q) 27 = mA S 27 := rfl
theorem mq_A28 (S : Mem) (q : Int32 × Int32 × Int32 × Int32) : mA (mq S q) 28 = mA S 28 := rfl
noncomputable def dayF (nr : Nat) (cn nd : Nat → Int32) (al t2 : Int32) (q : Int32 × Int32 × Int32 × Int32) : Int32 × Int32 × Int32 × Int32 :=
  if dwV (nxM q.1) 4 = 0 then (nxM (nxM q.1), withI (withI q.2.1 (dwV q.1 t2) 1) (denI (dwV q.1 t2)) 0, clo nr cn nd al (withI (withI q.2.1 (dwV q.1 t2) 1) (denI (dwV q.1 t2)) 0 ||| q.2.2.1), q.2.2.2 + 1)
  else (nxM (nxM q.1), withI (withI q.2.1 (dwV q.1 t2) 1) (denI (dwV q.1 t2)) 0, q.2.2.1, q.2.2.2)
noncomputable def dfF (nr : Nat) (cn nd : Nat → Int32) (al t2 : Int32) (q : Int32 × Int32 × Int32 × Int32) : Nat → Int32 × Int32 × Int32 × Int32
  | 0 => q
  | k + 1 => dayF nr cn nd al t2 (dfF nr cn nd al t2 q k)
theorem inI_of {i M : Int32} {n : Nat} (hM : M.toInt = n) (h : inI i 0 M = true) : ∃ j : Nat, j ≤ n ∧ i = nI j := by
  have h1 := of_decide_eq_true h
  exact nI_of2 hM (i_not_lt h1.1) h1.2
theorem inI_lo {i : Int32} {j n : Nat} {M : Int32} (hM : M = nI n) (hn : n < 2147483648) (hj : j ≤ n) (e : i = nI j) : inI i 0 M = true := by
  subst e; subst hM
  exact decide_eq_true ⟨nI_pos' (by omega), nI_le hj hn⟩
theorem inI_out {x M : Int32} {n : Int} (hM : M.toInt = n) (h : inI x 0 M = false) : x.toInt < 0 ∨ n < x.toInt := by
  have h1 := of_decide_eq_false h
  rw [Int32.le_iff_toInt_le, Int32.le_iff_toInt_le, hM] at h1
  have : (0 : Int32).toInt = 0 := rfl
  omega

set_option maxHeartbeats 4000000 in
set_option maxRecDepth 20000 in
theorem ok_X8_draw (n : Int32) (S : Mem) (hn : ¬ n = 0) : Ok yX8_draw cX8_draw 2 (some .int) 0 0 0 [.ref 25, .int n] S (RI (dwV (mI S 25 6) n) (sI S 25 6 (nxM (mI S 25 6)))) := by
  refine Ok.of (by decide) (Nat.le_of_ble_eq_true rfl) rfl (fun κ C hx => ?_)
  have C : Cx RX8 cX8_draw 2 (some .int) 0 false _ κ := C
  refine g_aload_0 C dX8_draw_0 rfl ?_
  refine g_aload_0 C dX8_draw_1 rfl ?_
  refine g_geti C 6 dX8_draw_2 rfl rfl rfl fl_X8_180 ?_
  refine g_i2l C dX8_draw_5 rfl ?_
  refine g_ldc2 C dX8_draw_6 rfl kl_X8_183 ?_
  refine g_lmul C dX8_draw_9 rfl ?_
  refine g_ldc2 C dX8_draw_10 rfl kl_X8_185 ?_
  refine g_ladd C dX8_draw_13 rfl ?_
  refine g_ldc2 C dX8_draw_14 rfl kl_X8_187 ?_
  refine g_lrem C dX8_draw_17 rfl (by decide) ?_
  refine g_l2i C dX8_draw_18 rfl ?_
  refine g_puti C 6 dX8_draw_19 rfl rfl rfl (Or.inl rfl) fl_X8_180 ?_
  refine g_aload_0 C dX8_draw_22 rfl ?_
  refine g_geti C 6 dX8_draw_23 rfl rfl rfl fl_X8_180 ?_
  refine g_ldc C dX8_draw_26 rfl kc_X8_189 ?_
  refine g_idiv C dX8_draw_28 rfl (by decide) ?_
  refine g_iload_1 C dX8_draw_29 rfl ?_
  refine g_irem C dX8_draw_30 rfl hn ?_
  exact g_iret C rfl dX8_draw_31 ⟨rfl, rfl⟩

set_option maxHeartbeats 4000000 in
set_option maxRecDepth 20000 in
theorem lp_X8_drift {κ : Kx} {Φ : Option Value → Mem → Prop} (C : Cx RX8 cX8_drift 4 (some .int) 3 false Φ κ) (S : Mem) (hR : Rs S) (nr : Nat) (hnr : mI S 25 1 = nI nr) (hT : Tn nr (mA S 27)) (t2 : Int32) (ht2 : 2 * mI S 25 0 = t2) (hne : ¬ t2 = 0) (N : Nat) (hN : N ≤ 60) (q0 : Int32 × Int32 × Int32 × Int32) (K : ∀ v2 v3 : Value, G κ 0 0 (mq S (dfF nr (mA S 27) (mA S 28) (alw (nI nr) (mA S 29 2)) t2 q0 N)) 105 [.ref 25, .int (nI N), v2, v3] []) :
    ∀ (n k : Nat) (v3 : Value), k ≤ N → N + 1 ≤ k + n → G κ 0 0 (mq S (dfF nr (mA S 27) (mA S 28) (alw (nI nr) (mA S 29 2)) t2 q0 k)) 46 [.ref 25, .int (nI N), .int (nI k), v3] [] := by
  have hne4 : ¬ (4 : Int32) = 0 := by decide
  intro n
  induction n with
  | zero => intro k v3 h1 h2; exact absurd h2 (by omega)
  | succ n ih =>
    intro k v3 hk1 hk2
    generalize hq : dfF nr (mA S 27) (mA S 28) (alw (nI nr) (mA S 29 2)) t2 q0 k = q
    refine g_iload_2 C dX8_drift_46 rfl ?_
    refine g_iload_1 C dX8_drift_47 rfl ?_
    refine g_icmp_ge (tgt := 105) C dX8_drift_48 rfl (by decide) (fun h48 => ?_) (fun h48 => ?_)
    · skip
      have hk : k = N := by have := n_ge (b := N) h48 (by omega) (by omega); omega
      rw [← hq, hk]
      exact K _ _
    · skip
      refine g_aload_0 C dX8_drift_51 rfl ?_
      refine g_iconst (v := 2) C dX8_drift_52 rfl (by decide) ?_
      refine g_aload_0 C dX8_drift_53 rfl ?_
      refine g_geti C 0 dX8_drift_54 rfl rfl rfl fl_X8_70 ?_
      refine g_imul C dX8_drift_57 rfl ?_
      rw [show 2 * mI (mq S q) 25 0 = t2 from ht2]
      refine g_cV1i C dX8_drift_58 rfl ml_X8_192 mz_X8_draw (ok_X8_draw _ (mq S q) hne) (by decide) rfl rfl rfl rfl (Nat.le_of_ble_eq_true rfl) (fun hn58 => ?_)
      rw [show mI (mq S q) 25 6 = q.1 from rfl, mq_draw]
      refine g_istore_3 C rfl dX8_drift_61 rfl ?_
      refine g_aload_0 C dX8_drift_62 rfl ?_
      refine g_getr C 5 dX8_drift_63 rfl rfl rfl fl_X8_19 (hR 25 5 29 rfl) ?_
      refine g_iconst (v := 0) C dX8_drift_66 rfl (by decide) ?_
      refine g_aload_0 C dX8_drift_67 rfl ?_
      refine g_getr C 5 dX8_drift_68 rfl rfl rfl fl_X8_19 (hR 25 5 29 rfl) ?_
      refine g_iconst (v := 0) C dX8_drift_71 rfl (by decide) ?_
      refine g_iald C dX8_drift_72 rfl rfl (n_in (k := 0) (N := 4) (by decide) (by decide)) ?_
      rw [show mA (mq S (nxM q.1, q.2)) 29 (Int32.toNatClampNeg 0) = q.2.1 from rfl]
      refine g_iload_3 C dX8_drift_73 rfl ?_
      refine g_iconst (v := 1) C dX8_drift_74 rfl (by decide) ?_
      refine g_cS3i C dX8_drift_75 rfl ml_X8_172 mz_X8_with (ok_X8_with _ _ _ _) (by decide) rfl rfl (Nat.le_of_ble_eq_true rfl) (fun hn75 => ?_)
      refine g_iload_3 C dX8_drift_78 rfl ?_
      refine g_cS1i C dX8_drift_79 rfl ml_X8_195 mz_X8_denial (ok_X8_denial _ _) (by decide) rfl rfl (Nat.le_of_ble_eq_true rfl) (fun hn79 => ?_)
      refine g_iconst (v := 0) C dX8_drift_82 rfl (by decide) ?_
      refine g_cS3i C dX8_drift_83 rfl ml_X8_172 mz_X8_with (ok_X8_with _ _ _ _) (by decide) rfl rfl (Nat.le_of_ble_eq_true rfl) (fun hn83 => ?_)
      refine g_iast C dX8_drift_86 rfl rfl (n_in (k := 0) (N := 4) (by decide) (by decide)) ?_
      rw [show (Int32.toNatClampNeg 0) = 0 from rfl, mq_seen]
      refine g_aload_0 C dX8_drift_87 rfl ?_
      refine g_iconst (v := 4) C dX8_drift_88 rfl (by decide) ?_
      refine g_cV1i C dX8_drift_89 rfl ml_X8_192 mz_X8_draw (ok_X8_draw _ _ hne4) (by decide) rfl rfl rfl rfl (Nat.le_of_ble_eq_true rfl) (fun hn89 => ?_)
      simp only [mq_I6, mq_draw]
      refine g_if_ne (tgt := 99) C dX8_drift_92 rfl (by decide) (fun h92 => ?_) (fun h92 => ?_)
      · skip
        refine g_iinc_2 (z := 1) C rfl dX8_drift_99 rfl (by decide) ?_
        refine g_goto (tgt := 46) C dX8_drift_102 (by decide) ?_
        have hk : k < N := n_lt (b := N) h48 (by omega) (by omega)
        rw [nI_1]
        have := ih (k + 1) (.int (dwV q.1 t2)) (by omega) (by omega)
        rw [show dfF nr (mA S 27) (mA S 28) (alw (nI nr) (mA S 29 2)) t2 q0 (k + 1) = dayF nr (mA S 27) (mA S 28) (alw (nI nr) (mA S 29 2)) t2 q from by rw [← hq]; rfl] at this
        unfold dayF at this
        rw [if_neg h92] at this
        exact this
      · skip
        refine g_aload_0 C dX8_drift_95 rfl ?_
        refine g_cV0v C dX8_drift_96 rfl ml_X8_177 mz_X8_debateNow (ok_X8_debateNow (mq S _) hR nr hnr hT) (by decide) rfl rfl rfl rfl (Nat.le_of_ble_eq_true rfl) (fun hn96 => ?_)
        simp only [dnS, dnV, mq_held, mq_deb, mq_A0, mq_A1, mq_A2, mq_A3, mq_A27, mq_A28]
        refine g_iinc_2 (z := 1) C rfl dX8_drift_99 rfl (by decide) ?_
        refine g_goto (tgt := 46) C dX8_drift_102 (by decide) ?_
        have hk : k < N := n_lt (b := N) h48 (by omega) (by omega)
        rw [nI_1]
        have := ih (k + 1) (.int (dwV q.1 t2)) (by omega) (by omega)
        rw [show dfF nr (mA S 27) (mA S 28) (alw (nI nr) (mA S 29 2)) t2 q0 (k + 1) = dayF nr (mA S 27) (mA S 28) (alw (nI nr) (mA S 29 2)) t2 q from by rw [← hq]; rfl] at this
        unfold dayF at this
        rw [if_pos h92] at this
        exact this

noncomputable def dfQ (S : Mem) (nr N : Nat) : Int32 × Int32 × Int32 × Int32 := dfF nr (mA S 27) (mA S 28) (alw (nI nr) (mA S 29 2)) (2 * mI S 25 0) (mI S 25 6, mA S 29 0, mA S 29 1, mA S 29 3) N
noncomputable def dfV (S : Mem) (nr : Nat) (n : Int32) : Int32 := if inI n 1 60 = true then (if mI S 25 0 = 0 then -1000000003 else if mA S 29 3 ≤ 9000 then (dfQ S nr n.toNatClampNeg).2.1 else -1000000004) else -1000000002
noncomputable def dfS (S : Mem) (nr un : Nat) (n : Int32) : Mem := if inI n 1 60 = true then (if mI S 25 0 = 0 then S else if mA S 29 3 ≤ 9000 then mq (reS S un) (dfQ S nr n.toNatClampNeg) else S) else S
theorem in60 {n : Int32} (h : inI n 1 60 = true) : ∃ j : Nat, 1 ≤ j ∧ j ≤ 60 ∧ n = nI j := by
  have h1 := of_decide_eq_true h
  have h0 : ¬ n < 0 := by
    have := h1.1
    rw [Int32.le_iff_toInt_le] at this
    rw [Int32.lt_iff_toInt_lt]
    have e1 : (1 : Int32).toInt = 1 := rfl
    have e0 : (0 : Int32).toInt = 0 := rfl
    omega
  obtain ⟨j, hj, e⟩ := nI_of2 (M := 60) (n := 60) rfl h0 h1.2
  refine ⟨j, ?_, hj, e⟩
  have := h1.1
  rw [e] at this
  exact n_ge (b := 1) this (by omega) (by decide)
set_option maxHeartbeats 4000000 in
set_option maxRecDepth 20000 in
theorem ok_X8_drift (n : Int32) (S : Mem) (hR : Rs S) (nr : Nat) (hnr : mI S 25 1 = nI nr) (hT : Tn nr (mA S 27)) (un : Nat) (hun : mI S 25 19 = nI un) (hu : un ≤ 20) (th : Nat) (hth : mI S 25 0 = nI th) (h8 : th ≤ 8) : Ok yX8_drift cX8_drift 4 (some .int) 3 0 0 [.ref 25, .int n] S (RI (dfV S nr n) (dfS S nr un n)) := by
  refine Ok.of (by decide) (Nat.le_of_ble_eq_true rfl) rfl (fun κ C hx => ?_)
  have C : Cx RX8 cX8_drift 4 (some .int) 3 false _ κ := C
  refine g_iload_1 C dX8_drift_0 rfl ?_
  refine g_i2l C dX8_drift_1 rfl ?_
  refine g_lconst (v := 1) C dX8_drift_2 rfl (by decide) ?_
  refine g_ldc2 C dX8_drift_3 rfl kl_X8_190 ?_
  refine g_cS3i C dX8_drift_6 rfl ml_X8_73 mz_X8_in (ok_X8_in _ _ _ _) (by decide) rfl rfl (Nat.le_of_ble_eq_true rfl) (fun hn6 => ?_)
  rw [show inL n.toInt64 1 60 = inI n 1 60 from inL_32 n 1 60]
  refine g_if_ne (tgt := 15) C dX8_drift_9 rfl (by decide) (fun h9 => ?_) (fun h9 => ?_)
  · skip
    refine g_aload_0 C dX8_drift_15 rfl ?_
    refine g_geti C 0 dX8_drift_16 rfl rfl rfl fl_X8_70 ?_
    refine g_if_ne (tgt := 25) C dX8_drift_19 rfl (by decide) (fun h19 => ?_) (fun h19 => ?_)
    · skip
      refine g_aload_0 C dX8_drift_25 rfl ?_
      refine g_getr C 5 dX8_drift_26 rfl rfl rfl fl_X8_19 (hR 25 5 29 rfl) ?_
      refine g_iconst (v := 3) C dX8_drift_29 rfl (by decide) ?_
      refine g_iald C dX8_drift_30 rfl rfl (n_in (k := 3) (N := 4) (by decide) (by decide)) ?_
      rw [show (mA S 29 (Int32.toNatClampNeg 3)) = mA S 29 3 from rfl]
      refine g_sipush (v := 9000) C dX8_drift_31 rfl (by decide) ?_
      refine g_icmp_le (tgt := 40) C dX8_drift_34 rfl (by decide) (fun h34 => ?_) (fun h34 => ?_)
      · skip
        refine g_aload_0 C dX8_drift_40 rfl ?_
        refine g_cV0v C dX8_drift_41 rfl ml_X8_169 mz_X8_remember (ok_X8_remember S hR un hun hu) (by decide) rfl rfl rfl rfl (Nat.le_of_ble_eq_true rfl) (fun hn41 => ?_)
        refine g_iconst (v := 0) C dX8_drift_44 rfl (by decide) ?_
        refine g_istore_2 C rfl dX8_drift_45 rfl ?_
        have hin : inI n 1 60 = true := (nf_t (fun q => h9 ((bI_0 _).mpr q)))
        obtain ⟨j, hj1, hj2, e⟩ := in60 hin
        have eV : dfV S nr n = (dfQ S nr j).2.1 := by unfold dfV; rw [if_pos hin, if_neg h19, if_pos h34, e, nI_clamp (by omega)]
        have eS : dfS S nr un n = mq (reS S un) (dfQ S nr j) := by unfold dfS; rw [if_pos hin, if_neg h19, if_pos h34, e, nI_clamp (by omega)]
        have h2 : ¬ 2 * mI S 25 0 = 0 := by
          rw [hth, two_nI th (by omega)]
          refine nI_ne0 ?_ (by omega)
          have : ¬ th = 0 := fun q => h19 (by rw [hth, q]; rfl)
          omega
        rw [e]
        have h0 := lp_X8_drift C (reS S un) hR nr hnr hT (2 * mI S 25 0) rfl h2 j hj2 (mI S 25 6, mA S 29 0, mA S 29 1, mA S 29 3) (fun v2 v3 => ?_) (j + 1) 0 (.float 0) (Nat.zero_le _) (by omega)
        · have e0 : mq (reS S un) (mI S 25 6, mA S 29 0, mA S 29 1, mA S 29 3) = reS S un := mq_self (reS S un)
          have h1 : G κ 0 0 (mq (reS S un) (mI S 25 6, mA S 29 0, mA S 29 1, mA S 29 3)) 46 [.ref 25, .int (nI j), .int (nI 0), .float 0] [] := h0
          rw [e0] at h1
          exact h1
        · refine g_aload_0 C dX8_drift_105 rfl ?_
          refine g_getr C 5 dX8_drift_106 rfl rfl rfl fl_X8_19 (hR 25 5 29 rfl) ?_
          refine g_iconst (v := 0) C dX8_drift_109 rfl (by decide) ?_
          refine g_iald C dX8_drift_110 rfl rfl (n_in (k := 0) (N := 4) (by decide) (by decide)) ?_
          exact g_iret C rfl dX8_drift_111 ⟨by rw [eV]; rfl, by rw [eS]; rfl⟩
      · skip
        refine g_ldc C dX8_drift_37 rfl kc_X8_86 ?_
        exact g_iret C rfl dX8_drift_39 ⟨by unfold dfV; rw [if_pos (nf_t (fun q => h9 ((bI_0 _).mpr q))), if_neg h19, if_neg h34], by unfold dfS; rw [if_pos (nf_t (fun q => h9 ((bI_0 _).mpr q))), if_neg h19, if_neg h34]⟩
    · skip
      refine g_ldc C dX8_drift_22 rfl kc_X8_176 ?_
      exact g_iret C rfl dX8_drift_24 ⟨by unfold dfV; rw [if_pos (nf_t (fun q => h9 ((bI_0 _).mpr q))), if_pos h19], by unfold dfS; rw [if_pos (nf_t (fun q => h9 ((bI_0 _).mpr q))), if_pos h19]⟩
  · skip
    refine g_ldc C dX8_drift_12 rfl kc_X8_82 ?_
    exact g_iret C rfl dX8_drift_14 ⟨by unfold dfV; rw [if_neg (by rw [(bI_0 _).mp h9]; decide)], by unfold dfS; rw [if_neg (by rw [(bI_0 _).mp h9]; decide)]⟩

noncomputable def tlV (S : Mem) (nr k : Nat) : Int32 := match k with | 0 => mI S 25 0 | 1 => mI S 25 1 | 2 => mI S 25 8 | 3 => mA S 29 0 | 4 => mA S 29 1 | 5 => mA S 29 2 | 6 => mA S 29 3 | 7 => clo nr (mA S 27) (mA S 28) (alw (nI nr) (mA S 29 2)) (mA S 29 0) | 8 => qrF (clo nr (mA S 27) (mA S 28) (alw (nI nr) (mA S 29 2)) (mA S 29 0)) 8 | 9 => qrF (mA S 29 1) 8 | 10 => mI S 25 22 | 11 => mI S 25 27 | _ => mI S 25 19
noncomputable def toV (S : Mem) (nr : Nat) (what : Int32) : Int32 := if inI what 0 12 = true then tlV S nr what.toNatClampNeg else -1000000002
theorem toV_in {S : Mem} {nr k : Nat} (h : k ≤ 12) : toV S nr (nI k) = tlV S nr k := by
  unfold toV
  rw [if_pos (inI_lo (M := 12) (n := 12) rfl (by decide) h rfl), nI_clamp (by omega)]
set_option maxHeartbeats 4000000 in
set_option maxRecDepth 20000 in
theorem ok_X8_told (what : Int32) (S : Mem) (hR : Rs S) (nr : Nat) (hnr : mI S 25 1 = nI nr) (hT : Tn nr (mA S 27)) : Ok yX8_told cX8_told 2 (some .int) 3 0 0 [.ref 25, .int what] S (RI (toV S nr what) S) := by
  refine Ok.of (by decide) (Nat.le_of_ble_eq_true rfl) rfl (fun κ C hx => ?_)
  have C : Cx RX8 cX8_told 2 (some .int) 3 false _ κ := C
  refine g_iload_1 C dX8_told_0 rfl ?_
  cases hin : inI what 0 12 with
  | false =>
    refine g_tableOut (tgt := 149) C dX8_told_1 (inI_out (n := 12) rfl hin) (by decide) ?_
    have eV : toV S nr what = -1000000002 := if_neg (by rw [hin]; decide)
    refine g_ldc C dX8_told_149 rfl kc_X8_82 ?_
    exact g_iret C rfl dX8_told_151 ⟨by rw [eV], rfl⟩
  | true =>
    obtain ⟨k, hk, e⟩ := inI_of (n := 12) rfl hin
    subst e
    match k, hk with
    | 0, _ =>
      refine g_tableIn (off := 67) (tgt := 68) C dX8_told_1 (by decide) (by decide) (by decide) (by decide) ?_
      refine g_aload_0 C dX8_told_68 rfl ?_
      refine g_geti C 0 dX8_told_69 rfl rfl rfl fl_X8_70 ?_
      exact g_iret C rfl dX8_told_72 ⟨by rw [toV_in (k := 0) (by decide)]; rfl, rfl⟩
    | 1, _ =>
      refine g_tableIn (off := 72) (tgt := 73) C dX8_told_1 (by decide) (by decide) (by decide) (by decide) ?_
      refine g_aload_0 C dX8_told_73 rfl ?_
      refine g_geti C 1 dX8_told_74 rfl rfl rfl fl_X8_77 ?_
      exact g_iret C rfl dX8_told_77 ⟨by rw [toV_in (k := 1) (by decide)]; rfl, rfl⟩
    | 2, _ =>
      refine g_tableIn (off := 77) (tgt := 78) C dX8_told_1 (by decide) (by decide) (by decide) (by decide) ?_
      refine g_aload_0 C dX8_told_78 rfl ?_
      refine g_geti C 8 dX8_told_79 rfl rfl rfl fl_X8_83 ?_
      exact g_iret C rfl dX8_told_82 ⟨by rw [toV_in (k := 2) (by decide)]; rfl, rfl⟩
    | 3, _ =>
      refine g_tableIn (off := 82) (tgt := 83) C dX8_told_1 (by decide) (by decide) (by decide) (by decide) ?_
      refine g_aload_0 C dX8_told_83 rfl ?_
      refine g_getr C 5 dX8_told_84 rfl rfl rfl fl_X8_19 (hR 25 5 29 rfl) ?_
      refine g_iconst (v := 0) C dX8_told_87 rfl (by decide) ?_
      refine g_iald C dX8_told_88 rfl rfl (n_in (k := 0) (N := 4) (by decide) (by decide)) ?_
      exact g_iret C rfl dX8_told_89 ⟨by rw [toV_in (k := 3) (by decide)]; rfl, rfl⟩
    | 4, _ =>
      refine g_tableIn (off := 89) (tgt := 90) C dX8_told_1 (by decide) (by decide) (by decide) (by decide) ?_
      refine g_aload_0 C dX8_told_90 rfl ?_
      refine g_getr C 5 dX8_told_91 rfl rfl rfl fl_X8_19 (hR 25 5 29 rfl) ?_
      refine g_iconst (v := 1) C dX8_told_94 rfl (by decide) ?_
      refine g_iald C dX8_told_95 rfl rfl (n_in (k := 1) (N := 4) (by decide) (by decide)) ?_
      exact g_iret C rfl dX8_told_96 ⟨by rw [toV_in (k := 4) (by decide)]; rfl, rfl⟩
    | 5, _ =>
      refine g_tableIn (off := 96) (tgt := 97) C dX8_told_1 (by decide) (by decide) (by decide) (by decide) ?_
      refine g_aload_0 C dX8_told_97 rfl ?_
      refine g_getr C 5 dX8_told_98 rfl rfl rfl fl_X8_19 (hR 25 5 29 rfl) ?_
      refine g_iconst (v := 2) C dX8_told_101 rfl (by decide) ?_
      refine g_iald C dX8_told_102 rfl rfl (n_in (k := 2) (N := 4) (by decide) (by decide)) ?_
      exact g_iret C rfl dX8_told_103 ⟨by rw [toV_in (k := 5) (by decide)]; rfl, rfl⟩
    | 6, _ =>
      refine g_tableIn (off := 103) (tgt := 104) C dX8_told_1 (by decide) (by decide) (by decide) (by decide) ?_
      refine g_aload_0 C dX8_told_104 rfl ?_
      refine g_getr C 5 dX8_told_105 rfl rfl rfl fl_X8_19 (hR 25 5 29 rfl) ?_
      refine g_iconst (v := 3) C dX8_told_108 rfl (by decide) ?_
      refine g_iald C dX8_told_109 rfl rfl (n_in (k := 3) (N := 4) (by decide) (by decide)) ?_
      exact g_iret C rfl dX8_told_110 ⟨by rw [toV_in (k := 6) (by decide)]; rfl, rfl⟩
    | 7, _ =>
      refine g_tableIn (off := 110) (tgt := 111) C dX8_told_1 (by decide) (by decide) (by decide) (by decide) ?_
      refine g_aload_0 C dX8_told_111 rfl ?_
      refine g_cV0i C dX8_told_112 rfl ml_X8_155 mz_X8_followsNow (ok_X8_followsNow S hR nr hnr hT) (by decide) rfl rfl rfl rfl (Nat.le_of_ble_eq_true rfl) (fun hn112 => ?_)
      exact g_iret C rfl dX8_told_115 ⟨by rw [toV_in (k := 7) (by decide)]; rfl, rfl⟩
    | 8, _ =>
      refine g_tableIn (off := 115) (tgt := 116) C dX8_told_1 (by decide) (by decide) (by decide) (by decide) ?_
      refine g_aload_0 C dX8_told_116 rfl ?_
      refine g_cV0i C dX8_told_117 rfl ml_X8_155 mz_X8_followsNow (ok_X8_followsNow S hR nr hnr hT) (by decide) rfl rfl rfl rfl (Nat.le_of_ble_eq_true rfl) (fun hn117 => ?_)
      refine g_cS1i C dX8_told_120 rfl ml_X8_158 mz_X8_quarrels (ok_X8_quarrels _ _) (by decide) rfl rfl (Nat.le_of_ble_eq_true rfl) (fun hn120 => ?_)
      exact g_iret C rfl dX8_told_123 ⟨by rw [toV_in (k := 8) (by decide)]; rfl, rfl⟩
    | 9, _ =>
      refine g_tableIn (off := 123) (tgt := 124) C dX8_told_1 (by decide) (by decide) (by decide) (by decide) ?_
      refine g_aload_0 C dX8_told_124 rfl ?_
      refine g_getr C 5 dX8_told_125 rfl rfl rfl fl_X8_19 (hR 25 5 29 rfl) ?_
      refine g_iconst (v := 1) C dX8_told_128 rfl (by decide) ?_
      refine g_iald C dX8_told_129 rfl rfl (n_in (k := 1) (N := 4) (by decide) (by decide)) ?_
      refine g_cS1i C dX8_told_130 rfl ml_X8_158 mz_X8_quarrels (ok_X8_quarrels _ _) (by decide) rfl rfl (Nat.le_of_ble_eq_true rfl) (fun hn130 => ?_)
      exact g_iret C rfl dX8_told_133 ⟨by rw [toV_in (k := 9) (by decide)]; rfl, rfl⟩
    | 10, _ =>
      refine g_tableIn (off := 133) (tgt := 134) C dX8_told_1 (by decide) (by decide) (by decide) (by decide) ?_
      refine g_aload_0 C dX8_told_134 rfl ?_
      refine g_geti C 22 dX8_told_135 rfl rfl rfl fl_X8_140 ?_
      exact g_iret C rfl dX8_told_138 ⟨by rw [toV_in (k := 10) (by decide)]; rfl, rfl⟩
    | 11, _ =>
      refine g_tableIn (off := 138) (tgt := 139) C dX8_told_1 (by decide) (by decide) (by decide) (by decide) ?_
      refine g_aload_0 C dX8_told_139 rfl ?_
      refine g_geti C 27 dX8_told_140 rfl rfl rfl fl_X8_143 ?_
      exact g_iret C rfl dX8_told_143 ⟨by rw [toV_in (k := 11) (by decide)]; rfl, rfl⟩
    | 12, _ =>
      refine g_tableIn (off := 143) (tgt := 144) C dX8_told_1 (by decide) (by decide) (by decide) (by decide) ?_
      refine g_aload_0 C dX8_told_144 rfl ?_
      refine g_geti C 19 dX8_told_145 rfl rfl rfl fl_X8_146 ?_
      exact g_iret C rfl dX8_told_148 ⟨by rw [toV_in (k := 12) (by decide)]; rfl, rfl⟩
    | k + 13, h => exact absurd h (by omega)

def rlV (S : Mem) (r k : Nat) : Int32 := match k with | 0 => mA S 26 r | 1 => mA S 27 r | 2 => mA S 28 r | _ => bitI (mA S 29 2) (nI r)
def ruV (S : Mem) (nr : Nat) (r what : Int32) : Int32 := if rulB (nI nr) r = true then (if inI what 0 3 = true then rlV S r.toNatClampNeg what.toNatClampNeg else -1000000002) else -1000000001
theorem rulB_in {nr : Nat} {r : Int32} (h10 : nr ≤ 10) (h : rulB (nI nr) r = true) : ∃ j : Nat, j < nr ∧ r = nI j := by
  have h1 := of_decide_eq_true h
  by_cases h0 : nr = 0
  · subst h0
    exfalso
    have e : nI 0 - 1 = -1 := by decide
    have h2 := h1.1
    have h3 := h1.2
    rw [e] at h3
    rw [Int32.le_iff_toInt_le] at h2 h3
    have e1 : (-1 : Int32).toInt = -1 := rfl
    have e2 : (0 : Int32).toInt = 0 := rfl
    omega
  · rw [i_min1 (by omega)] at h1
    obtain ⟨j, hj, e⟩ := nI_of2 (M := nI (nr - 1)) (n := nr - 1) (nI_toInt (by omega)) (i_not_lt h1.1) h1.2
    exact ⟨j, by omega, e⟩
theorem ruV_in {S : Mem} {nr j k : Nat} (h10 : nr ≤ 10) (hj : j < nr) (hr : rulB (nI nr) (nI j) = true) (h : k ≤ 3) : ruV S nr (nI j) (nI k) = rlV S j k := by
  unfold ruV
  rw [if_pos hr, if_pos (inI_lo (M := 3) (n := 3) rfl (by decide) h rfl), nI_clamp (by omega), nI_clamp (by omega)]
set_option maxHeartbeats 4000000 in
set_option maxRecDepth 20000 in
theorem ok_X8_rule (r what : Int32) (S : Mem) (hR : Rs S) (nr : Nat) (hnr : mI S 25 1 = nI nr) (hT : Tn nr (mA S 27)) : Ok yX8_rule cX8_rule 3 (some .int) 2 0 0 [.ref 25, .int r, .int what] S (RI (ruV S nr r what) S) := by
  have h10 := hT.1
  refine Ok.of (by decide) (Nat.le_of_ble_eq_true rfl) rfl (fun κ C hx => ?_)
  have C : Cx RX8 cX8_rule 3 (some .int) 2 false _ κ := C
  refine g_aload_0 C dX8_rule_0 rfl ?_
  refine g_iload_1 C dX8_rule_1 rfl ?_
  refine g_cV1i C dX8_rule_2 rfl ml_X8_161 mz_X8_isRule (ok_X8_isRule _ S) (by decide) rfl rfl rfl rfl (Nat.le_of_ble_eq_true rfl) (fun hn2 => ?_)
  rw [hnr]
  refine g_if_ne (tgt := 11) C dX8_rule_5 rfl (by decide) (fun h5 => ?_) (fun h5 => ?_)
  · skip
    have hr : rulB (nI nr) r = true := nf_t (fun q => h5 ((bI_0 _).mpr q))
    obtain ⟨j, hj, e⟩ := rulB_in h10 hr
    subst e
    refine g_iload_2 C dX8_rule_11 rfl ?_
    cases hin : inI what 0 3 with
    | false =>
      refine g_tableOut (tgt := 76) C dX8_rule_12 (inI_out (n := 3) rfl hin) (by decide) ?_
      have eV : ruV S nr (nI j) what = -1000000002 := by unfold ruV; rw [if_pos hr, if_neg (by rw [hin]; decide)]
      refine g_ldc C dX8_rule_76 rfl kc_X8_82 ?_
      exact g_iret C rfl dX8_rule_78 ⟨by rw [eV], rfl⟩
    | true =>
      obtain ⟨k, hk, e⟩ := inI_of (n := 3) rfl hin
      subst e
      match k, hk with
      | 0, _ =>
        refine g_tableIn (off := 32) (tgt := 44) C dX8_rule_12 (by decide) (by decide) (by decide) (by decide) ?_
        refine g_aload_0 C dX8_rule_44 rfl ?_
        refine g_getr C 2 dX8_rule_45 rfl rfl rfl fl_X8_7 (hR 25 2 26 rfl) ?_
        refine g_iload_1 C dX8_rule_48 rfl ?_
        refine g_iald C dX8_rule_49 rfl rfl (n_in (show j < 10 by omega) (by decide)) ?_
        rw [nI_clamp (show j < 2 ^ 31 by omega)]
        exact g_iret C rfl dX8_rule_50 ⟨by rw [ruV_in (k := 0) h10 hj hr (by decide)]; rfl, rfl⟩
      | 1, _ =>
        refine g_tableIn (off := 39) (tgt := 51) C dX8_rule_12 (by decide) (by decide) (by decide) (by decide) ?_
        refine g_aload_0 C dX8_rule_51 rfl ?_
        refine g_getr C 3 dX8_rule_52 rfl rfl rfl fl_X8_13 (hR 25 3 27 rfl) ?_
        refine g_iload_1 C dX8_rule_55 rfl ?_
        refine g_iald C dX8_rule_56 rfl rfl (n_in (show j < 10 by omega) (by decide)) ?_
        rw [nI_clamp (show j < 2 ^ 31 by omega)]
        exact g_iret C rfl dX8_rule_57 ⟨by rw [ruV_in (k := 1) h10 hj hr (by decide)]; rfl, rfl⟩
      | 2, _ =>
        refine g_tableIn (off := 46) (tgt := 58) C dX8_rule_12 (by decide) (by decide) (by decide) (by decide) ?_
        refine g_aload_0 C dX8_rule_58 rfl ?_
        refine g_getr C 4 dX8_rule_59 rfl rfl rfl fl_X8_16 (hR 25 4 28 rfl) ?_
        refine g_iload_1 C dX8_rule_62 rfl ?_
        refine g_iald C dX8_rule_63 rfl rfl (n_in (show j < 10 by omega) (by decide)) ?_
        rw [nI_clamp (show j < 2 ^ 31 by omega)]
        exact g_iret C rfl dX8_rule_64 ⟨by rw [ruV_in (k := 2) h10 hj hr (by decide)]; rfl, rfl⟩
      | 3, _ =>
        refine g_tableIn (off := 53) (tgt := 65) C dX8_rule_12 (by decide) (by decide) (by decide) (by decide) ?_
        refine g_aload_0 C dX8_rule_65 rfl ?_
        refine g_getr C 5 dX8_rule_66 rfl rfl rfl fl_X8_19 (hR 25 5 29 rfl) ?_
        refine g_iconst (v := 2) C dX8_rule_69 rfl (by decide) ?_
        refine g_iald C dX8_rule_70 rfl rfl (n_in (k := 2) (N := 4) (by decide) (by decide)) ?_
        refine g_iload_1 C dX8_rule_71 rfl ?_
        refine g_ishr C dX8_rule_72 rfl ?_
        refine g_iconst (v := 1) C dX8_rule_73 rfl (by decide) ?_
        refine g_iand C dX8_rule_74 rfl ?_
        exact g_iret C rfl dX8_rule_75 ⟨by rw [ruV_in (k := 3) h10 hj hr (by decide)]; rfl, rfl⟩
      | k + 4, h => exact absurd h (by omega)
  · skip
    refine g_ldc C dX8_rule_8 rfl kc_X8_165 ?_
    exact g_iret C rfl dX8_rule_10 ⟨by unfold ruV; rw [if_neg (by rw [(bI_0 _).mp h5]; decide)], rfl⟩

