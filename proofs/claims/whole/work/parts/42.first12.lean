/-! the first side's reader: the fields of place 1 are told by g -/
def uS (S : Mem) (g : Nat → Int32) : Mem := (mN S, mK S, u1 (mI S) 1 g, mR S, mA S, mL S, mQ S)
theorem uS_sI (S : Mem) (g : Nat → Int32) (j : Nat) (v : Int32) : sI (uS S g) 1 j v = uS S (upd g j v) := by
  refine mem_ext rfl rfl ?_ rfl rfl rfl rfl
  funext a b
  show u2 (u1 (mI S) 1 g) 1 j v a b = u1 (mI S) 1 (upd g j v) a b
  unfold u2 u1 upd
  by_cases h : a = 1
  · rw [if_pos h, if_pos h, if_pos h]
  · rw [if_neg h, if_neg h, if_neg h]
theorem uS_self (S : Mem) : uS S (mI S 1) = S := by
  refine mem_ext rfl rfl ?_ rfl rfl rfl rfl
  funext a
  show u1 (mI S) 1 (mI S 1) a = mI S a
  unfold u1
  by_cases h : a = 1
  · rw [if_pos h, h]
  · rw [if_neg h]
theorem uS_ne (S : Mem) (g : Nat → Int32) {a : Nat} (h : a ≠ 1) : mI (uS S g) a = mI S a := if_neg h
theorem uS_sIn (S : Mem) (g : Nat → Int32) {a : Nat} (j : Nat) (v : Int32) (h : a ≠ 1) : sI (uS S g) a j v = uS (sI S a j v) g := by
  refine mem_ext rfl rfl ?_ rfl rfl rfl rfl
  funext x b
  show u2 (u1 (mI S) 1 g) a j v x b = u1 (u2 (mI S) a j v) 1 g x b
  unfold u2 u1
  by_cases h1 : x = 1
  · rw [if_neg (by omega), if_pos h1, if_pos h1]
  · rw [if_neg h1, if_neg h1]
set_option maxHeartbeats 4000000 in
set_option maxRecDepth 20000 in
theorem lp_X5_peek {κ : Kx} {Φ : Option Value → Mem → Prop} (C : Cx RX5 cX5_peek 1 (some .int) 0 false Φ κ) (S : Mem) (hR : Rs S) (tn : Nat) (hX : Tx (mA S 2) tn) (g0 : Nat → Int32) (hg8 : g0 1 = nI tn) (r : Nat) (hΦ : Φ (some (.int (chr9 (mA S 2) tn r))) (uS S (upd g0 2 (nI r)))) : ∀ (n p : Nat), p ≤ tn → tn + 1 ≤ p + n → skp (mA S 2) tn p = r → G κ 0 0 (uS S (upd g0 2 (nI p))) 0 [.ref 1] [] := by
  have h240 := hX.1
  intro n
  induction n with
  | zero => intro p h1 h2; exact absurd h2 (by omega)
  | succ n ih =>
    intro p hp1 hp2 hr
    have e10 : ∀ z, mI (uS S (upd g0 2 z)) 1 2 = z := fun z => upd_at g0 2 z
    have e8 : ∀ z, mI (uS S (upd g0 2 z)) 1 1 = nI tn := fun z => hg8
    refine g_aload_0 C dX5_peek_0 rfl ?_
    refine g_geti C 2 dX5_peek_1 rfl rfl rfl fl_X5_19 ?_
    rw [e10]
    refine g_aload_0 C dX5_peek_4 rfl ?_
    refine g_geti C 1 dX5_peek_5 rfl rfl rfl fl_X5_15 ?_
    rw [e8]
    refine g_icmp_ge (tgt := 38) C dX5_peek_8 rfl (by decide) (fun h8 => ?_) (fun h8 => ?_)
    · skip
      refine g_aload_0 C dX5_peek_38 rfl ?_
      refine g_geti C 2 dX5_peek_39 rfl rfl rfl fl_X5_19 ?_
      rw [e10]
      refine g_aload_0 C dX5_peek_42 rfl ?_
      refine g_geti C 1 dX5_peek_43 rfl rfl rfl fl_X5_15 ?_
      rw [e8]
      refine g_icmp_ge (tgt := 61) C dX5_peek_46 rfl (by decide) (fun h46 => ?_) (fun h46 => absurd h8 h46)
      refine g_iconst (v := -1) C dX5_peek_61 rfl (by decide) ?_
      exact g_iret C rfl dX5_peek_62 (by have hge : tn ≤ p := n_ge (b := tn) h8 (by omega) (by omega); have e : r = p := hr.symm.trans (skp_0 (by omega)); rw [e] at hΦ; rw [show chr9 (mA S 2) tn p = -1 from if_neg (by omega)] at hΦ; exact hΦ)
    · skip
      refine g_aload_0 C dX5_peek_11 rfl ?_
      refine g_getr C 0 dX5_peek_12 rfl rfl rfl fl_X5_9 (hR 1 0 2 rfl) ?_
      refine g_aload_0 C dX5_peek_15 rfl ?_
      refine g_geti C 2 dX5_peek_16 rfl rfl rfl fl_X5_19 ?_
      rw [e10]
      refine g_iald C dX5_peek_19 rfl rfl (n_in (show p < 240 by have := n_lt (b := tn) h8 (by omega) (by omega); omega) (by decide)) ?_
      rw [nI_clamp (show p < 2 ^ 31 by omega), show mA (uS S (upd g0 2 (nI p))) 2 = mA S 2 from rfl]
      refine g_bipush (v := 32) C dX5_peek_20 rfl (by decide) ?_
      refine g_icmp_ne (tgt := 38) C dX5_peek_22 rfl (by decide) (fun h22 => ?_) (fun h22 => ?_)
      · skip
        refine g_aload_0 C dX5_peek_38 rfl ?_
        refine g_geti C 2 dX5_peek_39 rfl rfl rfl fl_X5_19 ?_
        rw [e10]
        refine g_aload_0 C dX5_peek_42 rfl ?_
        refine g_geti C 1 dX5_peek_43 rfl rfl rfl fl_X5_15 ?_
        rw [e8]
        refine g_icmp_ge (tgt := 61) C dX5_peek_46 rfl (by decide) (fun h46 => absurd h46 h8) (fun h46 => ?_)
        refine g_aload_0 C dX5_peek_49 rfl ?_
        refine g_getr C 0 dX5_peek_50 rfl rfl rfl fl_X5_9 (hR 1 0 2 rfl) ?_
        refine g_aload_0 C dX5_peek_53 rfl ?_
        refine g_geti C 2 dX5_peek_54 rfl rfl rfl fl_X5_19 ?_
        rw [e10]
        refine g_iald C dX5_peek_57 rfl rfl (n_in (show p < 240 by have := n_lt (b := tn) h46 (by omega) (by omega); omega) (by decide)) ?_
        rw [nI_clamp (show p < 2 ^ 31 by omega), show mA (uS S (upd g0 2 (nI p))) 2 = mA S 2 from rfl]
        refine g_goto (tgt := 62) C dX5_peek_58 (by decide) ?_
        exact g_iret C rfl dX5_peek_62 (by have hlt : p < tn := n_lt (b := tn) h8 (by omega) (by omega); have e : r = p := hr.symm.trans (skp_0 (fun z => h22 z.2)); rw [e] at hΦ; rw [show chr9 (mA S 2) tn p = mA S 2 p from if_pos hlt] at hΦ; exact hΦ)
      · skip
        refine g_aload_0 C dX5_peek_25 rfl ?_
        refine g_dup C dX5_peek_26 rfl rfl ?_
        refine g_geti C 2 dX5_peek_27 rfl rfl rfl fl_X5_19 ?_
        rw [e10]
        refine g_iconst (v := 1) C dX5_peek_30 rfl (by decide) ?_
        refine g_iadd C dX5_peek_31 rfl ?_
        refine g_puti C 2 dX5_peek_32 rfl rfl rfl (Or.inl rfl) fl_X5_19 ?_
        rw [uS_sI, upd_upd, nI_1]
        refine g_goto (tgt := 0) C dX5_peek_35 (by decide) ?_
        have hlt : p < tn := n_lt (b := tn) h8 (by omega) (by omega)
        exact ih (p + 1) (by omega) (by omega) (by rw [← hr]; exact (skp_s hlt h22).symm)

set_option maxHeartbeats 4000000 in
set_option maxRecDepth 20000 in
theorem ok_X5_peek (S : Mem) (hR : Rs S) (tn : Nat) (hX : Tx (mA S 2) tn) (g : Nat → Int32) (h1 : g 1 = nI tn) (p : Nat) (hp : g 2 = nI p) (hpt : p ≤ tn) : Ok yX5_peek cX5_peek 1 (some .int) 0 0 0 [.ref 1] (uS S g) (RI (chr9 (mA S 2) tn (skp (mA S 2) tn p)) (uS S (upd g 2 (nI (skp (mA S 2) tn p))))) := by
  refine Ok.of (by decide) (Nat.le_of_ble_eq_true rfl) rfl (fun κ C hx => ?_)
  have C : Cx RX5 cX5_peek 1 (some .int) 0 false _ κ := C
  have h0 := lp_X5_peek C S hR tn hX g h1 (skp (mA S 2) tn p) ⟨rfl, rfl⟩ (tn + 1) p hpt (by omega) rfl
  rw [upd_same hp] at h0
  exact h0

set_option maxHeartbeats 4000000 in
set_option maxRecDepth 20000 in
theorem ok_X5_stop (k a : Int32) (S : Mem) (g : Nat → Int32) : Ok yX5_stop cX5_stop 3 none 0 0 0 [.ref 1, .int k, .int a] (uS S g) (RV (uS S (upd (upd g 4 k) 5 a))) := by
  refine Ok.of (by decide) (Nat.le_of_ble_eq_true rfl) rfl (fun κ C hx => ?_)
  have C : Cx RX5 cX5_stop 3 none 0 false _ κ := C
  refine g_aload_0 C dX5_stop_0 rfl ?_
  refine g_iload_1 C dX5_stop_1 rfl ?_
  refine g_puti C 4 dX5_stop_2 rfl rfl rfl (Or.inl rfl) fl_X5_25 ?_
  rw [uS_sI]
  refine g_aload_0 C dX5_stop_5 rfl ?_
  refine g_iload_2 C dX5_stop_6 rfl ?_
  refine g_puti C 5 dX5_stop_7 rfl rfl rfl (Or.inl rfl) fl_X5_28 ?_
  rw [uS_sI]
  exact g_vret C rfl dX5_stop_10 ⟨rfl, rfl⟩

theorem fig_n1 {x : Int32} (h : x < 48) : inI x 48 57 = false := decide_eq_false (fun z => i_not_lt z.1 h)
theorem fig_n2 {x : Int32} (h : ¬ x ≤ 57) : inI x 48 57 = false := decide_eq_false (fun z => h z.2)
theorem fig_n3 {x : Int32} (h : 57 < x) : inI x 48 57 = false := decide_eq_false (fun z => i_not_lt z.2 h)
theorem fig_y {x : Int32} (h : ¬ x < 48) (h2 : ¬ 57 < x) : inI x 48 57 = true := decide_eq_true ⟨i_lt_le h, i_lt_le h2⟩
set_option maxHeartbeats 4000000 in
set_option maxRecDepth 20000 in
theorem ok_X5_isFigure (x : Int32) (S : Mem) : Ok yX5_isFigure cX5_isFigure 1 (some .boolean) 0 0 0 [.int x] S (RI (bI (inI x 48 57)) S) := by
  refine Ok.of (by decide) (Nat.le_of_ble_eq_true rfl) rfl (fun κ C hx => ?_)
  have C : Cx RX5 cX5_isFigure 1 (some .boolean) 0 false _ κ := C
  refine g_iload_0 C dX5_isFigure_0 rfl ?_
  refine g_bipush (v := 48) C dX5_isFigure_1 rfl (by decide) ?_
  refine g_icmp_lt (tgt := 16) C dX5_isFigure_3 rfl (by decide) (fun h3 => ?_) (fun h3 => ?_)
  · skip
    refine g_iconst (v := 0) C dX5_isFigure_16 rfl (by decide) ?_
    exact g_zret C rfl dX5_isFigure_17 (by first | exact Or.inl rfl | exact Or.inr rfl | exact bI_01 _) ⟨by rw [fig_n1 h3]; rfl, rfl⟩
  · skip
    refine g_iload_0 C dX5_isFigure_6 rfl ?_
    refine g_bipush (v := 57) C dX5_isFigure_7 rfl (by decide) ?_
    refine g_icmp_gt (tgt := 16) C dX5_isFigure_9 rfl (by decide) (fun h9 => ?_) (fun h9 => ?_)
    · skip
      refine g_iconst (v := 0) C dX5_isFigure_16 rfl (by decide) ?_
      exact g_zret C rfl dX5_isFigure_17 (by first | exact Or.inl rfl | exact Or.inr rfl | exact bI_01 _) ⟨by rw [fig_n3 h9]; rfl, rfl⟩
    · skip
      refine g_iconst (v := 1) C dX5_isFigure_12 rfl (by decide) ?_
      refine g_goto (tgt := 17) C dX5_isFigure_13 (by decide) ?_
      exact g_zret C rfl dX5_isFigure_17 (by first | exact Or.inl rfl | exact Or.inr rfl | exact bI_01 _) ⟨by rw [fig_y h3 h9]; rfl, rfl⟩

def tkG (tx : Nat → Int32) (tn p : Nat) (c : Int32) (g : Nat → Int32) : Nat → Int32 := if chr9 tx tn (skp tx tn p) = c then upd (upd g 2 (nI (skp tx tn p))) 2 (nI (skp tx tn p + 1)) else upd (upd (upd g 2 (nI (skp tx tn p))) 4 1) 5 (nI (skp tx tn p))
set_option maxHeartbeats 4000000 in
set_option maxRecDepth 20000 in
theorem ok_X5_take (c : Int32) (S : Mem) (hR : Rs S) (tn : Nat) (hX : Tx (mA S 2) tn) (g : Nat → Int32) (h1 : g 1 = nI tn) (p : Nat) (hp : g 2 = nI p) (hpt : p ≤ tn) : Ok yX5_take cX5_take 2 (some .boolean) 1 0 0 [.ref 1, .int c] (uS S g) (RI (bI (decide (chr9 (mA S 2) tn (skp (mA S 2) tn p) = c))) (uS S (tkG (mA S 2) tn p c g))) := by
  refine Ok.of (by decide) (Nat.le_of_ble_eq_true rfl) rfl (fun κ C hx => ?_)
  have C : Cx RX5 cX5_take 2 (some .boolean) 1 false _ κ := C
  refine g_aload_0 C dX5_take_0 rfl ?_
  refine g_cV0i C dX5_take_1 rfl ml_X5_36 mz_X5_peek (ok_X5_peek S hR tn hX g h1 p hp hpt) (by decide) rfl rfl rfl rfl (Nat.le_of_ble_eq_true rfl) (fun hn1 => ?_)
  refine g_iload_1 C dX5_take_4 rfl ?_
  refine g_icmp_eq (tgt := 19) C dX5_take_5 rfl (by decide) (fun h5 => ?_) (fun h5 => ?_)
  · skip
    refine g_aload_0 C dX5_take_19 rfl ?_
    refine g_dup C dX5_take_20 rfl rfl ?_
    refine g_geti C 2 dX5_take_21 rfl rfl rfl fl_X5_19 ?_
    rw [show mI (uS S (upd g 2 (nI (skp (mA S 2) tn p)))) 1 2 = nI (skp (mA S 2) tn p) from upd_at g 2 _]
    refine g_iconst (v := 1) C dX5_take_24 rfl (by decide) ?_
    refine g_iadd C dX5_take_25 rfl ?_
    refine g_puti C 2 dX5_take_26 rfl rfl rfl (Or.inl rfl) fl_X5_19 ?_
    rw [uS_sI, nI_1]
    refine g_iconst (v := 1) C dX5_take_29 rfl (by decide) ?_
    exact g_zret C rfl dX5_take_30 (by first | exact Or.inl rfl | exact Or.inr rfl | exact bI_01 _) ⟨by rw [decide_eq_true h5]; rfl, by unfold tkG; rw [if_pos h5]⟩
  · skip
    refine g_aload_0 C dX5_take_8 rfl ?_
    refine g_iconst (v := 1) C dX5_take_9 rfl (by decide) ?_
    refine g_aload_0 C dX5_take_10 rfl ?_
    refine g_geti C 2 dX5_take_11 rfl rfl rfl fl_X5_19 ?_
    rw [show mI (uS S (upd g 2 (nI (skp (mA S 2) tn p)))) 1 2 = nI (skp (mA S 2) tn p) from upd_at g 2 _]
    refine g_cV2v C dX5_take_14 rfl ml_X5_62 mz_X5_stop (ok_X5_stop _ _ S (upd g 2 (nI (skp (mA S 2) tn p)))) (by decide) rfl rfl rfl rfl (Nat.le_of_ble_eq_true rfl) (fun hn14 => ?_)
    refine g_iconst (v := 0) C dX5_take_17 rfl (by decide) ?_
    exact g_zret C rfl dX5_take_18 (by first | exact Or.inl rfl | exact Or.inr rfl | exact bI_01 _) ⟨by rw [decide_eq_false h5]; rfl, by unfold tkG; rw [if_neg h5]⟩

def nuQ (tx : Nat → Int32) (tn lo hi p : Nat) (g g2 : Nat → Int32) (v : Int32) : Prop := match numR tx tn lo hi p with
  | .inl (k, pl) => v = -1 ∧ g2 4 = nI k ∧ g2 5 = nI pl
  | .inr (a, e, x) => v = nI x ∧ g2 2 = nI e ∧ g2 3 = nI a ∧ g2 4 = g 4 ∧ g2 5 = g 5
def nuP (S : Mem) (tn lo hi p : Nat) (g : Nat → Int32) : Int32 → Mem → Prop := fun v S2 => ∃ g2, S2 = uS S g2 ∧ g2 1 = g 1 ∧ nuQ (mA S 2) tn lo hi p g g2 v
def fr23 (g g2 : Nat → Int32) : Prop := g2 1 = g 1 ∧ g2 4 = g 4 ∧ g2 5 = g 5
theorem min_id {x : Nat} (h : x ≤ 1000) : (if (1000 : Int32) < nI x then (1000 : Int32) else nI x) = nI x := if_neg (i_not_lt (nI_le (b := 1000) h (by decide)))
set_option maxHeartbeats 4000000 in
set_option maxRecDepth 20000 in
theorem lp_X5_number {κ : Kx} {Φ : Option Value → Mem → Prop} (C : Cx RX5 cX5_number 4 (some .int) 1 false Φ κ) (S : Mem) (hR : Rs S) (tn : Nat) (hX : Tx (mA S 2) tn) (g0 : Nat → Int32) (lo hi : Int32) (p0 : Nat) (K : ∀ (g2 : Nat → Int32) (v : Int32), g2 2 = nI (dgE (mA S 2) tn p0) → g2 3 = nI p0 → (dgE (mA S 2) tn p0 - p0 ≤ 3 → v = nI (dvl (mA S 2) p0 (dgE (mA S 2) tn p0 - p0))) → fr23 g0 g2 → G κ 0 0 (uS S g2) 94 [.ref 1, .int lo, .int hi, .int v] []) : ∀ (n p : Nat) (g : Nat → Int32) (v : Int32), p0 ≤ p → p ≤ tn → tn + 1 ≤ p + n → (∀ i, i < p - p0 → dig (mA S 2) tn (p0 + i) = true) → dgE (mA S 2) tn p = dgE (mA S 2) tn p0 → g 1 = nI tn → g 2 = nI p → g 3 = nI p0 → (p - p0 ≤ 3 → v = nI (dvl (mA S 2) p0 (p - p0))) → fr23 g0 g → G κ 0 0 (uS S g) 31 [.ref 1, .int lo, .int hi, .int v] [] := by
  have h240 := hX.1
  intro n
  induction n with
  | zero => intro p g v h0 h1 h2; exact absurd h2 (by omega)
  | succ n ih =>
    intro p g v hp0 hp1 hp2 hall hE h1 h2 h3 hv hf
    have e1 : mI (uS S g) 1 1 = nI tn := h1
    have e2 : mI (uS S g) 1 2 = nI p := h2
    have eA : mA (uS S g) 2 = mA S 2 := rfl
    refine g_aload_0 C dX5_number_31 rfl ?_
    refine g_geti C 2 dX5_number_32 rfl rfl rfl fl_X5_19 ?_
    rw [e2]
    refine g_aload_0 C dX5_number_35 rfl ?_
    refine g_geti C 1 dX5_number_36 rfl rfl rfl fl_X5_15 ?_
    rw [e1]
    refine g_icmp_ge (tgt := 94) C dX5_number_39 rfl (by decide) (fun h39 => ?_) (fun h39 => ?_)
    · skip
      have hge : tn ≤ p := n_ge (b := tn) h39 (by omega) (by omega)
      have hdp : dig (mA S 2) tn p = false := by unfold dig; rw [decide_eq_false (by omega)]; rfl
      have eE : dgE (mA S 2) tn p0 = p := by rw [← hE]; exact dgE_0 hdp
      exact K g v (by rw [eE]; exact h2) h3 (by rw [eE]; exact hv) hf
    · skip
      refine g_aload_0 C dX5_number_42 rfl ?_
      have hlt : p < tn := n_lt (b := tn) h39 (by omega) (by omega)
      refine g_getr C 0 dX5_number_43 rfl rfl rfl fl_X5_9 (hR 1 0 2 rfl) ?_
      refine g_aload_0 C dX5_number_46 rfl ?_
      refine g_geti C 2 dX5_number_47 rfl rfl rfl fl_X5_19 ?_
      rw [e2]
      refine g_iald C dX5_number_50 rfl rfl (n_in (show p < 240 by omega) (by decide)) ?_
      rw [nI_clamp (show p < 2 ^ 31 by omega), eA]
      refine g_cS1i C dX5_number_51 rfl ml_X5_90 mz_X5_isFigure (ok_X5_isFigure _ _) (by decide) rfl rfl (Nat.le_of_ble_eq_true rfl) (fun hn51 => ?_)
      refine g_if_eq (tgt := 94) C dX5_number_54 rfl (by decide) (fun h54 => ?_) (fun h54 => ?_)
      · skip
        have hdp : dig (mA S 2) tn p = false := by unfold dig; rw [decide_eq_true hlt, (bI_0 _).mp h54]; rfl
        have eE : dgE (mA S 2) tn p0 = p := by rw [← hE]; exact dgE_0 hdp
        exact K g v (by rw [eE]; exact h2) h3 (by rw [eE]; exact hv) hf
      · skip
        refine g_iload_3 C dX5_number_57 rfl ?_
        have hdp : dig (mA S 2) tn p = true := by unfold dig; rw [decide_eq_true hlt]; exact nf_t (fun q => h54 ((bI_0 _).mpr q))
        refine g_bipush (v := 10) C dX5_number_58 rfl (by decide) ?_
        refine g_imul C dX5_number_60 rfl ?_
        refine g_aload_0 C dX5_number_61 rfl ?_
        refine g_getr C 0 dX5_number_62 rfl rfl rfl fl_X5_9 (hR 1 0 2 rfl) ?_
        refine g_aload_0 C dX5_number_65 rfl ?_
        refine g_geti C 2 dX5_number_66 rfl rfl rfl fl_X5_19 ?_
        rw [e2]
        refine g_iald C dX5_number_69 rfl rfl (n_in (show p < 240 by omega) (by decide)) ?_
        rw [nI_clamp (show p < 2 ^ 31 by omega), eA]
        refine g_iadd C dX5_number_70 rfl ?_
        refine g_bipush (v := 48) C dX5_number_71 rfl (by decide) ?_
        refine g_isub C dX5_number_73 rfl ?_
        refine g_sipush (v := 1000) C dX5_number_74 rfl (by decide) ?_
        refine g_min C dX5_number_77 rfl ml_X5_93 (by decide) (Nat.le_of_ble_eq_true rfl) ?_
        refine g_istore_3 C rfl dX5_number_80 rfl ?_
        refine g_aload_0 C dX5_number_81 rfl ?_
        refine g_dup C dX5_number_82 rfl rfl ?_
        refine g_geti C 2 dX5_number_83 rfl rfl rfl fl_X5_19 ?_
        rw [e2]
        refine g_iconst (v := 1) C dX5_number_86 rfl (by decide) ?_
        refine g_iadd C dX5_number_87 rfl ?_
        refine g_puti C 2 dX5_number_88 rfl rfl rfl (Or.inl rfl) fl_X5_19 ?_
        rw [uS_sI, nI_1]
        refine g_goto (tgt := 31) C dX5_number_91 (by decide) ?_
        refine ih (p + 1) _ _ (by omega) (by omega) (by omega) (fun i hi => ?_) (by rw [← hE]; exact (dgE_s hdp).symm) h1 (upd_at _ _ _) h3 (fun h3' => ?_) ⟨hf.1, hf.2.1, hf.2.2⟩
        · by_cases hi2 : i < p - p0
          · exact hall i hi2
          · rw [show p0 + i = p by omega]; exact hdp
        · have hall2 : ∀ i, i < p + 1 - p0 → dig (mA S 2) tn (p0 + i) = true := fun i hi => by
            by_cases hi2 : i < p - p0
            · exact hall i hi2
            · rw [show p0 + i = p by omega]; exact hdp
          have h9 := dvl_999 (n := p + 1 - p0) h3' hall2
          have ed : dvl (mA S 2) p0 (p + 1 - p0) = 10 * dvl (mA S 2) p0 (p - p0) + fgN (mA S 2 p) := by
            rw [show p + 1 - p0 = (p - p0) + 1 by omega]
            show 10 * dvl (mA S 2) p0 (p - p0) + fgN (mA S 2 (p0 + (p - p0))) = _
            rw [show p0 + (p - p0) = p by omega]
          rw [ed] at h9
          rw [ed, hv (by omega)]
          obtain ⟨-, e9⟩ := fgN_ok hdp
          generalize fgN (mA S 2 p) = q9 at e9 h9 ⊢
          rw [e9, show nI (dvl (mA S 2) p0 (p - p0)) * (10 : Int32) = nI (dvl (mA S 2) p0 (p - p0) * 10) from pk_mul _ 10, nI_add, show (48 : Int32) = nI 48 from rfl, pk_sub (by omega), show dvl (mA S 2) p0 (p - p0) * 10 + (q9 + 48) - 48 = 10 * dvl (mA S 2) p0 (p - p0) + q9 by omega]
          exact min_id (by omega)

set_option maxHeartbeats 4000000 in
set_option maxRecDepth 20000 in
theorem ok_X5_number (lo hi : Nat) (hlo : lo ≤ 999) (hhi : hi ≤ 999) (S : Mem) (hR : Rs S) (tn : Nat) (hX : Tx (mA S 2) tn) (g : Nat → Int32) (h1 : g 1 = nI tn) (p : Nat) (hp : g 2 = nI p) (hpt : p ≤ tn) : Ok yX5_number cX5_number 4 (some .int) 1 0 0 [.ref 1, .int (nI lo), .int (nI hi)] (uS S g) (RX (nuP S tn lo hi p g)) := by
  have h240 := hX.1
  have hq := skp_le (tx := mA S 2) hpt
  generalize hqe : skp (mA S 2) tn p = q at hq
  refine Ok.of (by decide) (Nat.le_of_ble_eq_true rfl) rfl (fun κ C hx => ?_)
  have C : Cx RX5 cX5_number 4 (some .int) 1 false _ κ := C
  refine g_aload_0 C dX5_number_0 rfl ?_
  refine g_cV0i C dX5_number_1 rfl ml_X5_36 mz_X5_peek (ok_X5_peek S hR tn hX g h1 p hp hpt) (by decide) rfl rfl rfl rfl (Nat.le_of_ble_eq_true rfl) (fun hn1 => ?_)
  rw [hqe]
  refine g_cS1i C dX5_number_4 rfl ml_X5_90 mz_X5_isFigure (ok_X5_isFigure _ _) (by decide) rfl rfl (Nat.le_of_ble_eq_true rfl) (fun hn4 => ?_)
  refine g_if_ne (tgt := 21) C dX5_number_7 rfl (by decide) (fun h7 => ?_) (fun h7 => ?_)
  · skip
    refine g_aload_0 C dX5_number_21 rfl ?_
    refine g_aload_0 C dX5_number_22 rfl ?_
    refine g_geti C 2 dX5_number_23 rfl rfl rfl fl_X5_19 ?_
    rw [show mI (uS S (upd g 2 (nI q))) 1 2 = nI q from upd_at g 2 (nI q)]
    refine g_puti C 3 dX5_number_26 rfl rfl rfl (Or.inl rfl) fl_X5_22 ?_
    rw [uS_sI]
    refine g_iconst (v := 0) C dX5_number_29 rfl (by decide) ?_
    refine g_istore_3 C rfl dX5_number_30 rfl ?_
    have hdg : dig (mA S 2) tn q = true := by
      have h7' := nf_t (fun z => h7 ((bI_0 _).mpr z))
      unfold dig
      by_cases hl : q < tn
      · rw [show chr9 (mA S 2) tn q = mA S 2 q from if_pos hl] at h7'
        rw [h7', decide_eq_true hl]; rfl
      · rw [show chr9 (mA S 2) tn q = -1 from if_neg hl] at h7'
        exact absurd h7' (by decide)
    have hE := dgE_lt hdg
    have hE2 := (dgE_le (tx := mA S 2) (tn := tn) (p := q) hq.2).2
    refine lp_X5_number C S hR tn hX g (nI lo) (nI hi) q (fun g2 v k2 k3 kv kf => ?_) (tn + 1) q _ 0 (Nat.le_refl q) hq.2 (by omega) (fun i hi => absurd hi (by omega)) rfl h1 rfl rfl (fun _ => by rw [Nat.sub_self]; rfl) ⟨rfl, rfl, rfl⟩
    generalize hEe : dgE (mA S 2) tn q = e at hE hE2 k2 kv
    refine g_aload_0 C dX5_number_94 rfl ?_
    refine g_geti C 2 dX5_number_95 rfl rfl rfl fl_X5_19 ?_
    rw [show mI (uS S g2) 1 2 = nI e from k2]
    refine g_aload_0 C dX5_number_98 rfl ?_
    refine g_geti C 3 dX5_number_99 rfl rfl rfl fl_X5_22 ?_
    rw [show mI (uS S g2) 1 3 = nI q from k3]
    refine g_isub C dX5_number_102 rfl ?_
    rw [pk_sub (show q ≤ e by omega)]
    refine g_iconst (v := 3) C dX5_number_103 rfl (by decide) ?_
    refine g_icmp_gt (tgt := 117) C dX5_number_104 rfl (by decide) (fun h104 => ?_) (fun h104 => ?_)
    · skip
      refine g_aload_0 C dX5_number_117 rfl ?_
      refine g_iconst (v := 2) C dX5_number_118 rfl (by decide) ?_
      refine g_aload_0 C dX5_number_119 rfl ?_
      refine g_geti C 3 dX5_number_120 rfl rfl rfl fl_X5_22 ?_
      rw [show mI (uS S g2) 1 3 = nI q from k3]
      refine g_cV2v C dX5_number_123 rfl ml_X5_62 mz_X5_stop (ok_X5_stop _ _ S g2) (by decide) rfl rfl rfl rfl (Nat.le_of_ble_eq_true rfl) (fun hn123 => ?_)
      refine g_iconst (v := -1) C dX5_number_126 rfl (by decide) ?_
      exact g_iret C rfl dX5_number_127 ⟨-1, rfl, _, rfl, kf.1, by
        have hgt3 : 3 < e - q := n_lt' (a := 3) (b := e - q) h104 (by decide) (by omega)
        unfold nuQ numR
        rw [hqe, if_pos hdg, hEe, if_pos (Or.inl hgt3)]
        exact ⟨rfl, rfl, upd_at _ _ _⟩⟩
    · skip
      refine g_iload_3 C dX5_number_107 rfl ?_
      have hle3 : e - q ≤ 3 := n_nlt (a := 3) (b := e - q) h104 (by decide) (by omega)
      have h9 := dvl_999 (tx := mA S 2) (tn := tn) (p := q) hle3 (fun i hi => dig_run hdg i (by rw [hEe]; exact hi))
      have ev := kv hle3
      generalize hde : dvl (mA S 2) q (e - q) = d9 at h9 ev
      subst ev
      refine g_iload_1 C dX5_number_108 rfl ?_
      refine g_icmp_lt (tgt := 117) C dX5_number_109 rfl (by decide) (fun h109 => ?_) (fun h109 => ?_)
      · skip
        refine g_aload_0 C dX5_number_117 rfl ?_
        refine g_iconst (v := 2) C dX5_number_118 rfl (by decide) ?_
        refine g_aload_0 C dX5_number_119 rfl ?_
        refine g_geti C 3 dX5_number_120 rfl rfl rfl fl_X5_22 ?_
        rw [show mI (uS S g2) 1 3 = nI q from k3]
        refine g_cV2v C dX5_number_123 rfl ml_X5_62 mz_X5_stop (ok_X5_stop _ _ S g2) (by decide) rfl rfl rfl rfl (Nat.le_of_ble_eq_true rfl) (fun hn123 => ?_)
        refine g_iconst (v := -1) C dX5_number_126 rfl (by decide) ?_
        exact g_iret C rfl dX5_number_127 ⟨-1, rfl, _, rfl, kf.1, by
        have hb := n_lt' (a := d9) (b := lo) h109 (by omega) (by omega)
        unfold nuQ numR
        rw [hqe, if_pos hdg, hEe, hde, if_pos (by omega)]
        exact ⟨rfl, rfl, upd_at _ _ _⟩⟩
      · skip
        refine g_iload_3 C dX5_number_112 rfl ?_
        refine g_iload_2 C dX5_number_113 rfl ?_
        refine g_icmp_le (tgt := 128) C dX5_number_114 rfl (by decide) (fun h114 => ?_) (fun h114 => ?_)
        · skip
          refine g_iload_3 C dX5_number_128 rfl ?_
          exact g_iret C rfl dX5_number_129 ⟨nI d9, rfl, g2, rfl, kf.1, by
        have hb1 := n_nlt (a := d9) (b := lo) h109 (by omega) (by omega)
        have hb2 := n_ge (a := hi) (b := d9) h114 (by omega) (by omega)
        unfold nuQ numR
        rw [hqe, if_pos hdg, hEe, hde, if_neg (by omega)]
        exact ⟨rfl, k2, k3, kf.2.1, kf.2.2⟩⟩
        · skip
          refine g_aload_0 C dX5_number_117 rfl ?_
          refine g_iconst (v := 2) C dX5_number_118 rfl (by decide) ?_
          refine g_aload_0 C dX5_number_119 rfl ?_
          refine g_geti C 3 dX5_number_120 rfl rfl rfl fl_X5_22 ?_
          rw [show mI (uS S g2) 1 3 = nI q from k3]
          refine g_cV2v C dX5_number_123 rfl ml_X5_62 mz_X5_stop (ok_X5_stop _ _ S g2) (by decide) rfl rfl rfl rfl (Nat.le_of_ble_eq_true rfl) (fun hn123 => ?_)
          refine g_iconst (v := -1) C dX5_number_126 rfl (by decide) ?_
          exact g_iret C rfl dX5_number_127 ⟨-1, rfl, _, rfl, kf.1, by
        have hb : ¬ d9 ≤ hi := fun z => h114 (nI_le z (by omega))
        unfold nuQ numR
        rw [hqe, if_pos hdg, hEe, hde, if_pos (by omega)]
        exact ⟨rfl, rfl, upd_at _ _ _⟩⟩
  · skip
    refine g_aload_0 C dX5_number_10 rfl ?_
    refine g_iconst (v := 1) C dX5_number_11 rfl (by decide) ?_
    refine g_aload_0 C dX5_number_12 rfl ?_
    refine g_geti C 2 dX5_number_13 rfl rfl rfl fl_X5_19 ?_
    rw [show mI (uS S (upd g 2 (nI q))) 1 2 = nI q from upd_at g 2 (nI q)]
    refine g_cV2v C dX5_number_16 rfl ml_X5_62 mz_X5_stop (ok_X5_stop _ _ S (upd g 2 (nI q))) (by decide) rfl rfl rfl rfl (Nat.le_of_ble_eq_true rfl) (fun hn16 => ?_)
    refine g_iconst (v := -1) C dX5_number_19 rfl (by decide) ?_
    exact g_iret C rfl dX5_number_20 ⟨-1, rfl, _, rfl, rfl, by
      have hdg : dig (mA S 2) tn q = false := by
        unfold dig
        by_cases hl : q < tn
        · rw [show chr9 (mA S 2) tn q = mA S 2 q from if_pos hl] at h7
          rw [(bI_0 _).mp h7, Bool.and_false]
        · rw [decide_eq_false hl]; rfl
      unfold nuQ numR
      rw [hqe, if_neg (by rw [hdg]; decide)]
      exact ⟨rfl, rfl, upd_at _ _ _⟩⟩

