/-! what follows: the least set that holds the given one and is shut under the rules; it is one alone -/
def cls9 (nr : Nat) (cn nd : Nat → Int32) (bb x : Int32) : Prop := ∀ r, r < nr → hasB bb (nI r) = true → sub (nd r) x → sub (one (cn r)) x
def IsClo (nr : Nat) (cn nd : Nat → Int32) (bb set res : Int32) : Prop := sub set res ∧ cls9 nr cn nd bb res ∧ ∀ z, sub set z → cls9 nr cn nd bb z → sub res z
noncomputable def clo (nr : Nat) (cn nd : Nat → Int32) (bb set : Int32) : Int32 := Classical.epsilon (IsClo nr cn nd bb set)
theorem IsClo.one {nr : Nat} {cn nd : Nat → Int32} {bb set a b : Int32} (h1 : IsClo nr cn nd bb set a) (h2 : IsClo nr cn nd bb set b) : a = b := sub_anti (h1.2.2 b h2.1 h2.2.1) (h2.2.2 a h1.1 h1.2.1)
theorem clo_eq {nr : Nat} {cn nd : Nat → Int32} {bb set a : Int32} (h : IsClo nr cn nd bb set a) : clo nr cn nd bb set = a := (Classical.epsilon_spec ⟨a, h⟩ : IsClo nr cn nd bb set (Classical.epsilon (IsClo nr cn nd bb set))).one h
def mis (x : Int32) : Nat → Nat
  | 0 => 0
  | n + 1 => mis x n + (if bt x n = true then 0 else 1)
theorem mis_le {x y : Int32} (h : sub x y) : ∀ n, n ≤ 32 → mis y n ≤ mis x n
  | 0, _ => Nat.le_refl 0
  | n + 1, hn => by
    have ih := mis_le h n (by omega)
    unfold mis
    by_cases hx : bt x n = true
    · rw [if_pos hx, if_pos (sub_iff.mp h n (by omega) hx)]
      omega
    · rw [if_neg hx]
      by_cases hy : bt y n = true
      · rw [if_pos hy]; omega
      · rw [if_neg hy]; omega
theorem mis_lt {x y : Int32} (h : sub x y) {c : Nat} (h1 : bt x c = false) (h2 : bt y c = true) : ∀ n, n ≤ 32 → c < n → mis y n < mis x n
  | 0, _, hc => absurd hc (Nat.not_lt_zero c)
  | n + 1, hn, hc => by
    unfold mis
    by_cases e : c = n
    · subst e
      have ih := mis_le h c (by omega)
      rw [if_pos h2, if_neg (by rw [h1]; decide)]
      omega
    · have ih := mis_lt h h1 h2 n (by omega) (by omega)
      by_cases hx : bt x n = true
      · rw [if_pos hx, if_pos (sub_iff.mp h n (by omega) hx)]
        omega
      · rw [if_neg hx]
        by_cases hy : bt y n = true
        · rw [if_pos hy]; omega
        · rw [if_neg hy]; omega
def ms9 (x : Int32) : Nat := mis x 32
theorem ms9_lt {x : Int32} {c : Nat} (hc : c < 32) (h : hasB x (nI c) = false) : ms9 (x ||| one (nI c)) < ms9 x := by
  rw [hasB_bt hc] at h
  exact mis_lt (sub_or_left _ _) h (by rw [b_or, bt_one hc hc]; simp) 32 (Nat.le_refl 32) hc
/-- the rules that a town has: ten at most, each concludes a saying under 16 -/
def Tn (nr : Nat) (cn : Nat → Int32) : Prop := nr ≤ 10 ∧ ∀ r, r < nr → ∃ c, c < 16 ∧ cn r = nI c

set_option maxHeartbeats 4000000 in
set_option maxRecDepth 20000 in
theorem lp_X8_close_x {κ : Kx} {Φ : Option Value → Mem → Prop} (C : Cx RX8 cX8_close 6 (some .int) 1 false Φ κ) (S : Mem) (set bb all : Int32) (v5 : Value) (hΦ : Φ (some (.int all)) S) : G κ 0 0 S 5 [.ref 25, .int set, .int bb, .int all, .int 0, v5] [] := by
  skip
  refine g_iload_4 C dX8_close_5 rfl ?_
  refine g_if_eq (tgt := 86) C dX8_close_7 rfl (by decide) (fun h7 => ?_) (fun h7 => absurd rfl h7)
  refine g_iload_3 C dX8_close_86 rfl ?_
  exact g_iret C rfl dX8_close_87 hΦ

def sat9 (cn nd : Nat → Int32) (bb all : Int32) (r : Nat) : Prop := hasB bb (nI r) = true → sub (nd r) all → sub (one (cn r)) all
set_option maxHeartbeats 4000000 in
set_option maxRecDepth 20000 in
theorem lp_X8_close_i {κ : Kx} {Φ : Option Value → Mem → Prop} (C : Cx RX8 cX8_close 6 (some .int) 1 false Φ κ) (S : Mem) (hR : Rs S) (nr : Nat) (hnr : mI S 25 1 = nI nr) (hT : Tn nr (mA S 27)) (set bb : Int32) (all0 : Int32) (K : ∀ (all more : Int32) (v5 : Value), (sub set all ∧ ∀ z, sub set z → cls9 nr (mA S 27) (mA S 28) bb z → sub all z) → (more = 0 ∨ more = 1) → (more = 0 → all = all0 ∧ ∀ r, r < nr → sat9 (mA S 27) (mA S 28) bb all r) → (more = 1 → ms9 all < ms9 all0) → G κ 0 0 S 5 [.ref 25, .int set, .int bb, .int all, .int more, v5] []) :
    ∀ (n r : Nat) (all more : Int32), r ≤ nr → nr + 1 ≤ r + n → (sub set all ∧ ∀ z, sub set z → cls9 nr (mA S 27) (mA S 28) bb z → sub all z) → (more = 0 ∨ more = 1) → (more = 0 → all = all0 ∧ ∀ r', r' < r → sat9 (mA S 27) (mA S 28) bb all r') → (more = 1 → ms9 all < ms9 all0) → G κ 0 0 S 16 [.ref 25, .int set, .int bb, .int all, .int more, .int (nI r)] [] := by
  have hle10 := hT.1
  intro n
  induction n with
  | zero => intro r all more h1 h2; exact absurd h2 (by omega)
  | succ n ih =>
    intro r all more hr hn hI hmo h0 h1
    refine g_iload_5 C dX8_close_16 rfl ?_
    refine g_aload_0 C dX8_close_18 rfl ?_
    refine g_geti C 1 dX8_close_19 rfl rfl rfl fl_X8_77 ?_
    rw [hnr]
    refine g_icmp_ge (tgt := 83) C dX8_close_22 rfl (by decide) (fun h22 => ?_) (fun h22 => ?_)
    · skip
      refine g_goto (tgt := 5) C dX8_close_83 (by decide) ?_
      have hge := n_ge h22 (by omega) (by omega)
      have e : r = nr := by omega
      subst e
      exact K all more _ hI hmo h0 h1
    · skip
      refine g_iload_2 C dX8_close_25 rfl ?_
      refine g_iload_5 C dX8_close_26 rfl ?_
      refine g_cS2i C dX8_close_28 rfl ml_X8_114 mz_X8_has (ok_X8_has _ _ _) (by decide) rfl rfl (Nat.le_of_ble_eq_true rfl) (fun hn28 => ?_)
      refine g_if_eq (tgt := 77) C dX8_close_31 rfl (by decide) (fun h31 => ?_) (fun h31 => ?_)
      · skip
        refine g_iinc_5 (z := 1) C rfl dX8_close_77 rfl (by decide) ?_
        refine g_goto (tgt := 16) C dX8_close_80 (by decide) ?_
        rw [nI_1]
        have hrr : r < nr := n_lt h22 (by omega) (by omega)
        have hsat : sat9 (mA S 27) (mA S 28) bb all r := fun hb _ => absurd hb (by rw [(bI_0 _).mp h31]; decide)
        refine ih (r + 1) all more (by omega) (by omega) hI hmo (fun h => ⟨(h0 h).1, fun r' hr' => ?_⟩) h1
        rcases Nat.lt_succ_iff_lt_or_eq.mp hr' with hlt | heq
        · exact (h0 h).2 r' hlt
        · rw [heq]; exact hsat
      · skip
        refine g_iload_3 C dX8_close_34 rfl ?_
        refine g_aload_0 C dX8_close_35 rfl ?_
        refine g_getr C 3 dX8_close_36 rfl rfl rfl fl_X8_13 (hR 25 3 27 rfl) ?_
        refine g_iload_5 C dX8_close_39 rfl ?_
        refine g_iald C dX8_close_41 rfl rfl (n_in (show r < 10 by have := n_lt h22 (by omega) (by omega); omega) (by decide)) ?_
        rw [nI_clamp (show r < 2 ^ 31 by omega)]
        refine g_cS2i C dX8_close_42 rfl ml_X8_114 mz_X8_has (ok_X8_has _ _ _) (by decide) rfl rfl (Nat.le_of_ble_eq_true rfl) (fun hn42 => ?_)
        refine g_if_ne (tgt := 77) C dX8_close_45 rfl (by decide) (fun h45 => ?_) (fun h45 => ?_)
        · skip
          refine g_iinc_5 (z := 1) C rfl dX8_close_77 rfl (by decide) ?_
          refine g_goto (tgt := 16) C dX8_close_80 (by decide) ?_
          rw [nI_1]
          have hrr : r < nr := n_lt h22 (by omega) (by omega)
          have hsat : sat9 (mA S 27) (mA S 28) bb all r := fun _ _ => by obtain ⟨c, hc, e⟩ := hT.2 r hrr; rw [e] at h45 ⊢; rw [sub_one (by omega), ← hasB_bt (by omega)]; exact nf_t (fun hf => h45 ((bI_0 _).mpr hf))
          refine ih (r + 1) all more (by omega) (by omega) hI hmo (fun h => ⟨(h0 h).1, fun r' hr' => ?_⟩) h1
          rcases Nat.lt_succ_iff_lt_or_eq.mp hr' with hlt | heq
          · exact (h0 h).2 r' hlt
          · rw [heq]; exact hsat
        · skip
          refine g_aload_0 C dX8_close_48 rfl ?_
          refine g_getr C 4 dX8_close_49 rfl rfl rfl fl_X8_16 (hR 25 4 28 rfl) ?_
          refine g_iload_5 C dX8_close_52 rfl ?_
          refine g_iald C dX8_close_54 rfl rfl (n_in (show r < 10 by have := n_lt h22 (by omega) (by omega); omega) (by decide)) ?_
          rw [nI_clamp (show r < 2 ^ 31 by omega)]
          refine g_iload_3 C dX8_close_55 rfl ?_
          refine g_iconst (v := -1) C dX8_close_56 rfl (by decide) ?_
          refine g_ixor C dX8_close_57 rfl ?_
          refine g_iand C dX8_close_58 rfl ?_
          refine g_if_ne (tgt := 77) C dX8_close_59 rfl (by decide) (fun h59 => ?_) (fun h59 => ?_)
          · skip
            refine g_iinc_5 (z := 1) C rfl dX8_close_77 rfl (by decide) ?_
            refine g_goto (tgt := 16) C dX8_close_80 (by decide) ?_
            rw [nI_1]
            have hrr : r < nr := n_lt h22 (by omega) (by omega)
            have hsat : sat9 (mA S 27) (mA S 28) bb all r := fun _ hs => absurd hs h59
            refine ih (r + 1) all more (by omega) (by omega) hI hmo (fun h => ⟨(h0 h).1, fun r' hr' => ?_⟩) h1
            rcases Nat.lt_succ_iff_lt_or_eq.mp hr' with hlt | heq
            · exact (h0 h).2 r' hlt
            · rw [heq]; exact hsat
          · skip
            refine g_iload_3 C dX8_close_62 rfl ?_
            refine g_iconst (v := 1) C dX8_close_63 rfl (by decide) ?_
            refine g_aload_0 C dX8_close_64 rfl ?_
            refine g_getr C 3 dX8_close_65 rfl rfl rfl fl_X8_13 (hR 25 3 27 rfl) ?_
            refine g_iload_5 C dX8_close_68 rfl ?_
            refine g_iald C dX8_close_70 rfl rfl (n_in (show r < 10 by have := n_lt h22 (by omega) (by omega); omega) (by decide)) ?_
            rw [nI_clamp (show r < 2 ^ 31 by omega)]
            refine g_ishl C dX8_close_71 rfl ?_
            refine g_ior C dX8_close_72 rfl ?_
            refine g_istore_3 C rfl dX8_close_73 rfl ?_
            refine g_iconst (v := 1) C dX8_close_74 rfl (by decide) ?_
            refine g_istore_4 C rfl dX8_close_75 rfl ?_
            refine g_iinc_5 (z := 1) C rfl dX8_close_77 rfl (by decide) ?_
            refine g_goto (tgt := 16) C dX8_close_80 (by decide) ?_
            rw [nI_1]
            have hrr : r < nr := n_lt h22 (by omega) (by omega)
            obtain ⟨c, hc, e⟩ := hT.2 r hrr
            have hno : hasB all (nI c) = false := by rw [← e]; exact (bI_0 _).mp h45
            have hby : hasB bb (nI r) = true := nf_t (fun hf => h31 ((bI_0 _).mpr hf))
            have hle : ms9 all ≤ ms9 all0 := by
              rcases hmo with h | h
              · rw [(h0 h).1]; exact Nat.le_refl _
              · exact Nat.le_of_lt (h1 h)
            exact ih (r + 1) (all ||| one (mA S 27 r)) 1 (by omega) (by omega) ⟨sub_trans hI.1 (sub_or_left _ _), fun z h1 h2 => or_sub (hI.2 z h1 h2) (h2 r hrr hby (sub_trans h59 (hI.2 z h1 h2)))⟩ (Or.inr rfl) (fun h => absurd h (by decide)) (fun _ => Nat.lt_of_lt_of_le (by rw [e]; exact ms9_lt (by omega) hno) hle)

set_option maxHeartbeats 4000000 in
set_option maxRecDepth 20000 in
theorem lp_X8_close_o {κ : Kx} {Φ : Option Value → Mem → Prop} (C : Cx RX8 cX8_close 6 (some .int) 1 false Φ κ) (S : Mem) (hR : Rs S) (nr : Nat) (hnr : mI S 25 1 = nI nr) (hT : Tn nr (mA S 27)) (set bb : Int32) (hΦ : Φ (some (.int (clo nr (mA S 27) (mA S 28) bb set))) S) : ∀ (n : Nat) (all : Int32) (v5 : Value), ms9 all < n → (sub set all ∧ ∀ z, sub set z → cls9 nr (mA S 27) (mA S 28) bb z → sub all z) → G κ 0 0 S 5 [.ref 25, .int set, .int bb, .int all, .int 1, v5] [] := by
  intro n
  induction n with
  | zero => intro all v5 h; exact absurd h (Nat.not_lt_zero _)
  | succ n ih =>
    intro all v5 hm hI
    refine g_iload_4 C dX8_close_5 rfl ?_
    refine g_if_eq (tgt := 86) C dX8_close_7 rfl (by decide) (fun h7 => absurd h7 (by decide)) (fun h7 => ?_)
    refine g_iconst (v := 0) C dX8_close_10 rfl (by decide) ?_
    refine g_istore_4 C rfl dX8_close_11 rfl ?_
    refine g_iconst (v := 0) C dX8_close_13 rfl (by decide) ?_
    refine g_istore_5 C rfl dX8_close_14 rfl ?_
    refine lp_X8_close_i C S hR nr hnr hT set bb all (fun all' more v5 hI' hmo h0 h1 => ?_) (nr + 1) 0 all 0 (Nat.zero_le _) (by omega) hI (Or.inl rfl) (fun _ => ⟨rfl, fun r' h => absurd h (Nat.not_lt_zero _)⟩) (fun h => absurd h (by decide))
    rcases hmo with h | h
    · subst h
      have hc : IsClo nr (mA S 27) (mA S 28) bb set all' := ⟨hI'.1, fun r hr => (h0 rfl).2 r hr, hI'.2⟩
      refine lp_X8_close_x C S set bb all' v5 ?_
      rw [← clo_eq hc]
      exact hΦ
    · subst h
      exact ih all' v5 (by have := h1 rfl; omega) hI'

set_option maxHeartbeats 4000000 in
set_option maxRecDepth 20000 in
theorem ok_X8_close (set bb : Int32) (S : Mem) (hR : Rs S) (nr : Nat) (hnr : mI S 25 1 = nI nr) (hT : Tn nr (mA S 27)) : Ok yX8_close cX8_close 6 (some .int) 1 0 0 [.ref 25, .int set, .int bb] S (RI (clo nr (mA S 27) (mA S 28) bb set) S) := by
  refine Ok.of (by decide) (Nat.le_of_ble_eq_true rfl) rfl (fun κ C hx => ?_)
  have C : Cx RX8 cX8_close 6 (some .int) 1 false _ κ := C
  refine g_iload_1 C dX8_close_0 rfl ?_
  refine g_istore_3 C rfl dX8_close_1 rfl ?_
  refine g_iconst (v := 1) C dX8_close_2 rfl (by decide) ?_
  refine g_istore_4 C rfl dX8_close_3 rfl ?_
  exact lp_X8_close_o C S hR nr hnr hT set bb ⟨rfl, rfl⟩ (ms9 set + 1) set _ (Nat.lt_succ_self _) ⟨sub_refl set, fun z h _ => h⟩

set_option maxHeartbeats 4000000 in
set_option maxRecDepth 20000 in
theorem ok_X8_followsNow (S : Mem) (hR : Rs S) (nr : Nat) (hnr : mI S 25 1 = nI nr) (hT : Tn nr (mA S 27)) : Ok yX8_followsNow cX8_followsNow 1 (some .int) 2 0 0 [.ref 25] S (RI (clo nr (mA S 27) (mA S 28) (alw (nI nr) (mA S 29 2)) (mA S 29 0)) S) := by
  refine Ok.of (by decide) (Nat.le_of_ble_eq_true rfl) rfl (fun κ C hx => ?_)
  have C : Cx RX8 cX8_followsNow 1 (some .int) 2 false _ κ := C
  refine g_aload_0 C dX8_followsNow_0 rfl ?_
  refine g_aload_0 C dX8_followsNow_1 rfl ?_
  refine g_getr C 5 dX8_followsNow_2 rfl rfl rfl fl_X8_19 (hR 25 5 29 rfl) ?_
  refine g_iconst (v := 0) C dX8_followsNow_5 rfl (by decide) ?_
  refine g_iald C dX8_followsNow_6 rfl rfl (n_in (k := 0) (N := 4) (by decide) (by decide)) ?_
  refine g_aload_0 C dX8_followsNow_7 rfl ?_
  refine g_cV0i C dX8_followsNow_8 rfl ml_X8_149 mz_X8_allowed (ok_X8_allowed S hR) (by decide) rfl rfl rfl rfl (Nat.le_of_ble_eq_true rfl) (fun hn8 => ?_)
  refine g_cV2i C dX8_followsNow_11 rfl ml_X8_152 mz_X8_close (ok_X8_close _ _ S hR nr hnr hT) (by decide) rfl rfl rfl rfl (Nat.le_of_ble_eq_true rfl) (fun hn11 => ?_)
  exact g_iret C rfl dX8_followsNow_14 ⟨by rw [hnr]; rfl, rfl⟩

