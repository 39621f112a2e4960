theorem numQ_le {tx : Nat → Int32} {tn lo hi p : Nat} {g g2 : Nat → Int32} {v : Int32} (h : numQ tx tn lo hi p g g2 v) : v ≤ 0 → v = 0 := by
  intro hv
  unfold numQ at h
  cases hn : numR tx tn lo hi p with
  | inl f =>
    obtain ⟨k, pl⟩ := f
    rw [hn] at h
    have := numR_inl hn
    rw [h.1] at hv
    exact absurd hv (nI_nle (by omega) (by omega))
  | inr f =>
    obtain ⟨a, e, x⟩ := f
    rw [hn] at h
    exact h.1
theorem chr_lt {tx : Nat → Int32} {tn q : Nat} {x : Int32} (h : chr9 tx tn q = x) (hx : ¬ x = -1) : q < tn := by
  unfold chr9 at h
  by_cases hl : q < tn
  · exact hl
  · rw [if_neg hl] at h
    exact absurd h.symm hx
def plQ (tx : Nat → Int32) (tn th qv n : Nat) (nd : Int32) (p nr : Nat) (g g2 c c2 : Nat → Int32) (v : Int32) : Prop := match pmR tx tn th (nI qv) n nd p with
  | .inl (k, pl) => v = nI k ∧ g2 9 = nI pl
  | .inr (e, nd2) => v = 0 ∧ g2 9 = g 9 ∧ g2 10 = nI e ∧ c2 = upd c nr nd2
theorem pm_0c {tx : Nat → Int32} {tn th p : Nat} {q nd : Int32} (h : chr9 tx tn (skp tx tn p) = 44) : pmR tx tn th q 0 nd p = .inl (1, skp tx tn p) := if_pos h
theorem pm_e {tx : Nat → Int32} {tn th p : Nat} {q nd : Int32} (h : ¬ chr9 tx tn (skp tx tn p) = 44) : ∀ n, pmR tx tn th q n nd p = .inr (skp tx tn p, nd)
  | 0 => if_neg h
  | _ + 1 => if_neg h
theorem pm_sf {tx : Nat → Int32} {tn th p n k pl : Nat} {q nd : Int32} (h : chr9 tx tn (skp tx tn p) = 44) (hs : sayR tx tn th (nd ||| one q) (skp tx tn p + 1) = .inl (k, pl)) : pmR tx tn th q (n + 1) nd p = .inl (k, pl) := by
  unfold pmR
  rw [if_pos h, hs]
theorem pm_ss {tx : Nat → Int32} {tn th p n a e v : Nat} {q nd : Int32} (h : chr9 tx tn (skp tx tn p) = 44) (hs : sayR tx tn th (nd ||| one q) (skp tx tn p + 1) = .inr (a, e, v)) : pmR tx tn th q (n + 1) nd p = pmR tx tn th q n (nd ||| one (nI v)) e := by
  conv => lhs; unfold pmR
  rw [if_pos h, hs]
set_option maxHeartbeats 4000000 in
set_option maxRecDepth 20000 in
theorem lp_X8_takeRule_x {κ : Kx} {Φ : Option Value → Mem → Prop} (C : Cx RX8 cX8_takeRule 4 (some .int) 3 false Φ κ) (S : Mem) (r f many : Int32) (hf : ¬ f = 0) (hΦ : Φ (some (.int f)) S) : G κ 0 0 S 66 [.ref 25, .int r, .int f, .int many] [] := by
  skip
  refine g_iload_2 C dX8_takeRule_66 rfl ?_
  refine g_if_ne (tgt := 149) C dX8_takeRule_67 rfl (by decide) (fun h67 => ?_) (fun h67 => absurd h67 hf)
  refine g_iload_2 C dX8_takeRule_149 rfl ?_
  exact g_iret C rfl dX8_takeRule_150 hΦ

set_option maxHeartbeats 4000000 in
set_option maxRecDepth 20000 in
theorem lp_X8_takeRule {κ : Kx} {Φ : Option Value → Mem → Prop} (C : Cx RX8 cX8_takeRule 4 (some .int) 3 false Φ κ) (S : Mem) (hR : Rs S) (tn : Nat) (hX : Tx (mA S 30) tn) (a b : Nat → Int32) (nr : Nat) (hnr : nr ≤ 9) (th : Nat) (hth : 1 ≤ th) (hth8 : th ≤ 8) (qv : Nat) (hb : b nr = nI qv) : ∀ (n many : Nat) (nd : Int32) (p : Nat) (g c : Nat → Int32), many + n = 3 → g 8 = nI tn → g 10 = nI p → p ≤ tn → g 13 = nI th → c nr = nd → (∀ v g2 c2, fr4 g g2 → plQ (mA S 30) tn th qv n nd p nr g g2 c c2 v → Φ (some (.int v)) (zS S g2 a b c2)) → G κ 0 0 (zS S g a b c) 66 [.ref 25, .int (nI nr), .int 0, .int (nI many)] [] := by
  have h240 := hX.1
  intro n
  induction n with
  | zero =>
    intro many nd p g c hm h8 hp hpt h13 hc K
    have e3 : many = 3 := by omega
    subst e3
    refine g_iload_2 C dX8_takeRule_66 rfl ?_
    refine g_if_ne (tgt := 149) C dX8_takeRule_67 rfl (by decide) (fun h67 => absurd rfl h67) (fun h67 => ?_)
    refine g_aload_0 C dX8_takeRule_70 rfl ?_
    refine g_cV0i C dX8_takeRule_71 rfl ml_X8_90 mz_X8_here (ok_X8_here S hR tn hX g a b c h8 p hp hpt) (by decide) rfl rfl rfl rfl (Nat.le_of_ble_eq_true rfl) (fun hn71 => ?_)
    refine g_bipush (v := 44) C dX8_takeRule_74 rfl (by decide) ?_
    refine g_icmp_ne (tgt := 149) C dX8_takeRule_76 rfl (by decide) (fun h76 => ?_) (fun h76 => ?_)
    · skip
      refine g_iload_2 C dX8_takeRule_149 rfl ?_
      exact g_iret C rfl dX8_takeRule_150 (K _ _ _ (fr4_s (fr4_r g) _ (by simp)) (by unfold plQ; rw [pm_e h76]; exact ⟨rfl, rfl, upd_at _ _ _, (upd_same hc).symm⟩))
    · skip
      refine g_iload_3 C dX8_takeRule_79 rfl ?_
      refine g_iconst (v := 3) C dX8_takeRule_80 rfl (by decide) ?_
      refine g_icmp_ne (tgt := 94) C dX8_takeRule_81 rfl (by decide) (fun h81 => absurd (show nI 3 = 3 from rfl) h81) (fun h81 => ?_)
      refine g_aload_0 C dX8_takeRule_84 rfl ?_
      refine g_iconst (v := 1) C dX8_takeRule_85 rfl (by decide) ?_
      refine g_aload_0 C dX8_takeRule_86 rfl ?_
      refine g_geti C 10 dX8_takeRule_87 rfl rfl rfl fl_X8_87 ?_
      rw [show mI (zS S (upd g 10 (nI (skp (mA S 30) tn p))) a b c) 25 10 = nI (skp (mA S 30) tn p) from upd_at g 10 _]
      refine g_cV2i C dX8_takeRule_90 rfl ml_X8_98 mz_X8_fails (ok_X8_fails _ _ _) (by decide) rfl rfl rfl rfl (Nat.le_of_ble_eq_true rfl) (fun hn90 => ?_)
      rw [zS_sI]
      exact g_iret C rfl dX8_takeRule_93 (K _ _ _ (fr4_s (fr4_s (fr4_r g) _ (by simp)) _ (by simp)) (by unfold plQ; rw [pm_0c h76]; exact ⟨rfl, upd_at _ _ _⟩))
  | succ n ih =>
    intro many nd p g c hm h8 hp hpt h13 hc K
    refine g_iload_2 C dX8_takeRule_66 rfl ?_
    refine g_if_ne (tgt := 149) C dX8_takeRule_67 rfl (by decide) (fun h67 => absurd rfl h67) (fun h67 => ?_)
    refine g_aload_0 C dX8_takeRule_70 rfl ?_
    refine g_cV0i C dX8_takeRule_71 rfl ml_X8_90 mz_X8_here (ok_X8_here S hR tn hX g a b c h8 p hp hpt) (by decide) rfl rfl rfl rfl (Nat.le_of_ble_eq_true rfl) (fun hn71 => ?_)
    refine g_bipush (v := 44) C dX8_takeRule_74 rfl (by decide) ?_
    refine g_icmp_ne (tgt := 149) C dX8_takeRule_76 rfl (by decide) (fun h76 => ?_) (fun h76 => ?_)
    · skip
      refine g_iload_2 C dX8_takeRule_149 rfl ?_
      exact g_iret C rfl dX8_takeRule_150 (K _ _ _ (fr4_s (fr4_r g) _ (by simp)) (by unfold plQ; rw [pm_e h76]; exact ⟨rfl, rfl, upd_at _ _ _, (upd_same hc).symm⟩))
    · skip
      refine g_iload_3 C dX8_takeRule_79 rfl ?_
      refine g_iconst (v := 3) C dX8_takeRule_80 rfl (by decide) ?_
      refine g_icmp_ne (tgt := 94) C dX8_takeRule_81 rfl (by decide) (fun h81 => ?_) (fun h81 => absurd h81 (fun z => absurd (n_eq (b := 3) z (by omega) (by decide)) (by omega)))
      refine g_aload_0 C dX8_takeRule_94 rfl ?_
      refine g_dup C dX8_takeRule_95 rfl rfl ?_
      refine g_geti C 10 dX8_takeRule_96 rfl rfl rfl fl_X8_87 ?_
      rw [show mI (zS S (upd g 10 (nI (skp (mA S 30) tn p))) a b c) 25 10 = nI (skp (mA S 30) tn p) from upd_at g 10 _]
      refine g_iconst (v := 1) C dX8_takeRule_99 rfl (by decide) ?_
      refine g_iadd C dX8_takeRule_100 rfl ?_
      refine g_puti C 10 dX8_takeRule_101 rfl rfl rfl (Or.inl rfl) fl_X8_87 ?_
      rw [zS_sI, nI_1]
      refine g_aload_0 C dX8_takeRule_104 rfl ?_
      refine g_aload_0 C dX8_takeRule_105 rfl ?_
      refine g_getr C 17 dX8_takeRule_106 rfl rfl rfl fl_X8_35 (hR 25 17 33 rfl) ?_
      refine g_iload_1 C dX8_takeRule_109 rfl ?_
      refine g_iald C dX8_takeRule_110 rfl rfl (n_in (show nr < 10 by omega) (by decide)) ?_
      rw [nI_clamp (show nr < 2 ^ 31 by omega)]
      rw [show mA (zS S (upd (upd g 10 (nI (skp (mA S 30) tn p))) 10 (nI (skp (mA S 30) tn p + 1))) a b c) 33 nr = nd from hc]
      refine g_iconst (v := 1) C dX8_takeRule_111 rfl (by decide) ?_
      refine g_aload_0 C dX8_takeRule_112 rfl ?_
      refine g_getr C 16 dX8_takeRule_113 rfl rfl rfl fl_X8_32 (hR 25 16 32 rfl) ?_
      refine g_iload_1 C dX8_takeRule_116 rfl ?_
      refine g_iald C dX8_takeRule_117 rfl rfl (n_in (show nr < 10 by omega) (by decide)) ?_
      rw [nI_clamp (show nr < 2 ^ 31 by omega)]
      rw [show mA (zS S (upd (upd g 10 (nI (skp (mA S 30) tn p))) 10 (nI (skp (mA S 30) tn p + 1))) a b c) 32 nr = nI qv from hb]
      refine g_ishl C dX8_takeRule_118 rfl ?_
      rw [one_df]
      refine g_ior C dX8_takeRule_119 rfl ?_
      refine g_cV1x C dX8_takeRule_120 rfl ml_X8_121 mz_X8_takeSaying (ok_X8_takeSaying _ S hR tn hX (upd (upd g 10 (nI (skp (mA S 30) tn p))) 10 (nI (skp (mA S 30) tn p + 1))) a b c h8 (skp (mA S 30) tn p + 1) (upd_at _ _ _) (by have := chr_lt h76 (by decide); omega) th h13 hth hth8) (by decide) rfl rfl rfl rfl (Nat.le_of_ble_eq_true rfl) (fun v120 S120 hp120 hn120 => ?_)
      obtain ⟨g2, rfl, hf, hq⟩ := hp120
      refine g_istore_2 C rfl dX8_takeRule_123 rfl ?_
      refine g_iload_2 C dX8_takeRule_124 rfl ?_
      refine g_if_ne (tgt := 66) C dX8_takeRule_125 rfl (by decide) (fun h125 => ?_) (fun h125 => ?_)
      · skip
        obtain ⟨k, pl, hn, e1, e2⟩ := sayQ_ne hq h125
        exact lp_X8_takeRule_x C _ _ _ _ h125 (K _ _ _ (fr4_t (fr4_s (fr4_s (fr4_r g) _ (by simp)) _ (by simp)) hf) (by unfold plQ; rw [pm_sf h76 hn]; exact ⟨e1, e2⟩))
      · skip
        refine g_aload_0 C dX8_takeRule_128 rfl ?_
        refine g_getr C 17 dX8_takeRule_129 rfl rfl rfl fl_X8_35 (hR 25 17 33 rfl) ?_
        refine g_iload_1 C dX8_takeRule_132 rfl ?_
        refine g_dup2 C dX8_takeRule_133 rfl rfl rfl ?_
        refine g_iald C dX8_takeRule_134 rfl rfl (n_in (show nr < 10 by omega) (by decide)) ?_
        rw [nI_clamp (show nr < 2 ^ 31 by omega)]
        rw [show mA (zS S g2 a b c) 33 nr = nd from hc]
        refine g_iconst (v := 1) C dX8_takeRule_135 rfl (by decide) ?_
        refine g_aload_0 C dX8_takeRule_136 rfl ?_
        refine g_geti C 11 dX8_takeRule_137 rfl rfl rfl fl_X8_105 ?_
        obtain ⟨at9, e, n9, hn, q9, q10, q11, q12⟩ := sayQ_0 hq h125
        rw [show mI (zS S g2 a b c) 25 11 = nI n9 from q11]
        refine g_ishl C dX8_takeRule_140 rfl ?_
        rw [one_df]
        refine g_ior C dX8_takeRule_141 rfl ?_
        refine g_iast C dX8_takeRule_142 rfl rfl (n_in (show nr < 10 by omega) (by decide)) ?_
        rw [nI_clamp (show nr < 2 ^ 31 by omega)]
        rw [zS_33]
        refine g_iinc_3 (z := 1) C rfl dX8_takeRule_143 rfl (by decide) ?_
        rw [nI_1]
        refine g_goto (tgt := 66) C dX8_takeRule_146 (by decide) ?_
        have hb2 := sayR_inr (by have := chr_lt h76 (by decide); omega) hth hn
        rw [h125]
        refine ih (many + 1) (nd ||| one (nI n9)) e g2 (upd c nr (nd ||| one (nI n9))) (by omega) ((hf 8 (by decide) (by decide) (by decide) (by decide)).trans h8) q10 hb2.2.2.1 ((hf 13 (by decide) (by decide) (by decide) (by decide)).trans h13) (upd_at _ _ _) (fun v g3 c3 hf3 hq3 => ?_)
        refine K v g3 c3 (fr4_t (fr4_t (fr4_s (fr4_s (fr4_r g) _ (by simp)) _ (by simp)) hf) hf3) ?_
        unfold plQ at hq3 ⊢
        rw [pm_ss h76 hn]
        cases hpm : pmR (mA S 30) tn th (nI qv) n (nd ||| one (nI n9)) e with
        | inl f =>
          obtain ⟨k, pl⟩ := f
          rw [hpm] at hq3
          exact hq3
        | inr f =>
          obtain ⟨e3, nd3⟩ := f
          rw [hpm] at hq3
          exact ⟨hq3.1, hq3.2.1.trans q9, hq3.2.2.1, by rw [hq3.2.2.2, upd_upd]⟩

def trP (S : Mem) (tn th nr p : Nat) (g a b c : Nat → Int32) : Int32 → Mem → Prop := fun v S2 => ∃ g2 a2 b2 c2, S2 = zS S g2 a2 b2 c2 ∧ frS g g2 ∧ (match rulR (mA S 30) tn th p with
  | .inl (k, pl) => v = nI k ∧ g2 9 = nI pl
  | .inr (e, x, q, nd) => v = 0 ∧ g2 9 = g 9 ∧ g2 10 = nI e ∧ g2 13 = g 13 ∧ g2 14 = nI (nr + 1) ∧ g2 18 = g 18 ∧ a2 = upd a nr (nI x) ∧ b2 = upd b nr (nI q) ∧ c2 = upd c nr nd)
theorem rul_1 {tx : Nat → Int32} {tn th p k pl : Nat} (h : numR tx tn 0 99 p = .inl (k, pl)) : rulR tx tn th p = .inl (k, pl) := by unfold rulR; rw [h]
theorem rul_2 {tx : Nat → Int32} {tn th p a e x k pl : Nat} (h : numR tx tn 0 99 p = .inr (a, e, x)) (h2 : sayR tx tn th 0 e = .inl (k, pl)) : rulR tx tn th p = .inl (k, pl) := by
  rw [sayR_0] at h2
  unfold rulR
  rw [h]
  show (match numR tx tn 0 (2 * th - 1) e with | .inl f => _ | .inr (_, e2, v) => _) = _
  rw [h2]
theorem rul_3 {tx : Nat → Int32} {tn th p a e x a2 e2 v : Nat} (h : numR tx tn 0 99 p = .inr (a, e, x)) (h2 : sayR tx tn th 0 e = .inr (a2, e2, v)) : rulR tx tn th p = (match pmR tx tn th (nI v) 3 0 e2 with | .inl f => .inl f | .inr (e3, nd) => .inr (e3, x, v, nd)) := by
  rw [sayR_0] at h2
  unfold rulR
  rw [h]
  show (match numR tx tn 0 (2 * th - 1) e with | .inl f => _ | .inr (_, e2, v) => _) = _
  rw [h2]
  rfl
set_option maxHeartbeats 4000000 in
set_option maxRecDepth 20000 in
theorem ok_X8_takeRule (S : Mem) (hR : Rs S) (tn : Nat) (hX : Tx (mA S 30) tn) (g a b c : Nat → Int32) (h8 : g 8 = nI tn) (p : Nat) (hp : g 10 = nI p) (hpt : p ≤ tn) (th : Nat) (h13 : g 13 = nI th) (hth : 1 ≤ th) (hth8 : th ≤ 8) (nr : Nat) (h14 : g 14 = nI nr) (hnr : nr ≤ 9) : Ok yX8_takeRule cX8_takeRule 4 (some .int) 3 0 0 [.ref 25] (zS S g a b c) (RX (trP S tn th nr p g a b c)) := by
  refine Ok.of (by decide) (Nat.le_of_ble_eq_true rfl) rfl (fun κ C hx => ?_)
  have C : Cx RX8 cX8_takeRule 4 (some .int) 3 false _ κ := C
  refine g_aload_0 C dX8_takeRule_0 rfl ?_
  refine g_geti C 14 dX8_takeRule_1 rfl rfl rfl fl_X8_118 ?_
  rw [show mI (zS S g a b c) 25 14 = nI nr from h14]
  refine g_istore_1 C rfl dX8_takeRule_4 rfl ?_
  refine g_aload_0 C dX8_takeRule_5 rfl ?_
  refine g_dup C dX8_takeRule_6 rfl rfl ?_
  refine g_geti C 14 dX8_takeRule_7 rfl rfl rfl fl_X8_118 ?_
  rw [show mI (zS S g a b c) 25 14 = nI nr from h14]
  refine g_iconst (v := 1) C dX8_takeRule_10 rfl (by decide) ?_
  refine g_iadd C dX8_takeRule_11 rfl ?_
  refine g_puti C 14 dX8_takeRule_12 rfl rfl rfl (Or.inl rfl) fl_X8_118 ?_
  rw [zS_sI, nI_1]
  refine g_aload_0 C dX8_takeRule_15 rfl ?_
  refine g_iconst (v := 0) C dX8_takeRule_16 rfl (by decide) ?_
  refine g_bipush (v := 99) C dX8_takeRule_17 rfl (by decide) ?_
  refine g_cV2x C dX8_takeRule_19 rfl ml_X8_108 mz_X8_takeNumber (ok_X8_takeNumber 0 99 (by decide) (by decide) S hR tn hX (upd g 14 (nI (nr + 1))) a b c h8 p hp hpt) (by decide) rfl rfl rfl rfl (Nat.le_of_ble_eq_true rfl) (fun v19 S19 hp19 hn19 => ?_)
  obtain ⟨g2, rfl, hf, hq⟩ := hp19
  refine g_istore_2 C rfl dX8_takeRule_22 rfl ?_
  refine g_aload_0 C dX8_takeRule_23 rfl ?_
  refine g_getr C 15 dX8_takeRule_24 rfl rfl rfl fl_X8_29 (hR 25 15 31 rfl) ?_
  refine g_iload_1 C dX8_takeRule_27 rfl ?_
  refine g_aload_0 C dX8_takeRule_28 rfl ?_
  refine g_geti C 11 dX8_takeRule_29 rfl rfl rfl fl_X8_105 ?_
  rw [show mI (zS S g2 a b c) 25 11 = g2 11 from rfl]
  refine g_iast C dX8_takeRule_32 rfl rfl (n_in (show nr < 10 by omega) (by decide)) ?_
  rw [nI_clamp (show nr < 2 ^ 31 by omega)]
  rw [zS_31]
  refine g_iload_2 C dX8_takeRule_33 rfl ?_
  refine g_if_le (tgt := 41) C dX8_takeRule_34 rfl (by decide) (fun h34 => ?_) (fun h34 => ?_)
  · skip
    refine g_aload_0 C dX8_takeRule_41 rfl ?_
    refine g_iconst (v := 0) C dX8_takeRule_42 rfl (by decide) ?_
    have hv0 := numQ_le hq h34
    obtain ⟨at9, e, x, hn, q9, q10, q11, q12⟩ := numQ_0 hq hv0
    have hb2 := numR_inr hpt hn
    have k8 : g2 8 = nI tn := (hf 8 (by decide) (by decide) (by decide) (by decide)).trans h8
    have k13 : g2 13 = nI th := (hf 13 (by decide) (by decide) (by decide) (by decide)).trans h13
    rw [q11]
    refine g_cV1x C dX8_takeRule_43 rfl ml_X8_121 mz_X8_takeSaying (ok_X8_takeSaying 0 S hR tn hX g2 (upd a nr (nI x)) b c k8 e q10 hb2.2.2.1 th k13 hth hth8) (by decide) rfl rfl rfl rfl (Nat.le_of_ble_eq_true rfl) (fun v43 S43 hp43 hn43 => ?_)
    obtain ⟨g3, rfl, hf3, hq3⟩ := hp43
    refine g_istore_2 C rfl dX8_takeRule_46 rfl ?_
    refine g_aload_0 C dX8_takeRule_47 rfl ?_
    refine g_getr C 16 dX8_takeRule_48 rfl rfl rfl fl_X8_32 (hR 25 16 32 rfl) ?_
    refine g_iload_1 C dX8_takeRule_51 rfl ?_
    refine g_aload_0 C dX8_takeRule_52 rfl ?_
    refine g_geti C 11 dX8_takeRule_53 rfl rfl rfl fl_X8_105 ?_
    refine g_iast C dX8_takeRule_56 rfl rfl (n_in (show nr < 10 by omega) (by decide)) ?_
    rw [nI_clamp (show nr < 2 ^ 31 by omega)]
    rw [zS_32]
    refine g_aload_0 C dX8_takeRule_57 rfl ?_
    refine g_getr C 17 dX8_takeRule_58 rfl rfl rfl fl_X8_35 (hR 25 17 33 rfl) ?_
    refine g_iload_1 C dX8_takeRule_61 rfl ?_
    refine g_iconst (v := 0) C dX8_takeRule_62 rfl (by decide) ?_
    refine g_iast C dX8_takeRule_63 rfl rfl (n_in (show nr < 10 by omega) (by decide)) ?_
    rw [nI_clamp (show nr < 2 ^ 31 by omega)]
    rw [zS_33]
    refine g_iconst (v := 0) C dX8_takeRule_64 rfl (by decide) ?_
    refine g_istore_3 C rfl dX8_takeRule_65 rfl ?_
    by_cases hv : v43 = 0
    · obtain ⟨at3, e3, n3, hn3, r9, r10, r11, r12⟩ := sayQ_0 hq3 hv
      have hb3 := sayR_inr hb2.2.2.1 hth hn3
      rw [hv, show mI (zS S g3 (upd a nr (nI x)) b c) 25 11 = nI n3 from r11]
      refine lp_X8_takeRule C S hR tn hX (upd a nr (nI x)) (upd b nr (nI n3)) nr hnr th hth hth8 n3 (upd_at _ _ _) 3 0 0 e3 g3 (upd c nr 0) rfl ((hf3 8 (by decide) (by decide) (by decide) (by decide)).trans k8) r10 hb3.2.2.1 ((hf3 13 (by decide) (by decide) (by decide) (by decide)).trans k13) (upd_at _ _ _) (fun v g4 c4 hf4 hq4 => ?_)
      refine ⟨v, rfl, g4, _, _, c4, rfl, frS_t (frS_s (frS_r g) _ (by simp)) (frS_t (frS_4 hf) (frS_t (frS_4 hf3) (frS_4 hf4))), ?_⟩
      rw [rul_3 hn hn3]
      unfold plQ at hq4
      cases hpm : pmR (mA S 30) tn th (nI n3) 3 0 e3 with
      | inl f =>
        obtain ⟨k, pl⟩ := f
        rw [hpm] at hq4
        exact hq4
      | inr f =>
        obtain ⟨e5, nd5⟩ := f
        rw [hpm] at hq4
        refine ⟨hq4.1, hq4.2.1.trans (r9.trans q9), hq4.2.2.1, ?_, ?_, ?_, rfl, rfl, by rw [hq4.2.2.2, upd_upd]⟩
        · rw [hf4 13 (by decide) (by decide) (by decide) (by decide), hf3 13 (by decide) (by decide) (by decide) (by decide), hf 13 (by decide) (by decide) (by decide) (by decide)]; rfl
        · rw [hf4 14 (by decide) (by decide) (by decide) (by decide), hf3 14 (by decide) (by decide) (by decide) (by decide), hf 14 (by decide) (by decide) (by decide) (by decide)]; exact upd_at _ _ _
        · rw [hf4 18 (by decide) (by decide) (by decide) (by decide), hf3 18 (by decide) (by decide) (by decide) (by decide), hf 18 (by decide) (by decide) (by decide) (by decide)]; rfl
    · obtain ⟨k, pl, hn3, e1, e2⟩ := sayQ_ne hq3 hv
      exact lp_X8_takeRule_x C _ _ _ _ hv ⟨v43, rfl, _, _, _, _, rfl, frS_t (frS_s (frS_r g) _ (by simp)) (frS_t (frS_4 hf) (frS_4 hf3)), by rw [rul_2 hn hn3]; exact ⟨e1, e2⟩⟩
  · skip
    refine g_iload_2 C dX8_takeRule_37 rfl ?_
    refine g_goto (tgt := 46) C dX8_takeRule_38 (by decide) ?_
    refine g_istore_2 C rfl dX8_takeRule_46 rfl ?_
    refine g_aload_0 C dX8_takeRule_47 rfl ?_
    refine g_getr C 16 dX8_takeRule_48 rfl rfl rfl fl_X8_32 (hR 25 16 32 rfl) ?_
    refine g_iload_1 C dX8_takeRule_51 rfl ?_
    refine g_aload_0 C dX8_takeRule_52 rfl ?_
    refine g_geti C 11 dX8_takeRule_53 rfl rfl rfl fl_X8_105 ?_
    refine g_iast C dX8_takeRule_56 rfl rfl (n_in (show nr < 10 by omega) (by decide)) ?_
    rw [nI_clamp (show nr < 2 ^ 31 by omega)]
    rw [zS_32]
    refine g_aload_0 C dX8_takeRule_57 rfl ?_
    refine g_getr C 17 dX8_takeRule_58 rfl rfl rfl fl_X8_35 (hR 25 17 33 rfl) ?_
    refine g_iload_1 C dX8_takeRule_61 rfl ?_
    refine g_iconst (v := 0) C dX8_takeRule_62 rfl (by decide) ?_
    refine g_iast C dX8_takeRule_63 rfl rfl (n_in (show nr < 10 by omega) (by decide)) ?_
    rw [nI_clamp (show nr < 2 ^ 31 by omega)]
    rw [zS_33]
    refine g_iconst (v := 0) C dX8_takeRule_64 rfl (by decide) ?_
    refine g_istore_3 C rfl dX8_takeRule_65 rfl ?_
    have hv : ¬ v19 = 0 := fun z => h34 (by rw [z]; decide)
    obtain ⟨k, pl, hn, e1, e2⟩ := numQ_ne hq hv
    exact lp_X8_takeRule_x C _ _ _ _ hv ⟨v19, rfl, _, _, _, _, rfl, frS_t (frS_s (frS_r g) _ (by simp)) (frS_4 hf), by rw [rul_1 hn]; exact ⟨e1, e2⟩⟩

