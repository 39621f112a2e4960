theorem claR_skp {tx : Nat → Int32} {tn p th nr : Nat} {co cn nd : Nat → Int32} {se : Int32} : claR tx tn (skp tx tn p, th, nr, co, cn, nd, se) = claR tx tn (p, th, nr, co, cn, nd, se) := by
  unfold claR
  dsimp only
  rw [skp_idem]
/-- what a read clause leaves -/
def TauOk (tn : Nat) (t : Tau) : Prop := t.1 ≤ tn ∧ t.2.1 ≤ 8 ∧ t.2.2.1 ≤ 10 ∧ (∀ r, r < t.2.2.1 → (∃ c, c ≤ 99 ∧ t.2.2.2.1 r = nI c) ∧ (∃ q, q < 2 * t.2.1 ∧ t.2.2.2.2.1 r = nI q) ∧ sub (t.2.2.2.2.2.1 r) (nI (2 ^ (2 * t.2.1) - 1))) ∧ sub t.2.2.2.2.2.2 (nI (2 ^ (2 * t.2.1) - 1)) ∧ (t.2.1 = 0 → t.2.2.1 = 0 ∧ t.2.2.2.2.2.2 = 0)
theorem bt_mask : ∀ n, n ≤ 16 → ∀ i, i < 32 → bt (nI (2 ^ n - 1)) i = decide (i < n) := by decide +kernel
theorem sub_mask {v th : Nat} (h : v < 2 * th) (h8 : th ≤ 8) : sub (one (nI v)) (nI (2 ^ (2 * th) - 1)) := by
  rw [sub_one (by omega), bt_mask _ (by omega) v (by omega)]
  exact decide_eq_true h
theorem sub_0 (x : Int32) : sub 0 x := sub_iff.mpr (fun i _ h => by rw [b_0] at h; cases h)
theorem pmR_sub {tx : Nat → Int32} {tn th : Nat} {q : Int32} (hth : 1 ≤ th) (h8 : th ≤ 8) : ∀ n nd p e m, p ≤ tn → sub nd (nI (2 ^ (2 * th) - 1)) → pmR tx tn th q n nd p = .inr (e, m) → sub m (nI (2 ^ (2 * th) - 1))
  | 0, nd, p, e, m, hp, hs, h => by
    by_cases hc : chr9 tx tn (skp tx tn p) = 44
    · rw [pm_0c hc] at h; cases h
    · rw [pm_e hc 0] at h; cases h; exact hs
  | n + 1, nd, p, e, m, hp, hs, h => by
    have hk := skp_le (tx := tx) hp
    by_cases hc : chr9 tx tn (skp tx tn p) = 44
    · have hl := chr_lt hc (by decide)
      cases hsay : sayR tx tn th (nd ||| one q) (skp tx tn p + 1) with
      | inl f =>
        obtain ⟨k, pl⟩ := f
        rw [pm_sf hc hsay] at h; cases h
      | inr f =>
        obtain ⟨a, e1, v⟩ := f
        rw [pm_ss hc hsay] at h
        have h1 := sayR_inr (by omega) hth hsay
        exact pmR_sub hth h8 n _ e1 e m h1.2.2.1 (or_sub hs (sub_mask h1.2.2.2.1 h8)) h
    · rw [pm_e hc (n + 1)] at h; cases h; exact hs
theorem rulR_sub {tx : Nat → Int32} {tn th p e x q : Nat} {m : Int32} (hp : p ≤ tn) (hth : 1 ≤ th) (h8 : th ≤ 8) (h : rulR tx tn th p = .inr (e, x, q, m)) : sub m (nI (2 ^ (2 * th) - 1)) := by
  cases hn : numR tx tn 0 99 p with
  | inl f =>
    obtain ⟨k2, pl2⟩ := f
    rw [rul_1 hn] at h; cases h
  | inr f =>
    obtain ⟨a, e1, x1⟩ := f
    have b1 := numR_inr hp hn
    cases h2 : sayR tx tn th 0 e1 with
    | inl f =>
      obtain ⟨k2, pl2⟩ := f
      rw [rul_2 hn h2] at h; cases h
    | inr f =>
      obtain ⟨a2, e2, v⟩ := f
      have b2 := sayR_inr b1.2.2.1 hth h2
      rw [rul_3 hn h2] at h
      cases hpm : pmR tx tn th (nI v) 3 0 e2 with
      | inl f =>
        obtain ⟨k2, pl2⟩ := f
        rw [hpm] at h; cases h
      | inr f =>
        obtain ⟨e3, m3⟩ := f
        rw [hpm] at h; cases h
        exact pmR_sub hth h8 _ _ _ _ _ b2.2.2.1 (sub_0 _) hpm
theorem endR_inr {tx : Nat → Int32} {tn p e : Nat} (hp : p ≤ tn) (h : endR tx tn p = .inr e) : p < e ∧ e ≤ tn := by
  have hk := skp_le (tx := tx) hp
  unfold endR at h
  by_cases hc : chr9 tx tn (skp tx tn p) = 59
  · rw [if_pos hc] at h
    cases h
    have := chr_lt hc (by decide)
    omega
  · rw [if_neg hc] at h; cases h
theorem endR_inl {tx : Nat → Int32} {tn p k pl : Nat} (h : endR tx tn p = .inl (k, pl)) : 1 ≤ k ∧ k ≤ 4 := by
  unfold endR at h
  by_cases hc : chr9 tx tn (skp tx tn p) = 59
  · rw [if_pos hc] at h; cases h
  · rw [if_neg hc] at h; cases h; exact ⟨by decide, by decide⟩
theorem claR_ok {tx : Nat → Int32} {tn : Nat} {t : Tau} (ht : TauOk tn t) : match claR tx tn t with
  | .inl (k, _) => 1 ≤ k ∧ k ≤ 4
  | .inr t2 => t.1 < t2.1 ∧ TauOk tn t2 := by
  obtain ⟨p, th, nr, co, cn, nd, se⟩ := t
  obtain ⟨hp, h8, h10, hrs, hse, h00⟩ := ht
  dsimp only at hp h8 h10 hrs hse h00
  have hk := skp_le (tx := tx) hp
  by_cases c1 : chr9 tx tn (skp tx tn p) = 116
  · have hl := chr_lt c1 (by decide)
    by_cases z : th = 0
    · cases hn : numR tx tn 1 8 (skp tx tn p + 1) with
      | inl f =>
        obtain ⟨k, pl⟩ := f
        rw [cla_tf c1 z hn]
        exact ⟨(numR_inl hn).1, (numR_inl hn).2.1⟩
      | inr f =>
        obtain ⟨a, e, v⟩ := f
        have b1 := numR_inr (by omega) hn
        cases he : endR tx tn e with
        | inl f =>
          obtain ⟨k, pl⟩ := f
          rw [cla_te c1 z hn he]
          exact endR_inl he
        | inr e2 =>
          have b2 := endR_inr b1.2.2.1 he
          rw [cla_to c1 z hn he]
          have z2 := h00 z
          refine ⟨by show p < e2; omega, by show e2 ≤ tn; omega, by show v ≤ 8; omega, by show nr ≤ 10; omega, fun r hr => ?_, ?_, fun q => ?_⟩
          · have hr : r < nr := hr
            omega
          · show sub se _
            rw [z2.2]; exact sub_0 _
          · have q : v = 0 := q
            omega
    · rw [cla_t3 c1 z]
      exact ⟨by decide, by decide⟩
  · by_cases z : th = 0
    · rw [cla_10 c1 z]
      exact ⟨by decide, by decide⟩
    · by_cases c2 : chr9 tx tn (skp tx tn p) = 114
      · have hl := chr_lt c2 (by decide)
        by_cases z2 : nr = 10
        · rw [cla_r3 c1 z c2 z2]
          exact ⟨by decide, by decide⟩
        · cases hr : rulR tx tn th (skp tx tn p + 1) with
          | inl f =>
            obtain ⟨k, pl⟩ := f
            rw [cla_rf c1 z c2 z2 hr]
            exact rulR_inl hr
          | inr f =>
            obtain ⟨e, x, q, m⟩ := f
            have b1 := rulR_inr (by omega) (by omega) hr
            have b3 := rulR_sub (by omega) (by omega) h8 hr
            cases he : endR tx tn e with
            | inl f =>
              obtain ⟨k, pl⟩ := f
              rw [cla_re c1 z c2 z2 hr he]
              exact endR_inl he
            | inr e2 =>
              have b2 := endR_inr b1.2.1 he
              rw [cla_ro c1 z c2 z2 hr he]
              refine ⟨by show p < e2; omega, by show e2 ≤ tn; omega, by show th ≤ 8; omega, by show nr + 1 ≤ 10; omega, fun r hr => ?_, hse, fun q => absurd q z⟩
              have hr : r < nr + 1 := hr
              by_cases hrn : r = nr
              · subst hrn
                exact ⟨⟨x, b1.2.2.1, upd_at _ _ _⟩, ⟨q, b1.2.2.2, upd_at _ _ _⟩, by show sub (upd nd r m r) _; rw [upd_at]; exact b3⟩
              · have h1 := hrs r (by omega)
                refine ⟨?_, ?_, ?_⟩
                · obtain ⟨c, h, e⟩ := h1.1
                  exact ⟨c, h, (upd_ne _ _ hrn).trans e⟩
                · obtain ⟨c, h, e⟩ := h1.2.1
                  exact ⟨c, h, (upd_ne _ _ hrn).trans e⟩
                · show sub (upd nd nr m r) _
                  rw [upd_ne _ _ hrn]; exact h1.2.2
      · by_cases c3 : chr9 tx tn (skp tx tn p) = 115
        · have hl := chr_lt c3 (by decide)
          cases hr : sayR tx tn th se (skp tx tn p + 1) with
          | inl f =>
            obtain ⟨k, pl⟩ := f
            rw [cla_sf c1 z c2 c3 hr]
            exact sayR_inl hr
          | inr f =>
            obtain ⟨a, e, v⟩ := f
            have b1 := sayR_inr (by omega) (by omega) hr
            cases he : endR tx tn e with
            | inl f =>
              obtain ⟨k, pl⟩ := f
              rw [cla_se c1 z c2 c3 hr he]
              exact endR_inl he
            | inr e2 =>
              have b2 := endR_inr b1.2.2.1 he
              rw [cla_so c1 z c2 c3 hr he]
              exact ⟨by show p < e2; omega, by show e2 ≤ tn; omega, h8, h10, hrs, or_sub hse (sub_mask b1.2.2.2.1 h8), fun q => absurd q z⟩
        · rw [cla_1 c1 z c2 c3]
          exact ⟨by decide, by decide⟩
/-- what the reading of a whole text left -/
def rdQ (tx : Nat → Int32) (tn n : Nat) (t : Tau) (g g2 a2 b2 c2 : Nat → Int32) (v : Int32) : Prop := match prF tx tn n t with
  | .inl (k, pl) => v = nI k ∧ (1 ≤ k ∧ k ≤ 4) ∧ g2 9 = nI pl
  | .inr t2 => TauOk tn t2 ∧ v = 0 ∧ g2 9 = g 9 ∧ g2 13 = nI t2.2.1 ∧ g2 14 = nI t2.2.2.1 ∧ g2 18 = t2.2.2.2.2.2.2 ∧ a2 = t2.2.2.2.1 ∧ b2 = t2.2.2.2.2.1 ∧ c2 = t2.2.2.2.2.2.1
theorem chr_neg {tx : Nat → Int32} {tn q : Nat} (hX : Tx tx tn) : chr9 tx tn q < 0 ↔ ¬ q < tn := by
  unfold chr9
  by_cases h : q < tn
  · rw [if_pos h]
    obtain ⟨c, hc, e⟩ := hX.2 q h
    rw [e]
    exact ⟨fun z => absurd z (nI_pos (by omega)), fun z => absurd h z⟩
  · rw [if_neg h]
    exact ⟨fun _ => h, fun _ => by decide⟩
set_option maxHeartbeats 4000000 in
set_option maxRecDepth 20000 in
theorem lp_X8_town_x {κ : Kx} {Φ : Option Value → Mem → Prop} (C : Cx RX8 cX8_town 3 (some .int) 5 false Φ κ) (S : Mem) (f : Int32) (v2 : Value) (hf : ¬ f = 0) (K : G κ 0 0 S 46 [.ref 25, .int f, v2] []) : G κ 0 0 S 27 [.ref 25, .int f, v2] [] := by
  skip
  refine g_iload_1 C dX8_town_27 rfl ?_
  refine g_if_ne (tgt := 46) C dX8_town_28 rfl (by decide) (fun h28 => ?_) (fun h28 => absurd h28 hf)
  exact K

theorem prF_s {tx : Nat → Int32} {tn n : Nat} {t t2 : Tau} (h : skp tx tn t.1 < tn) (hc : claR tx tn t = .inr t2) : prF tx tn (n + 1) t = prF tx tn n t2 := by
  conv => lhs; unfold prF
  rw [if_pos h, hc]
theorem prF_f {tx : Nat → Int32} {tn n : Nat} {t : Tau} {f : Nat × Nat} (h : skp tx tn t.1 < tn) (hc : claR tx tn t = .inl f) : prF tx tn (n + 1) t = .inl f := by
  unfold prF
  rw [if_pos h, hc]
theorem prF_e {tx : Nat → Int32} {tn n : Nat} {t : Tau} (h : ¬ skp tx tn t.1 < tn) : prF tx tn (n + 1) t = .inr t := by
  unfold prF
  rw [if_neg h]
set_option maxHeartbeats 4000000 in
set_option maxRecDepth 20000 in
theorem lp_X8_town {κ : Kx} {Φ : Option Value → Mem → Prop} (C : Cx RX8 cX8_town 3 (some .int) 5 false Φ κ) (S : Mem) (hR : Rs S) (tn : Nat) (hX : Tx (mA S 30) tn) : ∀ (n p th nr : Nat) (se : Int32) (g a b c : Nat → Int32), tn + 1 ≤ p + n → g 8 = nI tn → g 10 = nI p → g 13 = nI th → g 14 = nI nr → g 18 = se → TauOk tn (p, th, nr, a, b, c, se) → (∀ v g2 a2 b2 c2, frS g g2 → rdQ (mA S 30) tn n (p, th, nr, a, b, c, se) g g2 a2 b2 c2 v → G κ 0 0 (zS S g2 a2 b2 c2) 46 [.ref 25, .int v, .float 0] []) → G κ 0 0 (zS S g a b c) 27 [.ref 25, .int 0, .float 0] [] := by
  intro n
  induction n with
  | zero =>
    intro p th nr se g a b c h1 h2 h3 h4 h5 h6 h7
    exact absurd h7.1 (by show ¬ p ≤ tn; omega)
  | succ n ih =>
    intro p th nr se g a b c hn hg8 hp h13 h14 h18 hTau K
    have hpt : p ≤ tn := hTau.1
    have hq0 := skp_le (tx := mA S 30) hpt
    refine g_iload_1 C dX8_town_27 rfl ?_
    refine g_if_ne (tgt := 46) C dX8_town_28 rfl (by decide) (fun h28 => absurd rfl h28) (fun h28 => ?_)
    refine g_aload_0 C dX8_town_31 rfl ?_
    refine g_cV0i C dX8_town_32 rfl ml_X8_90 mz_X8_here (ok_X8_here S hR tn hX g a b c hg8 p hp hpt) (by decide) rfl rfl rfl rfl (Nat.le_of_ble_eq_true rfl) (fun hn32 => ?_)
    refine g_if_lt (tgt := 46) C dX8_town_35 rfl (by decide) (fun h35 => ?_) (fun h35 => ?_)
    · skip
      refine K 0 _ a b c (frS_s (frS_r g) _ (by simp)) ?_
      unfold rdQ
      rw [prF_e (by exact (chr_neg hX).mp h35)]
      exact ⟨hTau, rfl, rfl, h13, h14, h18, rfl, rfl, rfl⟩
    · skip
      refine g_aload_0 C dX8_town_38 rfl ?_
      have hlt : (skp (mA S 30) tn p) < tn := Classical.not_not.mp (fun z => h35 ((chr_neg hX).mpr z))
      refine g_cV0x C dX8_town_39 rfl ml_X8_137 mz_X8_takeClause (ok_X8_takeClause S hR tn hX (upd g 10 (nI (skp (mA S 30) tn p))) a b c hg8 (skp (mA S 30) tn p) (upd_at _ _ _) hq0.2 th nr se h13 h14 h18 hTau.2.1 hTau.2.2.1) (by decide) rfl rfl rfl rfl (Nat.le_of_ble_eq_true rfl) (fun v39 S39 hp39 hn39 => ?_)
      refine g_istore_1 C rfl dX8_town_42 rfl ?_
      refine g_goto (tgt := 27) C dX8_town_43 (by decide) ?_
      obtain ⟨g2, a2, b2, c2, rfl, hf, hq⟩ := hp39
      rw [claR_skp] at hq
      have hok := claR_ok (tx := mA S 30) hTau
      cases hcl : claR (mA S 30) tn (p, th, nr, a, b, c, se) with
      | inl f =>
        obtain ⟨k, pl⟩ := f
        rw [hcl] at hq hok
        have hv : ¬ v39 = 0 := by rw [hq.1]; exact nI_k0 hok.1 hok.2
        refine lp_X8_town_x C _ _ _ hv (K v39 g2 a2 b2 c2 (frS_t (frS_s (frS_r g) _ (by simp)) hf) ?_)
        unfold rdQ
        rw [show prF (mA S 30) tn (n + 1) (p, th, nr, a, b, c, se) = .inl (k, pl) from prF_f hlt hcl]
        exact ⟨hq.1, hok, hq.2⟩
      | inr t2 =>
        obtain ⟨p2, th2, nr2, co2, cn2, nd2, se2⟩ := t2
        rw [hcl] at hq hok
        obtain ⟨q0, q9, q10, q13, q14, q18, qa, qb, qc⟩ := hq
        obtain ⟨hpl, hT2⟩ := hok
        have hpl : p < p2 := hpl
        subst qa; subst qb; subst qc
        rw [q0]
        refine ih p2 th2 nr2 se2 g2 a2 b2 c2 (by omega) ((hf 8 (by decide) (by decide) (by decide) (by decide) (by decide) (by decide) (by decide)).trans hg8) q10 q13 q14 q18 hT2 (fun v g3 a3 b3 c3 hf3 hq3 => ?_)
        refine K v g3 a3 b3 c3 (frS_t (frS_t (frS_s (frS_r g) _ (by simp)) hf) hf3) ?_
        unfold rdQ at hq3 ⊢
        rw [show prF (mA S 30) tn (n + 1) (p, th, nr, a, b, c, se) = prF (mA S 30) tn n (p2, th2, nr2, a2, b2, c2, se2) from prF_s hlt hcl]
        cases hpr : prF (mA S 30) tn n (p2, th2, nr2, a2, b2, c2, se2) with
        | inl f =>
          obtain ⟨k, pl⟩ := f
          rw [hpr] at hq3
          exact hq3
        | inr t3 =>
          rw [hpr] at hq3
          exact ⟨hq3.1, hq3.2.1, hq3.2.2.1.trans q9, hq3.2.2.2⟩

