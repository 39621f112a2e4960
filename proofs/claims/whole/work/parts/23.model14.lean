def tcP (S : Mem) (tn p th nr : Nat) (se : Int32) (g a b c : Nat → Int32) : Int32 → Mem → Prop := fun v S2 => ∃ g2 a2 b2 c2, S2 = zS S g2 a2 b2 c2 ∧ frS g g2 ∧ (match claR (mA S 30) tn (p, th, nr, a, b, c, se) with
  | .inl (k, pl) => v = nI k ∧ g2 9 = nI pl
  | .inr (p2, th2, nr2, co2, cn2, nd2, se2) => v = 0 ∧ g2 9 = g 9 ∧ g2 10 = nI p2 ∧ g2 13 = nI th2 ∧ g2 14 = nI nr2 ∧ g2 18 = se2 ∧ a2 = co2 ∧ b2 = cn2 ∧ c2 = nd2)
theorem end_ok {tx : Nat → Int32} {tn p : Nat} (h : chr9 tx tn (skp tx tn p) = 59) : endR tx tn p = .inr (skp tx tn p + 1) := if_pos h
theorem end_no {tx : Nat → Int32} {tn p : Nat} (h : ¬ chr9 tx tn (skp tx tn p) = 59) : endR tx tn p = .inl (1, skp tx tn p) := if_neg h
section CLA
variable {tx : Nat → Int32} {tn p th nr : Nat} {co cn nd : Nat → Int32} {se : Int32}
theorem cla_t3 (h : chr9 tx tn (skp tx tn p) = 116) (ht : ¬ th = 0) : claR tx tn (p, th, nr, co, cn, nd, se) = .inl (3, skp tx tn p) := by
  unfold claR; dsimp only; rw [if_pos h, if_neg ht]
theorem cla_tf {f : Nat × Nat} (h : chr9 tx tn (skp tx tn p) = 116) (ht : th = 0) (hn : numR tx tn 1 8 (skp tx tn p + 1) = .inl f) : claR tx tn (p, th, nr, co, cn, nd, se) = .inl f := by
  unfold claR; dsimp only; rw [if_pos h, if_pos ht, hn]
theorem cla_te {a e v : Nat} {f : Nat × Nat} (h : chr9 tx tn (skp tx tn p) = 116) (ht : th = 0) (hn : numR tx tn 1 8 (skp tx tn p + 1) = .inr (a, e, v)) (he : endR tx tn e = .inl f) : claR tx tn (p, th, nr, co, cn, nd, se) = .inl f := by
  unfold claR; dsimp only; rw [if_pos h, if_pos ht, hn]
  show (match endR tx tn e with | .inl f => _ | .inr e2 => _) = _
  rw [he]
theorem cla_to {a e v e2 : Nat} (h : chr9 tx tn (skp tx tn p) = 116) (ht : th = 0) (hn : numR tx tn 1 8 (skp tx tn p + 1) = .inr (a, e, v)) (he : endR tx tn e = .inr e2) : claR tx tn (p, th, nr, co, cn, nd, se) = .inr (e2, v, nr, co, cn, nd, se) := by
  unfold claR; dsimp only; rw [if_pos h, if_pos ht, hn]
  show (match endR tx tn e with | .inl f => _ | .inr e2 => _) = _
  rw [he]
theorem cla_10 (h : ¬ chr9 tx tn (skp tx tn p) = 116) (ht : th = 0) : claR tx tn (p, th, nr, co, cn, nd, se) = .inl (1, skp tx tn p) := by
  unfold claR; dsimp only; rw [if_neg h, if_pos ht]
theorem cla_r3 (h : ¬ chr9 tx tn (skp tx tn p) = 116) (ht : ¬ th = 0) (h2 : chr9 tx tn (skp tx tn p) = 114) (hn : nr = 10) : claR tx tn (p, th, nr, co, cn, nd, se) = .inl (3, skp tx tn p) := by
  unfold claR; dsimp only; rw [if_neg h, if_neg ht, if_pos h2, if_pos hn]
theorem cla_rf {f : Nat × Nat} (h : ¬ chr9 tx tn (skp tx tn p) = 116) (ht : ¬ th = 0) (h2 : chr9 tx tn (skp tx tn p) = 114) (hn : ¬ nr = 10) (hr : rulR tx tn th (skp tx tn p + 1) = .inl f) : claR tx tn (p, th, nr, co, cn, nd, se) = .inl f := by
  unfold claR; dsimp only; rw [if_neg h, if_neg ht, if_pos h2, if_neg hn, hr]
theorem cla_re {e x q : Nat} {m : Int32} {f : Nat × Nat} (h : ¬ chr9 tx tn (skp tx tn p) = 116) (ht : ¬ th = 0) (h2 : chr9 tx tn (skp tx tn p) = 114) (hn : ¬ nr = 10) (hr : rulR tx tn th (skp tx tn p + 1) = .inr (e, x, q, m)) (he : endR tx tn e = .inl f) : claR tx tn (p, th, nr, co, cn, nd, se) = .inl f := by
  unfold claR; dsimp only; rw [if_neg h, if_neg ht, if_pos h2, if_neg hn, hr]
  show (match endR tx tn e with | .inl f => _ | .inr e2 => _) = _
  rw [he]
theorem cla_ro {e x q e2 : Nat} {m : Int32} (h : ¬ chr9 tx tn (skp tx tn p) = 116) (ht : ¬ th = 0) (h2 : chr9 tx tn (skp tx tn p) = 114) (hn : ¬ nr = 10) (hr : rulR tx tn th (skp tx tn p + 1) = .inr (e, x, q, m)) (he : endR tx tn e = .inr e2) : claR tx tn (p, th, nr, co, cn, nd, se) = .inr (e2, th, nr + 1, upd co nr (nI x), upd cn nr (nI q), upd nd nr m, se) := by
  unfold claR; dsimp only; rw [if_neg h, if_neg ht, if_pos h2, if_neg hn, hr]
  show (match endR tx tn e with | .inl f => _ | .inr e2 => _) = _
  rw [he]
theorem cla_sf {f : Nat × Nat} (h : ¬ chr9 tx tn (skp tx tn p) = 116) (ht : ¬ th = 0) (h2 : ¬ chr9 tx tn (skp tx tn p) = 114) (h3 : chr9 tx tn (skp tx tn p) = 115) (hr : sayR tx tn th se (skp tx tn p + 1) = .inl f) : claR tx tn (p, th, nr, co, cn, nd, se) = .inl f := by
  unfold claR; dsimp only; rw [if_neg h, if_neg ht, if_neg h2, if_pos h3, hr]
theorem cla_se {a e v : Nat} {f : Nat × Nat} (h : ¬ chr9 tx tn (skp tx tn p) = 116) (ht : ¬ th = 0) (h2 : ¬ chr9 tx tn (skp tx tn p) = 114) (h3 : chr9 tx tn (skp tx tn p) = 115) (hr : sayR tx tn th se (skp tx tn p + 1) = .inr (a, e, v)) (he : endR tx tn e = .inl f) : claR tx tn (p, th, nr, co, cn, nd, se) = .inl f := by
  unfold claR; dsimp only; rw [if_neg h, if_neg ht, if_neg h2, if_pos h3, hr]
  show (match endR tx tn e with | .inl f => _ | .inr e2 => _) = _
  rw [he]
theorem cla_so {a e v e2 : Nat} (h : ¬ chr9 tx tn (skp tx tn p) = 116) (ht : ¬ th = 0) (h2 : ¬ chr9 tx tn (skp tx tn p) = 114) (h3 : chr9 tx tn (skp tx tn p) = 115) (hr : sayR tx tn th se (skp tx tn p + 1) = .inr (a, e, v)) (he : endR tx tn e = .inr e2) : claR tx tn (p, th, nr, co, cn, nd, se) = .inr (e2, th, nr, co, cn, nd, se ||| one (nI v)) := by
  unfold claR; dsimp only; rw [if_neg h, if_neg ht, if_neg h2, if_pos h3, hr]
  show (match endR tx tn e with | .inl f => _ | .inr e2 => _) = _
  rw [he]
theorem cla_1 (h : ¬ chr9 tx tn (skp tx tn p) = 116) (ht : ¬ th = 0) (h2 : ¬ chr9 tx tn (skp tx tn p) = 114) (h3 : ¬ chr9 tx tn (skp tx tn p) = 115) : claR tx tn (p, th, nr, co, cn, nd, se) = .inl (1, skp tx tn p) := by
  unfold claR; dsimp only; rw [if_neg h, if_neg ht, if_neg h2, if_neg h3]
end CLA
theorem pmR_inr {tx : Nat → Int32} {tn th : Nat} {q : Int32} (hth : 1 ≤ th) : ∀ n nd p e m, p ≤ tn → pmR tx tn th q n nd p = .inr (e, m) → p ≤ e ∧ e ≤ tn
  | 0, nd, p, e, m, hp, h => by
    have hs := skp_le (tx := tx) hp
    by_cases hc : chr9 tx tn (skp tx tn p) = 44
    · rw [pm_0c hc] at h; cases h
    · rw [pm_e hc 0] at h; cases h; exact hs
  | n + 1, nd, p, e, m, hp, h => by
    have hs := skp_le (tx := tx) hp
    by_cases hc : chr9 tx tn (skp tx tn p) = 44
    · have hl := chr_lt hc (by decide)
      cases hsay : sayR tx tn th (nd ||| one q) (skp tx tn p + 1) with
      | inl f =>
        obtain ⟨k, pl⟩ := f
        rw [pm_sf hc hsay] at h; cases h
      | inr f =>
        obtain ⟨a, e1, v⟩ := f
        rw [pm_ss hc hsay] at h
        have h1 := sayR_inr (by omega) hth hsay
        have h2 := pmR_inr hth n _ e1 e m h1.2.2.1 h
        omega
    · rw [pm_e hc (n + 1)] at h; cases h; exact hs
theorem pmR_inl {tx : Nat → Int32} {tn th : Nat} {q : Int32} : ∀ n nd p k pl, pmR tx tn th q n nd p = .inl (k, pl) → 1 ≤ k ∧ k ≤ 4
  | 0, nd, p, k, pl, h => by
    by_cases hc : chr9 tx tn (skp tx tn p) = 44
    · rw [pm_0c hc] at h; cases h; exact ⟨by decide, by decide⟩
    · rw [pm_e hc 0] at h; cases h
  | n + 1, nd, p, k, pl, h => by
    by_cases hc : chr9 tx tn (skp tx tn p) = 44
    · cases hsay : sayR tx tn th (nd ||| one q) (skp tx tn p + 1) with
      | inl f =>
        obtain ⟨k2, pl2⟩ := f
        rw [pm_sf hc hsay] at h; cases h
        exact sayR_inl hsay
      | inr f =>
        obtain ⟨a, e1, v⟩ := f
        rw [pm_ss hc hsay] at h
        exact pmR_inl n _ e1 k pl h
    · rw [pm_e hc (n + 1)] at h; cases h
theorem rulR_inl {tx : Nat → Int32} {tn th p k pl : Nat} (h : rulR tx tn th p = .inl (k, pl)) : 1 ≤ k ∧ k ≤ 4 := by
  cases hn : numR tx tn 0 99 p with
  | inl f =>
    obtain ⟨k2, pl2⟩ := f
    rw [rul_1 hn] at h; cases h
    exact ⟨(numR_inl hn).1, (numR_inl hn).2.1⟩
  | inr f =>
    obtain ⟨a, e, x⟩ := f
    cases h2 : sayR tx tn th 0 e with
    | inl f =>
      obtain ⟨k2, pl2⟩ := f
      rw [rul_2 hn h2] at h; cases h
      exact sayR_inl h2
    | inr f =>
      obtain ⟨a2, e2, v⟩ := f
      rw [rul_3 hn h2] at h
      cases hp : pmR tx tn th (nI v) 3 0 e2 with
      | inl f =>
        obtain ⟨k2, pl2⟩ := f
        rw [hp] at h; cases h
        exact pmR_inl _ _ _ _ _ hp
      | inr f =>
        obtain ⟨e3, m⟩ := f
        rw [hp] at h; cases h
theorem rulR_inr {tx : Nat → Int32} {tn th p e x q : Nat} {m : Int32} (hp : p ≤ tn) (hth : 1 ≤ th) (h : rulR tx tn th p = .inr (e, x, q, m)) : p < e ∧ e ≤ tn ∧ x ≤ 99 ∧ q < 2 * th := by
  cases hn : numR tx tn 0 99 p with
  | inl f =>
    obtain ⟨k2, pl2⟩ := f
    rw [rul_1 hn] at h; cases h
  | inr f =>
    obtain ⟨a, e1, x1⟩ := f
    have b1 := numR_inr hp hn
    cases h2 : sayR tx tn th 0 e1 with
    | inl f =>
      obtain ⟨k2, pl2⟩ := f
      rw [rul_2 hn h2] at h; cases h
    | inr f =>
      obtain ⟨a2, e2, v⟩ := f
      have b2 := sayR_inr b1.2.2.1 hth h2
      rw [rul_3 hn h2] at h
      cases hpm : pmR tx tn th (nI v) 3 0 e2 with
      | inl f =>
        obtain ⟨k2, pl2⟩ := f
        rw [hpm] at h; cases h
      | inr f =>
        obtain ⟨e3, m3⟩ := f
        rw [hpm] at h; cases h
        have b3 := pmR_inr hth _ _ _ _ _ b2.2.2.1 hpm
        omega
set_option maxHeartbeats 4000000 in
set_option maxRecDepth 20000 in
theorem ok_X8_takeClause (S : Mem) (hR : Rs S) (tn : Nat) (hX : Tx (mA S 30) tn) (g a b c : Nat → Int32) (hg8 : g 8 = nI tn) (p : Nat) (hp : g 10 = nI p) (hpt : p ≤ tn) (th nr : Nat) (se : Int32) (h13 : g 13 = nI th) (h14 : g 14 = nI nr) (h18s : g 18 = se) (hth8 : th ≤ 8) (hnr : nr ≤ 10) : Ok yX8_takeClause cX8_takeClause 4 (some .int) 4 0 0 [.ref 25] (zS S g a b c) (RX (tcP S tn p th nr se g a b c)) := by
  have h240 := hX.1
  have hq0 := skp_le (tx := mA S 30) hpt
  refine Ok.of (by decide) (Nat.le_of_ble_eq_true rfl) rfl (fun κ C hx => ?_)
  have C : Cx RX8 cX8_takeClause 4 (some .int) 4 false _ κ := C
  refine g_aload_0 C dX8_takeClause_0 rfl ?_
  refine g_cV0i C dX8_takeClause_1 rfl ml_X8_90 mz_X8_here (ok_X8_here S hR tn hX g a b c hg8 p hp hpt) (by decide) rfl rfl rfl rfl (Nat.le_of_ble_eq_true rfl) (fun hn1 => ?_)
  refine g_istore_1 C rfl dX8_takeClause_4 rfl ?_
  refine g_iload_1 C dX8_takeClause_5 rfl ?_
  refine g_bipush (v := 116) C dX8_takeClause_6 rfl (by decide) ?_
  refine g_icmp_ne (tgt := 15) C dX8_takeClause_8 rfl (by decide) (fun h8 => ?_) (fun h8 => ?_)
  · skip
    refine g_iload_1 C dX8_takeClause_15 rfl ?_
    refine g_bipush (v := 114) C dX8_takeClause_16 rfl (by decide) ?_
    refine g_icmp_ne (tgt := 25) C dX8_takeClause_18 rfl (by decide) (fun h18 => ?_) (fun h18 => ?_)
    · skip
      refine g_iload_1 C dX8_takeClause_25 rfl ?_
      refine g_bipush (v := 115) C dX8_takeClause_26 rfl (by decide) ?_
      refine g_icmp_ne (tgt := 35) C dX8_takeClause_28 rfl (by decide) (fun h28 => ?_) (fun h28 => ?_)
      · skip
        refine g_iconst (v := -1) C dX8_takeClause_35 rfl (by decide) ?_
        refine g_istore_2 C rfl dX8_takeClause_36 rfl ?_
        refine g_iload_2 C dX8_takeClause_37 rfl ?_
        refine g_if_lt (tgt := 52) C dX8_takeClause_38 rfl (by decide) (fun h38 => ?_) (fun h38 => absurd (by decide) h38)
        refine g_aload_0 C dX8_takeClause_52 rfl ?_
        refine g_iconst (v := 1) C dX8_takeClause_53 rfl (by decide) ?_
        refine g_aload_0 C dX8_takeClause_54 rfl ?_
        refine g_geti C 10 dX8_takeClause_55 rfl rfl rfl fl_X8_87 ?_
        rw [show mI (zS S (upd g 10 (nI (skp (mA S 30) tn p))) a b c) 25 10 = nI (skp (mA S 30) tn p) from upd_at g 10 _]
        refine g_cV2i C dX8_takeClause_58 rfl ml_X8_98 mz_X8_fails (ok_X8_fails _ _ _) (by decide) rfl rfl rfl rfl (Nat.le_of_ble_eq_true rfl) (fun hn58 => ?_)
        rw [zS_sI]
        exact g_iret C rfl dX8_takeClause_61 ⟨1, rfl, _, _, _, _, rfl, frS_s (frS_s (frS_r g) _ (by simp)) _ (by simp), (if ht : th = 0 then (by rw [cla_10 h8 ht]; exact ⟨rfl, upd_at _ _ _⟩) else (by rw [cla_1 h8 ht h18 h28]; exact ⟨rfl, upd_at _ _ _⟩))⟩
      · skip
        refine g_iconst (v := 2) C dX8_takeClause_31 rfl (by decide) ?_
        refine g_goto (tgt := 36) C dX8_takeClause_32 (by decide) ?_
        refine g_istore_2 C rfl dX8_takeClause_36 rfl ?_
        refine g_iload_2 C dX8_takeClause_37 rfl ?_
        refine g_if_lt (tgt := 52) C dX8_takeClause_38 rfl (by decide) (fun h38 => absurd h38 (by decide)) (fun h38 => ?_)
        refine g_iload_2 C dX8_takeClause_41 rfl ?_
        refine g_if_le (tgt := 62) C dX8_takeClause_42 rfl (by decide) (fun h42 => absurd h42 (by decide)) (fun h42 => ?_)
        refine g_aload_0 C dX8_takeClause_45 rfl ?_
        refine g_geti C 13 dX8_takeClause_46 rfl rfl rfl fl_X8_111 ?_
        rw [show mI (zS S (upd g 10 (nI (skp (mA S 30) tn p))) a b c) 25 13 = g 13 from rfl]
        refine g_if_ne (tgt := 62) C dX8_takeClause_49 rfl (by decide) (fun h49 => ?_) (fun h49 => ?_)
        · skip
          refine g_iload_2 C dX8_takeClause_62 rfl ?_
          refine g_if_ne (tgt := 73) C dX8_takeClause_63 rfl (by decide) (fun h63 => ?_) (fun h63 => absurd h63 (by decide))
          refine g_iload_2 C dX8_takeClause_73 rfl ?_
          refine g_iconst (v := 1) C dX8_takeClause_74 rfl (by decide) ?_
          refine g_icmp_ne (tgt := 97) C dX8_takeClause_75 rfl (by decide) (fun h75 => ?_) (fun h75 => absurd h75 (by decide))
          refine g_aload_0 C dX8_takeClause_97 rfl ?_
          refine g_dup C dX8_takeClause_98 rfl rfl ?_
          refine g_geti C 10 dX8_takeClause_99 rfl rfl rfl fl_X8_87 ?_
          rw [show mI (zS S (upd g 10 (nI (skp (mA S 30) tn p))) a b c) 25 10 = nI (skp (mA S 30) tn p) from upd_at g 10 _]
          refine g_iconst (v := 1) C dX8_takeClause_102 rfl (by decide) ?_
          refine g_iadd C dX8_takeClause_103 rfl ?_
          refine g_puti C 10 dX8_takeClause_104 rfl rfl rfl (Or.inl rfl) fl_X8_87 ?_
          rw [zS_sI, nI_1]
          refine g_iload_2 C dX8_takeClause_107 rfl ?_
          refine g_if_ne (tgt := 118) C dX8_takeClause_108 rfl (by decide) (fun h108 => ?_) (fun h108 => absurd h108 (by decide))
          refine g_iload_2 C dX8_takeClause_118 rfl ?_
          refine g_iconst (v := 1) C dX8_takeClause_119 rfl (by decide) ?_
          refine g_icmp_ne (tgt := 130) C dX8_takeClause_120 rfl (by decide) (fun h120 => ?_) (fun h120 => absurd h120 (by decide))
          refine g_aload_0 C dX8_takeClause_130 rfl ?_
          have hlt := chr_lt h28 (by decide)
          have ht0 : ¬ th = 0 := fun z => h49 (by rw [h13, z]; rfl)
          refine g_cV0x C dX8_takeClause_131 rfl ml_X8_134 mz_X8_takeSeen (ok_X8_takeSeen S hR tn hX (upd (upd g 10 (nI (skp (mA S 30) tn p))) 10 (nI ((skp (mA S 30) tn p) + 1))) a b c hg8 ((skp (mA S 30) tn p) + 1) (upd_at _ _ _) (by omega) th h13 (by omega) hth8 se h18s) (by decide) rfl rfl rfl rfl (Nat.le_of_ble_eq_true rfl) (fun v131 S131 hp131 hn131 => ?_)
          obtain ⟨g2, rfl, hf, hq⟩ := hp131
          cases hn : sayR (mA S 30) tn th se ((skp (mA S 30) tn p) + 1) with
          | inl f =>
            obtain ⟨k9, pl9⟩ := f
            rw [hn] at hq
            have hv : ¬ v131 = 0 := by rw [hq.1]; exact nI_k0 (sayR_inl hn).1 (sayR_inl hn).2
            refine g_istore_3 C rfl dX8_takeClause_134 rfl ?_
            refine g_iload_3 C dX8_takeClause_135 rfl ?_
            refine g_if_ne (tgt := 158) C dX8_takeClause_136 rfl (by decide) (fun h136 => ?_) (fun h136 => absurd h136 hv)
            refine g_aload_0 C dX8_takeClause_158 rfl ?_
            refine g_dup C dX8_takeClause_159 rfl rfl ?_
            refine g_geti C 10 dX8_takeClause_160 rfl rfl rfl fl_X8_87 ?_
            refine g_iconst (v := 1) C dX8_takeClause_163 rfl (by decide) ?_
            refine g_iadd C dX8_takeClause_164 rfl ?_
            refine g_puti C 10 dX8_takeClause_165 rfl rfl rfl (Or.inl rfl) fl_X8_87 ?_
            rw [zS_sI]
            refine g_iload_3 C dX8_takeClause_168 rfl ?_
            exact g_iret C rfl dX8_takeClause_169 ⟨v131, rfl, _, _, _, _, rfl, frS_s (frS_t (frS_s (frS_s (frS_r g) _ (by simp)) _ (by simp)) hf) _ (by simp), by rw [cla_sf h8 ht0 h18 h28 hn]; exact ⟨hq.1, hq.2⟩⟩
          | inr f =>
            obtain ⟨at9, e, n9⟩ := f
            rw [hn] at hq
            have hv : v131 = 0 := hq.1
            have hb9 : e ≤ tn := (sayR_inr (by omega) (by omega) hn).2.2.1
            refine g_istore_3 C rfl dX8_takeClause_134 rfl ?_
            refine g_iload_3 C dX8_takeClause_135 rfl ?_
            refine g_if_ne (tgt := 158) C dX8_takeClause_136 rfl (by decide) (fun h136 => absurd hv h136) (fun h136 => ?_)
            refine g_aload_0 C dX8_takeClause_139 rfl ?_
            refine g_cV0i C dX8_takeClause_140 rfl ml_X8_90 mz_X8_here (ok_X8_here S hR tn hX g2 a b c ((hf 8 (by decide) (by decide) (by decide) (by decide) (by decide) (by decide) (by decide)).trans hg8) e hq.2.2.1 hb9) (by decide) rfl rfl rfl rfl (Nat.le_of_ble_eq_true rfl) (fun hn140 => ?_)
            refine g_bipush (v := 59) C dX8_takeClause_143 rfl (by decide) ?_
            refine g_icmp_eq (tgt := 158) C dX8_takeClause_145 rfl (by decide) (fun h145 => ?_) (fun h145 => ?_)
            · skip
              refine g_aload_0 C dX8_takeClause_158 rfl ?_
              refine g_dup C dX8_takeClause_159 rfl rfl ?_
              refine g_geti C 10 dX8_takeClause_160 rfl rfl rfl fl_X8_87 ?_
              rw [show mI (zS S (upd g2 10 (nI (skp (mA S 30) tn e))) a b c) 25 10 = nI (skp (mA S 30) tn e) from upd_at g2 10 _]
              refine g_iconst (v := 1) C dX8_takeClause_163 rfl (by decide) ?_
              refine g_iadd C dX8_takeClause_164 rfl ?_
              refine g_puti C 10 dX8_takeClause_165 rfl rfl rfl (Or.inl rfl) fl_X8_87 ?_
              rw [zS_sI, nI_1]
              refine g_iload_3 C dX8_takeClause_168 rfl ?_
              exact g_iret C rfl dX8_takeClause_169 ⟨v131, rfl, _, _, _, _, rfl, frS_s (frS_s (frS_t (frS_s (frS_s (frS_r g) _ (by simp)) _ (by simp)) hf) _ (by simp)) _ (by simp), by rw [cla_so h8 ht0 h18 h28 hn (end_ok h145), hv]; exact ⟨rfl, hq.2.1, upd_at _ _ _, hq.2.2.2.1.trans h13, hq.2.2.2.2.1.trans h14, hq.2.2.2.2.2, rfl, rfl, rfl⟩⟩
            · skip
              refine g_aload_0 C dX8_takeClause_148 rfl ?_
              refine g_iconst (v := 1) C dX8_takeClause_149 rfl (by decide) ?_
              refine g_aload_0 C dX8_takeClause_150 rfl ?_
              refine g_geti C 10 dX8_takeClause_151 rfl rfl rfl fl_X8_87 ?_
              rw [show mI (zS S (upd g2 10 (nI (skp (mA S 30) tn e))) a b c) 25 10 = nI (skp (mA S 30) tn e) from upd_at g2 10 _]
              refine g_cV2i C dX8_takeClause_154 rfl ml_X8_98 mz_X8_fails (ok_X8_fails _ _ _) (by decide) rfl rfl rfl rfl (Nat.le_of_ble_eq_true rfl) (fun hn154 => ?_)
              rw [zS_sI]
              exact g_iret C rfl dX8_takeClause_157 ⟨1, rfl, _, _, _, _, rfl, frS_s (frS_s (frS_t (frS_s (frS_s (frS_r g) _ (by simp)) _ (by simp)) hf) _ (by simp)) _ (by simp), by rw [cla_se h8 ht0 h18 h28 hn (end_no h145)]; exact ⟨rfl, upd_at _ _ _⟩⟩
        · skip
          refine g_aload_0 C dX8_takeClause_52 rfl ?_
          refine g_iconst (v := 1) C dX8_takeClause_53 rfl (by decide) ?_
          refine g_aload_0 C dX8_takeClause_54 rfl ?_
          refine g_geti C 10 dX8_takeClause_55 rfl rfl rfl fl_X8_87 ?_
          rw [show mI (zS S (upd g 10 (nI (skp (mA S 30) tn p))) a b c) 25 10 = nI (skp (mA S 30) tn p) from upd_at g 10 _]
          refine g_cV2i C dX8_takeClause_58 rfl ml_X8_98 mz_X8_fails (ok_X8_fails _ _ _) (by decide) rfl rfl rfl rfl (Nat.le_of_ble_eq_true rfl) (fun hn58 => ?_)
          rw [zS_sI]
          exact g_iret C rfl dX8_takeClause_61 ⟨1, rfl, _, _, _, _, rfl, frS_s (frS_s (frS_r g) _ (by simp)) _ (by simp), by rw [cla_10 h8 (by rw [h13] at h49; exact n_eq (b := 0) h49 (by omega) (by decide))]; exact ⟨rfl, upd_at _ _ _⟩⟩
    · skip
      refine g_iconst (v := 1) C dX8_takeClause_21 rfl (by decide) ?_
      refine g_goto (tgt := 36) C dX8_takeClause_22 (by decide) ?_
      refine g_istore_2 C rfl dX8_takeClause_36 rfl ?_
      refine g_iload_2 C dX8_takeClause_37 rfl ?_
      refine g_if_lt (tgt := 52) C dX8_takeClause_38 rfl (by decide) (fun h38 => absurd h38 (by decide)) (fun h38 => ?_)
      refine g_iload_2 C dX8_takeClause_41 rfl ?_
      refine g_if_le (tgt := 62) C dX8_takeClause_42 rfl (by decide) (fun h42 => absurd h42 (by decide)) (fun h42 => ?_)
      refine g_aload_0 C dX8_takeClause_45 rfl ?_
      refine g_geti C 13 dX8_takeClause_46 rfl rfl rfl fl_X8_111 ?_
      rw [show mI (zS S (upd g 10 (nI (skp (mA S 30) tn p))) a b c) 25 13 = g 13 from rfl]
      refine g_if_ne (tgt := 62) C dX8_takeClause_49 rfl (by decide) (fun h49 => ?_) (fun h49 => ?_)
      · skip
        refine g_iload_2 C dX8_takeClause_62 rfl ?_
        refine g_if_ne (tgt := 73) C dX8_takeClause_63 rfl (by decide) (fun h63 => ?_) (fun h63 => absurd h63 (by decide))
        refine g_iload_2 C dX8_takeClause_73 rfl ?_
        refine g_iconst (v := 1) C dX8_takeClause_74 rfl (by decide) ?_
        refine g_icmp_ne (tgt := 97) C dX8_takeClause_75 rfl (by decide) (fun h75 => absurd rfl h75) (fun h75 => ?_)
        refine g_aload_0 C dX8_takeClause_78 rfl ?_
        have ht0 : ¬ th = 0 := fun z => h49 (by rw [h13, z]; rfl)
        refine g_geti C 14 dX8_takeClause_79 rfl rfl rfl fl_X8_118 ?_
        rw [show mI (zS S (upd g 10 (nI (skp (mA S 30) tn p))) a b c) 25 14 = g 14 from rfl]
        refine g_bipush (v := 10) C dX8_takeClause_82 rfl (by decide) ?_
        refine g_icmp_ne (tgt := 97) C dX8_takeClause_84 rfl (by decide) (fun h84 => ?_) (fun h84 => ?_)
        · skip
          refine g_aload_0 C dX8_takeClause_97 rfl ?_
          refine g_dup C dX8_takeClause_98 rfl rfl ?_
          refine g_geti C 10 dX8_takeClause_99 rfl rfl rfl fl_X8_87 ?_
          rw [show mI (zS S (upd g 10 (nI (skp (mA S 30) tn p))) a b c) 25 10 = nI (skp (mA S 30) tn p) from upd_at g 10 _]
          refine g_iconst (v := 1) C dX8_takeClause_102 rfl (by decide) ?_
          refine g_iadd C dX8_takeClause_103 rfl ?_
          refine g_puti C 10 dX8_takeClause_104 rfl rfl rfl (Or.inl rfl) fl_X8_87 ?_
          rw [zS_sI, nI_1]
          refine g_iload_2 C dX8_takeClause_107 rfl ?_
          refine g_if_ne (tgt := 118) C dX8_takeClause_108 rfl (by decide) (fun h108 => ?_) (fun h108 => absurd h108 (by decide))
          refine g_iload_2 C dX8_takeClause_118 rfl ?_
          refine g_iconst (v := 1) C dX8_takeClause_119 rfl (by decide) ?_
          refine g_icmp_ne (tgt := 130) C dX8_takeClause_120 rfl (by decide) (fun h120 => absurd rfl h120) (fun h120 => ?_)
          refine g_aload_0 C dX8_takeClause_123 rfl ?_
          have hlt := chr_lt h18 (by decide)
          have hn10 : ¬ nr = 10 := fun z => h84 (by rw [h14, z]; rfl)
          refine g_cV0x C dX8_takeClause_124 rfl ml_X8_131 mz_X8_takeRule (ok_X8_takeRule S hR tn hX (upd (upd g 10 (nI (skp (mA S 30) tn p))) 10 (nI ((skp (mA S 30) tn p) + 1))) a b c hg8 ((skp (mA S 30) tn p) + 1) (upd_at _ _ _) (by omega) th h13 (by omega) hth8 nr h14 (by omega)) (by decide) rfl rfl rfl rfl (Nat.le_of_ble_eq_true rfl) (fun v124 S124 hp124 hn124 => ?_)
          refine g_goto (tgt := 134) C dX8_takeClause_127 (by decide) ?_
          obtain ⟨g2, a2, b2, c2, rfl, hf, hq⟩ := hp124
          cases hn : rulR (mA S 30) tn th ((skp (mA S 30) tn p) + 1) with
          | inl f =>
            obtain ⟨k9, pl9⟩ := f
            rw [hn] at hq
            have hv : ¬ v124 = 0 := by rw [hq.1]; exact nI_k0 (rulR_inl hn).1 (rulR_inl hn).2
            refine g_istore_3 C rfl dX8_takeClause_134 rfl ?_
            refine g_iload_3 C dX8_takeClause_135 rfl ?_
            refine g_if_ne (tgt := 158) C dX8_takeClause_136 rfl (by decide) (fun h136 => ?_) (fun h136 => absurd h136 hv)
            refine g_aload_0 C dX8_takeClause_158 rfl ?_
            refine g_dup C dX8_takeClause_159 rfl rfl ?_
            refine g_geti C 10 dX8_takeClause_160 rfl rfl rfl fl_X8_87 ?_
            refine g_iconst (v := 1) C dX8_takeClause_163 rfl (by decide) ?_
            refine g_iadd C dX8_takeClause_164 rfl ?_
            refine g_puti C 10 dX8_takeClause_165 rfl rfl rfl (Or.inl rfl) fl_X8_87 ?_
            rw [zS_sI]
            refine g_iload_3 C dX8_takeClause_168 rfl ?_
            exact g_iret C rfl dX8_takeClause_169 ⟨v124, rfl, _, _, _, _, rfl, frS_s (frS_t (frS_s (frS_s (frS_r g) _ (by simp)) _ (by simp)) hf) _ (by simp), by rw [cla_rf h8 ht0 h18 hn10 hn]; exact ⟨hq.1, hq.2⟩⟩
          | inr f =>
            obtain ⟨e, x9, q9, m9⟩ := f
            rw [hn] at hq
            have hv : v124 = 0 := hq.1
            have hb9 : e ≤ tn := (rulR_inr (by omega) (by omega) hn).2.1
            refine g_istore_3 C rfl dX8_takeClause_134 rfl ?_
            refine g_iload_3 C dX8_takeClause_135 rfl ?_
            refine g_if_ne (tgt := 158) C dX8_takeClause_136 rfl (by decide) (fun h136 => absurd hv h136) (fun h136 => ?_)
            refine g_aload_0 C dX8_takeClause_139 rfl ?_
            refine g_cV0i C dX8_takeClause_140 rfl ml_X8_90 mz_X8_here (ok_X8_here S hR tn hX g2 a2 b2 c2 ((hf 8 (by decide) (by decide) (by decide) (by decide) (by decide) (by decide) (by decide)).trans hg8) e hq.2.2.1 hb9) (by decide) rfl rfl rfl rfl (Nat.le_of_ble_eq_true rfl) (fun hn140 => ?_)
            refine g_bipush (v := 59) C dX8_takeClause_143 rfl (by decide) ?_
            refine g_icmp_eq (tgt := 158) C dX8_takeClause_145 rfl (by decide) (fun h145 => ?_) (fun h145 => ?_)
            · skip
              refine g_aload_0 C dX8_takeClause_158 rfl ?_
              refine g_dup C dX8_takeClause_159 rfl rfl ?_
              refine g_geti C 10 dX8_takeClause_160 rfl rfl rfl fl_X8_87 ?_
              rw [show mI (zS S (upd g2 10 (nI (skp (mA S 30) tn e))) a2 b2 c2) 25 10 = nI (skp (mA S 30) tn e) from upd_at g2 10 _]
              refine g_iconst (v := 1) C dX8_takeClause_163 rfl (by decide) ?_
              refine g_iadd C dX8_takeClause_164 rfl ?_
              refine g_puti C 10 dX8_takeClause_165 rfl rfl rfl (Or.inl rfl) fl_X8_87 ?_
              rw [zS_sI, nI_1]
              refine g_iload_3 C dX8_takeClause_168 rfl ?_
              exact g_iret C rfl dX8_takeClause_169 ⟨v124, rfl, _, _, _, _, rfl, frS_s (frS_s (frS_t (frS_s (frS_s (frS_r g) _ (by simp)) _ (by simp)) hf) _ (by simp)) _ (by simp), by rw [cla_ro h8 ht0 h18 hn10 hn (end_ok h145), hv]; exact ⟨rfl, hq.2.1, upd_at _ _ _, hq.2.2.2.1.trans h13, hq.2.2.2.2.1, hq.2.2.2.2.2.1.trans h18s, hq.2.2.2.2.2.2.1, hq.2.2.2.2.2.2.2.1, hq.2.2.2.2.2.2.2.2⟩⟩
            · skip
              refine g_aload_0 C dX8_takeClause_148 rfl ?_
              refine g_iconst (v := 1) C dX8_takeClause_149 rfl (by decide) ?_
              refine g_aload_0 C dX8_takeClause_150 rfl ?_
              refine g_geti C 10 dX8_takeClause_151 rfl rfl rfl fl_X8_87 ?_
              rw [show mI (zS S (upd g2 10 (nI (skp (mA S 30) tn e))) a2 b2 c2) 25 10 = nI (skp (mA S 30) tn e) from upd_at g2 10 _]
              refine g_cV2i C dX8_takeClause_154 rfl ml_X8_98 mz_X8_fails (ok_X8_fails _ _ _) (by decide) rfl rfl rfl rfl (Nat.le_of_ble_eq_true rfl) (fun hn154 => ?_)
              rw [zS_sI]
              exact g_iret C rfl dX8_takeClause_157 ⟨1, rfl, _, _, _, _, rfl, frS_s (frS_s (frS_t (frS_s (frS_s (frS_r g) _ (by simp)) _ (by simp)) hf) _ (by simp)) _ (by simp), by rw [cla_re h8 ht0 h18 hn10 hn (end_no h145)]; exact ⟨rfl, upd_at _ _ _⟩⟩
        · skip
          refine g_aload_0 C dX8_takeClause_87 rfl ?_
          refine g_iconst (v := 3) C dX8_takeClause_88 rfl (by decide) ?_
          refine g_aload_0 C dX8_takeClause_89 rfl ?_
          refine g_geti C 10 dX8_takeClause_90 rfl rfl rfl fl_X8_87 ?_
          rw [show mI (zS S (upd g 10 (nI (skp (mA S 30) tn p))) a b c) 25 10 = nI (skp (mA S 30) tn p) from upd_at g 10 _]
          refine g_cV2i C dX8_takeClause_93 rfl ml_X8_98 mz_X8_fails (ok_X8_fails _ _ _) (by decide) rfl rfl rfl rfl (Nat.le_of_ble_eq_true rfl) (fun hn93 => ?_)
          rw [zS_sI]
          exact g_iret C rfl dX8_takeClause_96 ⟨3, rfl, _, _, _, _, rfl, frS_s (frS_s (frS_r g) _ (by simp)) _ (by simp), by rw [cla_r3 h8 ht0 h18 (by rw [h14] at h84; exact n_eq (b := 10) h84 (by omega) (by decide))]; exact ⟨rfl, upd_at _ _ _⟩⟩
      · skip
        refine g_aload_0 C dX8_takeClause_52 rfl ?_
        refine g_iconst (v := 1) C dX8_takeClause_53 rfl (by decide) ?_
        refine g_aload_0 C dX8_takeClause_54 rfl ?_
        refine g_geti C 10 dX8_takeClause_55 rfl rfl rfl fl_X8_87 ?_
        rw [show mI (zS S (upd g 10 (nI (skp (mA S 30) tn p))) a b c) 25 10 = nI (skp (mA S 30) tn p) from upd_at g 10 _]
        refine g_cV2i C dX8_takeClause_58 rfl ml_X8_98 mz_X8_fails (ok_X8_fails _ _ _) (by decide) rfl rfl rfl rfl (Nat.le_of_ble_eq_true rfl) (fun hn58 => ?_)
        rw [zS_sI]
        exact g_iret C rfl dX8_takeClause_61 ⟨1, rfl, _, _, _, _, rfl, frS_s (frS_s (frS_r g) _ (by simp)) _ (by simp), by rw [cla_10 h8 (by rw [h13] at h49; exact n_eq (b := 0) h49 (by omega) (by decide))]; exact ⟨rfl, upd_at _ _ _⟩⟩
  · skip
    refine g_iconst (v := 0) C dX8_takeClause_11 rfl (by decide) ?_
    refine g_goto (tgt := 36) C dX8_takeClause_12 (by decide) ?_
    refine g_istore_2 C rfl dX8_takeClause_36 rfl ?_
    refine g_iload_2 C dX8_takeClause_37 rfl ?_
    refine g_if_lt (tgt := 52) C dX8_takeClause_38 rfl (by decide) (fun h38 => absurd h38 (by decide)) (fun h38 => ?_)
    refine g_iload_2 C dX8_takeClause_41 rfl ?_
    refine g_if_le (tgt := 62) C dX8_takeClause_42 rfl (by decide) (fun h42 => ?_) (fun h42 => absurd (by decide) h42)
    refine g_iload_2 C dX8_takeClause_62 rfl ?_
    refine g_if_ne (tgt := 73) C dX8_takeClause_63 rfl (by decide) (fun h63 => absurd rfl h63) (fun h63 => ?_)
    refine g_aload_0 C dX8_takeClause_66 rfl ?_
    refine g_geti C 13 dX8_takeClause_67 rfl rfl rfl fl_X8_111 ?_
    rw [show mI (zS S (upd g 10 (nI (skp (mA S 30) tn p))) a b c) 25 13 = g 13 from rfl]
    refine g_if_gt (tgt := 87) C dX8_takeClause_70 rfl (by decide) (fun h70 => ?_) (fun h70 => ?_)
    · skip
      refine g_aload_0 C dX8_takeClause_87 rfl ?_
      refine g_iconst (v := 3) C dX8_takeClause_88 rfl (by decide) ?_
      refine g_aload_0 C dX8_takeClause_89 rfl ?_
      refine g_geti C 10 dX8_takeClause_90 rfl rfl rfl fl_X8_87 ?_
      rw [show mI (zS S (upd g 10 (nI (skp (mA S 30) tn p))) a b c) 25 10 = nI (skp (mA S 30) tn p) from upd_at g 10 _]
      refine g_cV2i C dX8_takeClause_93 rfl ml_X8_98 mz_X8_fails (ok_X8_fails _ _ _) (by decide) rfl rfl rfl rfl (Nat.le_of_ble_eq_true rfl) (fun hn93 => ?_)
      rw [zS_sI]
      exact g_iret C rfl dX8_takeClause_96 ⟨3, rfl, _, _, _, _, rfl, frS_s (frS_s (frS_r g) _ (by simp)) _ (by simp), by rw [cla_t3 h8 (fun z => by rw [h13, z] at h70; exact absurd h70 (by decide))]; exact ⟨rfl, upd_at _ _ _⟩⟩
    · skip
      refine g_iload_2 C dX8_takeClause_73 rfl ?_
      refine g_iconst (v := 1) C dX8_takeClause_74 rfl (by decide) ?_
      refine g_icmp_ne (tgt := 97) C dX8_takeClause_75 rfl (by decide) (fun h75 => ?_) (fun h75 => absurd h75 (by decide))
      refine g_aload_0 C dX8_takeClause_97 rfl ?_
      refine g_dup C dX8_takeClause_98 rfl rfl ?_
      refine g_geti C 10 dX8_takeClause_99 rfl rfl rfl fl_X8_87 ?_
      rw [show mI (zS S (upd g 10 (nI (skp (mA S 30) tn p))) a b c) 25 10 = nI (skp (mA S 30) tn p) from upd_at g 10 _]
      refine g_iconst (v := 1) C dX8_takeClause_102 rfl (by decide) ?_
      refine g_iadd C dX8_takeClause_103 rfl ?_
      refine g_puti C 10 dX8_takeClause_104 rfl rfl rfl (Or.inl rfl) fl_X8_87 ?_
      rw [zS_sI, nI_1]
      refine g_iload_2 C dX8_takeClause_107 rfl ?_
      refine g_if_ne (tgt := 118) C dX8_takeClause_108 rfl (by decide) (fun h108 => absurd rfl h108) (fun h108 => ?_)
      refine g_aload_0 C dX8_takeClause_111 rfl ?_
      have hlt := chr_lt h8 (by decide)
      have ht0 : th = 0 := by rw [h13] at h70; have := n_nlt (a := 0) (b := th) h70 (by omega) (by omega); omega
      refine g_cV0x C dX8_takeClause_112 rfl ml_X8_128 mz_X8_takeThings (ok_X8_takeThings S hR tn hX (upd (upd g 10 (nI (skp (mA S 30) tn p))) 10 (nI ((skp (mA S 30) tn p) + 1))) a b c hg8 ((skp (mA S 30) tn p) + 1) (upd_at _ _ _) (by omega)) (by decide) rfl rfl rfl rfl (Nat.le_of_ble_eq_true rfl) (fun v112 S112 hp112 hn112 => ?_)
      refine g_goto (tgt := 134) C dX8_takeClause_115 (by decide) ?_
      obtain ⟨g2, rfl, hf, hq⟩ := hp112
      cases hn : numR (mA S 30) tn 1 8 ((skp (mA S 30) tn p) + 1) with
      | inl f =>
        obtain ⟨k9, pl9⟩ := f
        rw [hn] at hq
        have hv : ¬ v112 = 0 := by rw [hq.1]; exact nI_k0 (numR_inl hn).1 (numR_inl hn).2.1
        refine g_istore_3 C rfl dX8_takeClause_134 rfl ?_
        refine g_iload_3 C dX8_takeClause_135 rfl ?_
        refine g_if_ne (tgt := 158) C dX8_takeClause_136 rfl (by decide) (fun h136 => ?_) (fun h136 => absurd h136 hv)
        refine g_aload_0 C dX8_takeClause_158 rfl ?_
        refine g_dup C dX8_takeClause_159 rfl rfl ?_
        refine g_geti C 10 dX8_takeClause_160 rfl rfl rfl fl_X8_87 ?_
        refine g_iconst (v := 1) C dX8_takeClause_163 rfl (by decide) ?_
        refine g_iadd C dX8_takeClause_164 rfl ?_
        refine g_puti C 10 dX8_takeClause_165 rfl rfl rfl (Or.inl rfl) fl_X8_87 ?_
        rw [zS_sI]
        refine g_iload_3 C dX8_takeClause_168 rfl ?_
        exact g_iret C rfl dX8_takeClause_169 ⟨v112, rfl, _, _, _, _, rfl, frS_s (frS_t (frS_s (frS_s (frS_r g) _ (by simp)) _ (by simp)) hf) _ (by simp), by rw [cla_tf h8 ht0 hn]; exact ⟨hq.1, hq.2⟩⟩
      | inr f =>
        obtain ⟨at9, e, n9⟩ := f
        rw [hn] at hq
        have hv : v112 = 0 := hq.1
        have hb9 : e ≤ tn := (numR_inr (by omega) hn).2.2.1
        refine g_istore_3 C rfl dX8_takeClause_134 rfl ?_
        refine g_iload_3 C dX8_takeClause_135 rfl ?_
        refine g_if_ne (tgt := 158) C dX8_takeClause_136 rfl (by decide) (fun h136 => absurd hv h136) (fun h136 => ?_)
        refine g_aload_0 C dX8_takeClause_139 rfl ?_
        refine g_cV0i C dX8_takeClause_140 rfl ml_X8_90 mz_X8_here (ok_X8_here S hR tn hX g2 a b c ((hf 8 (by decide) (by decide) (by decide) (by decide) (by decide) (by decide) (by decide)).trans hg8) e hq.2.2.1 hb9) (by decide) rfl rfl rfl rfl (Nat.le_of_ble_eq_true rfl) (fun hn140 => ?_)
        refine g_bipush (v := 59) C dX8_takeClause_143 rfl (by decide) ?_
        refine g_icmp_eq (tgt := 158) C dX8_takeClause_145 rfl (by decide) (fun h145 => ?_) (fun h145 => ?_)
        · skip
          refine g_aload_0 C dX8_takeClause_158 rfl ?_
          refine g_dup C dX8_takeClause_159 rfl rfl ?_
          refine g_geti C 10 dX8_takeClause_160 rfl rfl rfl fl_X8_87 ?_
          rw [show mI (zS S (upd g2 10 (nI (skp (mA S 30) tn e))) a b c) 25 10 = nI (skp (mA S 30) tn e) from upd_at g2 10 _]
          refine g_iconst (v := 1) C dX8_takeClause_163 rfl (by decide) ?_
          refine g_iadd C dX8_takeClause_164 rfl ?_
          refine g_puti C 10 dX8_takeClause_165 rfl rfl rfl (Or.inl rfl) fl_X8_87 ?_
          rw [zS_sI, nI_1]
          refine g_iload_3 C dX8_takeClause_168 rfl ?_
          exact g_iret C rfl dX8_takeClause_169 ⟨v112, rfl, _, _, _, _, rfl, frS_s (frS_s (frS_t (frS_s (frS_s (frS_r g) _ (by simp)) _ (by simp)) hf) _ (by simp)) _ (by simp), by rw [cla_to h8 ht0 hn (end_ok h145), hv]; exact ⟨rfl, hq.2.1, upd_at _ _ _, hq.2.2.2.1, hq.2.2.2.2.1.trans h14, hq.2.2.2.2.2.trans h18s, rfl, rfl, rfl⟩⟩
        · skip
          refine g_aload_0 C dX8_takeClause_148 rfl ?_
          refine g_iconst (v := 1) C dX8_takeClause_149 rfl (by decide) ?_
          refine g_aload_0 C dX8_takeClause_150 rfl ?_
          refine g_geti C 10 dX8_takeClause_151 rfl rfl rfl fl_X8_87 ?_
          rw [show mI (zS S (upd g2 10 (nI (skp (mA S 30) tn e))) a b c) 25 10 = nI (skp (mA S 30) tn e) from upd_at g2 10 _]
          refine g_cV2i C dX8_takeClause_154 rfl ml_X8_98 mz_X8_fails (ok_X8_fails _ _ _) (by decide) rfl rfl rfl rfl (Nat.le_of_ble_eq_true rfl) (fun hn154 => ?_)
          rw [zS_sI]
          exact g_iret C rfl dX8_takeClause_157 ⟨1, rfl, _, _, _, _, rfl, frS_s (frS_s (frS_t (frS_s (frS_s (frS_r g) _ (by simp)) _ (by simp)) hf) _ (by simp)) _ (by simp), by rw [cla_te h8 ht0 hn (end_no h145)]; exact ⟨rfl, upd_at _ _ _⟩⟩

