theorem clQ_g {D : Mem} {dr : Nat} {g g1 g2 : Nat → Int32} {R : (Nat × Nat) ⊕ Tau} (h4 : g1 4 = g 4) (h5 : g1 5 = g 5) (h : clQ D dr g1 g2 R) : clQ D dr g g2 R := by
  cases R with
  | inl f => exact h
  | inr t => exact ⟨h.1, h.2.1.trans h4, h.2.2.1.trans h5, h.2.2.2⟩
theorem claR_th {tx : Nat → Int32} {tn : Nat} {t t2 : Tau} (hp : t.1 ≤ tn) (h : claR tx tn t = .inr t2) : 1 ≤ t2.2.1 := by
  obtain ⟨p, th, nr, co, cn, nd, se⟩ := t
  have hk := skp_le (tx := tx) (show p ≤ tn from hp)
  by_cases c1 : chr9 tx tn (skp tx tn p) = 116
  · have hl := chr_lt c1 (by decide)
    by_cases ht : th = 0
    · cases hn : numR tx tn 1 8 (skp tx tn p + 1) with
      | inl f => rw [cla_tf c1 ht hn] at h; cases h
      | inr f =>
        obtain ⟨a, e, v⟩ := f
        have hb := numR_inr (by omega) hn
        cases he : endR tx tn e with
        | inl f => rw [cla_te c1 ht hn he] at h; cases h
        | inr e2 => rw [cla_to c1 ht hn he] at h; cases h; exact hb.2.2.2.1
    · rw [cla_t3 c1 ht] at h; cases h
  · by_cases ht : th = 0
    · rw [cla_10 c1 ht] at h; cases h
    · by_cases c2 : chr9 tx tn (skp tx tn p) = 114
      · by_cases hn : nr = 10
        · rw [cla_r3 c1 ht c2 hn] at h; cases h
        · cases hr : rulR tx tn th (skp tx tn p + 1) with
          | inl f => rw [cla_rf c1 ht c2 hn hr] at h; cases h
          | inr f =>
            obtain ⟨e, x, q, m⟩ := f
            cases he : endR tx tn e with
            | inl f => rw [cla_re c1 ht c2 hn hr he] at h; cases h
            | inr e2 => rw [cla_ro c1 ht c2 hn hr he] at h; cases h; show 1 ≤ th; omega
      · by_cases c3 : chr9 tx tn (skp tx tn p) = 115
        · cases hr : sayR tx tn th se (skp tx tn p + 1) with
          | inl f => rw [cla_sf c1 ht c2 c3 hr] at h; cases h
          | inr f =>
            obtain ⟨a, e, v⟩ := f
            cases he : endR tx tn e with
            | inl f => rw [cla_se c1 ht c2 c3 hr he] at h; cases h
            | inr e2 => rw [cla_so c1 ht c2 c3 hr he] at h; cases h; show 1 ≤ th; omega
        · rw [cla_1 c1 ht c2 c3] at h; cases h
theorem full10 {nr : Nat} (h10 : nr ≤ 10) (h : ¬ bI (!decide (nI nr < (10 : Int32))) = 0) : nr = 10 := by
  have h1 := bi_t h
  have h2 : ¬ nI nr < (10 : Int32) := fun z => by rw [decide_eq_true z] at h1; cases h1
  have := n_nlt (a := nr) (b := 10) h2 (by omega) (by decide)
  omega
theorem full9 {nr : Nat} (h10 : nr ≤ 10) (h : bI (!decide (nI nr < (10 : Int32))) = 0) : ¬ nr = 10 := fun z => by
  have h1 := (bI_0 _).mp h
  rw [z] at h1
  exact absurd h1 (by decide)
set_option maxHeartbeats 4000000 in
set_option maxRecDepth 20000 in
theorem ok_X5_readClause (S : Mem) (hR : Rs S) (tn : Nat) (hX : Tx (mA S 2) tn) (g : Nat → Int32) (h1 : g 1 = nI tn) (p : Nat) (hp : g 2 = nI p) (hpt : p ≤ tn) (dr : Nat) (hdr : 16 ≤ dr) (hK : TwK S dr) (th nr : Nat) (hth : 1 ≤ th) (hth8 : th ≤ 8) (h3 : mI S dr 3 = nI th) (h4 : mI S dr 4 = nI nr) (h10 : nr ≤ 10) : Ok yX5_readClause cX5_readClause 3 none 4 0 0 [.ref 1, .ref dr] (uS S g) (RW (clP S dr g (claR (mA S 2) tn (p, th, nr, mA S (dr + 1), mA S (dr + 2), mA S (dr + 3), mI S dr 5)))) := by
  have h240 := hX.1
  have hk := skp_le (tx := mA S 2) hpt
  refine Ok.of (by decide) (Nat.le_of_ble_eq_true rfl) rfl (fun κ C hx => ?_)
  have C : Cx RX5 cX5_readClause 3 none 4 false _ κ := C
  refine g_aload_0 C dX5_readClause_0 rfl ?_
  refine g_cV0i C dX5_readClause_1 rfl ml_X5_36 mz_X5_peek (ok_X5_peek S hR tn hX g h1 p hp hpt) (by decide) rfl rfl rfl rfl (Nat.le_of_ble_eq_true rfl) (fun hn1 => ?_)
  refine g_istore_2 C rfl dX5_readClause_4 rfl ?_
  refine g_iload_2 C dX5_readClause_5 rfl ?_
  refine g_bipush (v := 116) C dX5_readClause_6 rfl (by decide) ?_
  refine g_icmp_eq (tgt := 24) C dX5_readClause_8 rfl (by decide) (fun h8 => ?_) (fun h8 => ?_)
  · skip
    refine g_aload_0 C dX5_readClause_24 rfl ?_
    refine g_iconst (v := 3) C dX5_readClause_25 rfl (by decide) ?_
    refine g_aload_0 C dX5_readClause_26 rfl ?_
    refine g_geti C 2 dX5_readClause_27 rfl rfl rfl fl_X5_19 ?_
    rw [show mI (uS S (upd g 2 (nI (skp (mA S 2) tn p)))) 1 2 = nI (skp (mA S 2) tn p) from upd_at g 2 _]
    refine g_cV2v C dX5_readClause_30 rfl ml_X5_62 mz_X5_stop (ok_X5_stop _ _ S (upd g 2 (nI (skp (mA S 2) tn p)))) (by decide) rfl rfl rfl rfl (Nat.le_of_ble_eq_true rfl) (fun hn30 => ?_)
    refine g_goto (tgt := 93) C dX5_readClause_33 (by decide) ?_
    exact g_vret C rfl dX5_readClause_93 ⟨rfl, S, _, rfl, Fdr.refl _ _, rfl, by rw [cla_t3 h8 (by omega)]; exact ⟨rfl, upd_at _ _ _⟩⟩
  · skip
    refine g_iload_2 C dX5_readClause_11 rfl ?_
    refine g_bipush (v := 114) C dX5_readClause_12 rfl (by decide) ?_
    refine g_icmp_ne (tgt := 36) C dX5_readClause_14 rfl (by decide) (fun h14 => ?_) (fun h14 => ?_)
    · skip
      refine g_iload_2 C dX5_readClause_36 rfl ?_
      refine g_bipush (v := 114) C dX5_readClause_37 rfl (by decide) ?_
      refine g_icmp_ne (tgt := 60) C dX5_readClause_39 rfl (by decide) (fun h39 => ?_) (fun h39 => absurd h39 h14)
      refine g_iload_2 C dX5_readClause_60 rfl ?_
      refine g_bipush (v := 115) C dX5_readClause_61 rfl (by decide) ?_
      refine g_icmp_ne (tgt := 84) C dX5_readClause_63 rfl (by decide) (fun h63 => ?_) (fun h63 => ?_)
      · skip
        refine g_aload_0 C dX5_readClause_84 rfl ?_
        refine g_iconst (v := 1) C dX5_readClause_85 rfl (by decide) ?_
        refine g_aload_0 C dX5_readClause_86 rfl ?_
        refine g_geti C 2 dX5_readClause_87 rfl rfl rfl fl_X5_19 ?_
        rw [show mI (uS S (upd g 2 (nI (skp (mA S 2) tn p)))) 1 2 = nI (skp (mA S 2) tn p) from upd_at g 2 _]
        refine g_cV2v C dX5_readClause_90 rfl ml_X5_62 mz_X5_stop (ok_X5_stop _ _ S (upd g 2 (nI (skp (mA S 2) tn p)))) (by decide) rfl rfl rfl rfl (Nat.le_of_ble_eq_true rfl) (fun hn90 => ?_)
        exact g_vret C rfl dX5_readClause_93 ⟨rfl, S, _, rfl, Fdr.refl _ _, rfl, by rw [cla_1 h8 (by omega) h14 h63]; exact ⟨rfl, upd_at _ _ _⟩⟩
      · skip
        refine g_aload_0 C dX5_readClause_66 rfl ?_
        refine g_dup C dX5_readClause_67 rfl rfl ?_
        refine g_geti C 2 dX5_readClause_68 rfl rfl rfl fl_X5_19 ?_
        rw [show mI (uS S (upd g 2 (nI (skp (mA S 2) tn p)))) 1 2 = nI (skp (mA S 2) tn p) from upd_at g 2 _]
        refine g_iconst (v := 1) C dX5_readClause_71 rfl (by decide) ?_
        refine g_iadd C dX5_readClause_72 rfl ?_
        refine g_puti C 2 dX5_readClause_73 rfl rfl rfl (Or.inl rfl) fl_X5_19 ?_
        rw [uS_sI, nI_1]
        refine g_aload_0 C dX5_readClause_76 rfl ?_
        refine g_aload_1 C dX5_readClause_77 rfl ?_
        refine g_cV1w C dX5_readClause_78 rfl ml_X5_69 mz_X5_readSeen (ok_X5_readSeen S hR tn hX (upd (upd g 2 (nI (skp (mA S 2) tn p))) 2 (nI ((skp (mA S 2) tn p) + 1))) h1 ((skp (mA S 2) tn p) + 1) (upd_at _ _ _) (by have := chr_lt h63 (by decide); omega) dr hdr hK th nr hth hth8 h3 h4) (by decide) rfl rfl rfl rfl (Nat.le_of_ble_eq_true rfl) (fun S78 hp78 hn78 => ?_)
        obtain ⟨D, g2, rfl, hf, f1, hq⟩ := hp78
        refine g_goto (tgt := 93) C dX5_readClause_81 (by decide) ?_
        exact g_vret C rfl dX5_readClause_93 ⟨rfl, D, g2, rfl, hf, f1, by rw [ser_cla h63 (by omega)]; exact clQ_g (g1 := (upd (upd g 2 (nI (skp (mA S 2) tn p))) 2 (nI ((skp (mA S 2) tn p) + 1)))) rfl rfl hq⟩
    · skip
      refine g_aload_1 C dX5_readClause_17 rfl ?_
      refine g_cD0i C dX5_readClause_18 rfl ml_X5_58 mz_X4_isFull (ok_X4_isFull dr _ hK) (by decide) rfl rfl hK.1 (by decide) rfl (Nat.le_of_ble_eq_true rfl) (fun hn18 => ?_)
      rw [uS_ne S _ (dr_1 hdr), h4]
      refine g_if_eq (tgt := 36) C dX5_readClause_21 rfl (by decide) (fun h21 => ?_) (fun h21 => ?_)
      · skip
        refine g_iload_2 C dX5_readClause_36 rfl ?_
        refine g_bipush (v := 114) C dX5_readClause_37 rfl (by decide) ?_
        refine g_icmp_ne (tgt := 60) C dX5_readClause_39 rfl (by decide) (fun h39 => absurd h14 h39) (fun h39 => ?_)
        refine g_aload_0 C dX5_readClause_42 rfl ?_
        refine g_dup C dX5_readClause_43 rfl rfl ?_
        refine g_geti C 2 dX5_readClause_44 rfl rfl rfl fl_X5_19 ?_
        rw [show mI (uS S (upd g 2 (nI (skp (mA S 2) tn p)))) 1 2 = nI (skp (mA S 2) tn p) from upd_at g 2 _]
        refine g_iconst (v := 1) C dX5_readClause_47 rfl (by decide) ?_
        refine g_iadd C dX5_readClause_48 rfl ?_
        refine g_puti C 2 dX5_readClause_49 rfl rfl rfl (Or.inl rfl) fl_X5_19 ?_
        rw [uS_sI, nI_1]
        have hn10 := full9 h10 h21
        refine g_aload_0 C dX5_readClause_52 rfl ?_
        refine g_aload_1 C dX5_readClause_53 rfl ?_
        refine g_cV1w C dX5_readClause_54 rfl ml_X5_66 mz_X5_readRule (ok_X5_readRule S hR tn hX (upd (upd g 2 (nI (skp (mA S 2) tn p))) 2 (nI ((skp (mA S 2) tn p) + 1))) h1 ((skp (mA S 2) tn p) + 1) (upd_at _ _ _) (by have := chr_lt h14 (by decide); omega) dr hdr hK th nr hth hth8 h3 h4 (by omega)) (by decide) rfl rfl rfl rfl (Nat.le_of_ble_eq_true rfl) (fun S54 hp54 hn54 => ?_)
        obtain ⟨D, g2, rfl, hf, f1, hq⟩ := hp54
        refine g_goto (tgt := 93) C dX5_readClause_57 (by decide) ?_
        exact g_vret C rfl dX5_readClause_93 ⟨rfl, D, g2, rfl, hf, f1, by rw [rur_cla h14 (by omega) hn10]; exact clQ_g (g1 := (upd (upd g 2 (nI (skp (mA S 2) tn p))) 2 (nI ((skp (mA S 2) tn p) + 1)))) rfl rfl hq⟩
      · skip
        refine g_aload_0 C dX5_readClause_24 rfl ?_
        refine g_iconst (v := 3) C dX5_readClause_25 rfl (by decide) ?_
        refine g_aload_0 C dX5_readClause_26 rfl ?_
        refine g_geti C 2 dX5_readClause_27 rfl rfl rfl fl_X5_19 ?_
        rw [show mI (uS S (upd g 2 (nI (skp (mA S 2) tn p)))) 1 2 = nI (skp (mA S 2) tn p) from upd_at g 2 _]
        refine g_cV2v C dX5_readClause_30 rfl ml_X5_62 mz_X5_stop (ok_X5_stop _ _ S (upd g 2 (nI (skp (mA S 2) tn p)))) (by decide) rfl rfl rfl rfl (Nat.le_of_ble_eq_true rfl) (fun hn30 => ?_)
        refine g_goto (tgt := 93) C dX5_readClause_33 (by decide) ?_
        exact g_vret C rfl dX5_readClause_93 ⟨rfl, S, _, rfl, Fdr.refl _ _, rfl, by rw [cla_r3 h8 (by omega) h14 (full10 h10 h21)]; exact ⟨rfl, upd_at _ _ _⟩⟩

def riQ (D : Mem) (dr : Nat) (g2 : Nat → Int32) (tn : Nat) (R : (Nat × Nat) ⊕ Tau) : Prop := match R with
  | .inl (k, pl) => (1 ≤ k ∧ k ≤ 4) ∧ g2 4 = nI k ∧ g2 5 = nI pl
  | .inr t => TauOk tn t ∧ g2 4 = 0 ∧ g2 5 = -1 ∧ Dr D dr t
theorem Fdr.A2 {dr : Nat} {S D : Mem} (h : Fdr dr S D) (hdr : 16 ≤ dr) : mA D 2 = mA S 2 := h.2.2 2 (by omega) (by omega) (by omega)
theorem chr_m1 {tx : Nat → Int32} {tn q : Nat} (hX : Tx tx tn) (h : chr9 tx tn q = -1) : ¬ q < tn := (chr_neg hX).mp (by rw [h]; decide)
theorem chr_nm1 {tx : Nat → Int32} {tn q : Nat} (h : ¬ chr9 tx tn q = -1) : q < tn := Classical.byContradiction (fun z => h (if_neg z))
theorem tau0 (tn : Nat) (a b c : Nat → Int32) : TauOk tn (0, 0, 0, a, b, c, 0) := ⟨Nat.zero_le _, Nat.zero_le _, Nat.zero_le _, fun r h => absurd h (Nat.not_lt_zero r), sub_0 _, fun _ => ⟨rfl, rfl⟩⟩
set_option maxHeartbeats 4000000 in
set_option maxRecDepth 20000 in
theorem lp_X5_readInto {κ : Kx} {Φ : Option Value → Mem → Prop} (C : Cx RX5 cX5_readInto 3 none 5 false Φ κ) (S : Mem) (hR : Rs S) (tn : Nat) (hX : Tx (mA S 2) tn) (dr : Nat) (hdr : 16 ≤ dr) (hK : TwK S dr) (R : (Nat × Nat) ⊕ Tau) (hΦ : ∀ (D : Mem) (g2 : Nat → Int32), Fdr dr S D → g2 1 = nI tn → riQ D dr g2 tn R → Φ none (uS D g2)) : ∀ (n : Nat) (t : Tau) (D : Mem) (g : Nat → Int32) (c : Nat), prF (mA S 2) tn n t = R → tn + 1 ≤ t.1 + n → TauOk tn t → 1 ≤ t.2.1 → c + 1 ≤ t.1 → Fdr dr S D → Dr D dr t → g 1 = nI tn → g 2 = nI t.1 → g 4 = 0 → g 5 = -1 → G κ 0 0 (uS D g) 35 [.ref 1, .ref dr, .int (nI c)] [] := by
  have h240 := hX.1
  intro n
  induction n with
  | zero => intro t D g c hpr h1 h2; exact absurd h2.1 (by omega)
  | succ n ih =>
    intro t D g c hpr hfu ht hth hc hF hD h1 h2 h4 h5
    have htn := ht.1
    refine g_iload_2 C dX5_readInto_35 rfl ?_
    refine g_sipush (v := 240) C dX5_readInto_36 rfl (by decide) ?_
    refine g_icmp_ge (tgt := 68) C dX5_readInto_39 rfl (by decide) (fun h39 => absurd (n_ge (b := 240) h39 (by omega) (by decide)) (by omega)) (fun h39 => ?_)
    refine g_aload_0 C dX5_readInto_42 rfl ?_
    refine g_geti C 4 dX5_readInto_43 rfl rfl rfl fl_X5_25 ?_
    rw [show mI (uS D g) 1 4 = 0 from h4]
    refine g_if_ne (tgt := 68) C dX5_readInto_46 rfl (by decide) (fun h46 => absurd rfl h46) (fun h46 => ?_)
    refine g_aload_0 C dX5_readInto_49 rfl ?_
    refine g_cV0i C dX5_readInto_50 rfl ml_X5_36 mz_X5_peek (ok_X5_peek D (hF.R hR) tn (by rw [hF.A2 hdr]; exact hX) g h1 t.1 h2 ht.1) (by decide) rfl rfl rfl rfl (Nat.le_of_ble_eq_true rfl) (fun hn50 => ?_)
    refine g_iconst (v := -1) C dX5_readInto_53 rfl (by decide) ?_
    refine g_icmp_eq (tgt := 68) C dX5_readInto_54 rfl (by decide) (fun h54 => ?_) (fun h54 => ?_)
    · skip
      exact g_vret C rfl dX5_readInto_68 (hΦ D _ hF h1 (by rw [← hpr, prF_e (by have := chr_m1 (by rw [hF.A2 hdr]; exact hX) h54; rw [hF.A2 hdr] at this; exact this)]; exact ⟨ht, h4, h5, hD⟩))
    · skip
      refine g_aload_0 C dX5_readInto_57 rfl ?_
      refine g_aload_1 C dX5_readInto_58 rfl ?_
      refine g_cV1w C dX5_readInto_59 rfl ml_X5_44 mz_X5_readClause (ok_X5_readClause D (hF.R hR) tn (by rw [hF.A2 hdr]; exact hX) (upd g 2 (nI (skp (mA D 2) tn t.1))) h1 (skp (mA D 2) tn t.1) (upd_at _ _ _) (skp_le ht.1).2 dr hdr (hF.K hK) t.2.1 t.2.2.1 hth ht.2.1 hD.1 hD.2.1 ht.2.2.1) (by decide) rfl rfl rfl rfl (Nat.le_of_ble_eq_true rfl) (fun S59 hp59 hn59 => ?_)
      obtain ⟨D2, g3, rfl, f, f1, hq⟩ := hp59
      rw [claR_skp, hF.A2 hdr, hD.2.2.1, hD.2.2.2.1, hD.2.2.2.2.1, hD.2.2.2.2.2] at hq
      have hlt : skp (mA S 2) tn t.1 < tn := by rw [← hF.A2 hdr]; exact chr_nm1 h54
      have hok := claR_ok (tx := mA S 2) ht
      have hsk := (skp_le (tx := mA S 2) ht.1).1
      cases hcl : claR (mA S 2) tn t with
      | inl f9 =>
        obtain ⟨k, pl⟩ := f9
        rw [show claR (mA S 2) tn (t.1, t.2.1, t.2.2.1, t.2.2.2.1, t.2.2.2.2.1, t.2.2.2.2.2.1, t.2.2.2.2.2.2) = .inl (k, pl) from hcl] at hq
        rw [hcl] at hok
        rw [prF_f hlt hcl] at hpr
        refine g_iinc_2 (z := 1) C rfl dX5_readInto_62 rfl (by decide) ?_
        rw [nI_1]
        refine g_goto (tgt := 35) C dX5_readInto_65 (by decide) ?_
        refine g_iload_2 C dX5_readInto_35 rfl ?_
        refine g_sipush (v := 240) C dX5_readInto_36 rfl (by decide) ?_
        refine g_icmp_ge (tgt := 68) C dX5_readInto_39 rfl (by decide) (fun h39 => absurd (n_ge (b := 240) h39 (by omega) (by decide)) (by omega)) (fun h39 => ?_)
        refine g_aload_0 C dX5_readInto_42 rfl ?_
        refine g_geti C 4 dX5_readInto_43 rfl rfl rfl fl_X5_25 ?_
        rw [show mI (uS D2 g3) 1 4 = nI k from hq.1]
        refine g_if_ne (tgt := 68) C dX5_readInto_46 rfl (by decide) (fun h46 => ?_) (fun h46 => absurd h46 (nI_k0 hok.1 hok.2))
        exact g_vret C rfl dX5_readInto_68 (hΦ D2 g3 (hF.trans f) (f1.trans h1) (by rw [← hpr]; exact ⟨hok, hq.1, hq.2⟩))
      | inr t2 =>
        rw [show claR (mA S 2) tn (t.1, t.2.1, t.2.2.1, t.2.2.2.1, t.2.2.2.2.1, t.2.2.2.2.2.1, t.2.2.2.2.2.2) = .inr t2 from hcl] at hq
        rw [hcl] at hok
        rw [prF_s hlt hcl] at hpr
        refine g_iinc_2 (z := 1) C rfl dX5_readInto_62 rfl (by decide) ?_
        rw [nI_1]
        refine g_goto (tgt := 35) C dX5_readInto_65 (by decide) ?_
        exact ih t2 D2 g3 (c + 1) hpr (by have := hok.1; omega) hok.2 (claR_th ht.1 hcl) (by have := hok.1; omega) (hF.trans f) hq.2.2.2 (f1.trans h1) hq.1 (hq.2.1.trans h4) (hq.2.2.1.trans h5)

set_option maxHeartbeats 4000000 in
set_option maxRecDepth 20000 in
theorem ok_X5_readInto (S : Mem) (hR : Rs S) (tn : Nat) (hX : Tx (mA S 2) tn) (g : Nat → Int32) (h1 : g 1 = nI tn) (dr : Nat) (hdr : 16 ≤ dr) (hK : TwK S dr) : Ok yX5_readInto cX5_readInto 3 none 5 0 0 [.ref 1, .ref dr] (uS S g) (RW (fun S2 => ∃ D g2, S2 = uS D g2 ∧ Fdr dr S D ∧ g2 1 = nI tn ∧ riQ D dr g2 tn (prF (mA S 2) tn (tn + 1) (0, 0, 0, mA S (dr + 1), mA S (dr + 2), mA S (dr + 3), 0)))) := by
  have h240 := hX.1
  refine Ok.of (by decide) (Nat.le_of_ble_eq_true rfl) rfl (fun κ C hx => ?_)
  have C : Cx RX5 cX5_readInto 3 none 5 false _ κ := C
  refine g_aload_0 C dX5_readInto_0 rfl ?_
  refine g_iconst (v := 0) C dX5_readInto_1 rfl (by decide) ?_
  refine g_puti C 2 dX5_readInto_2 rfl rfl rfl (Or.inl rfl) fl_X5_19 ?_
  rw [uS_sI]
  refine g_aload_0 C dX5_readInto_5 rfl ?_
  refine g_iconst (v := 0) C dX5_readInto_6 rfl (by decide) ?_
  refine g_puti C 4 dX5_readInto_7 rfl rfl rfl (Or.inl rfl) fl_X5_25 ?_
  rw [uS_sI]
  refine g_aload_0 C dX5_readInto_10 rfl ?_
  refine g_iconst (v := -1) C dX5_readInto_11 rfl (by decide) ?_
  refine g_puti C 5 dX5_readInto_12 rfl rfl rfl (Or.inl rfl) fl_X5_28 ?_
  rw [uS_sI]
  refine g_aload_1 C dX5_readInto_15 rfl ?_
  refine g_cD0v C dX5_readInto_16 rfl ml_X5_31 mz_X4_clear (ok_X4_clear dr _ hK) (by decide) rfl rfl hK.1 (by decide) rfl (Nat.le_of_ble_eq_true rfl) (fun hn16 => ?_)
  rw [uS_sIn _ _ _ _ (dr_1 hdr), uS_sIn _ _ _ _ (dr_1 hdr), uS_sIn _ _ _ _ (dr_1 hdr)]
  have hF : Fdr dr S (sI (sI (sI S dr 3 0) dr 4 0) dr 5 0) := ((Fdr.i dr S 3 0).trans (Fdr.i dr _ 4 0)).trans (Fdr.i dr _ 5 0)
  have hD : Dr (sI (sI (sI S dr 3 0) dr 4 0) dr 5 0) dr (0, 0, 0, mA S (dr + 1), mA S (dr + 2), mA S (dr + 3), 0) := ⟨(u2_nj _ _ _ (by decide)).trans ((u2_nj _ _ _ (by decide)).trans (u2_at _ _ _ _)), (u2_nj _ _ _ (by decide)).trans (u2_at _ _ _ _), u2_at _ _ _ _, rfl, rfl, rfl⟩
  generalize (sI (sI (sI S dr 3 0) dr 4 0) dr 5 0) = D at hF hD ⊢
  have hA2 : mA D 2 = mA S 2 := hF.A2 hdr
  have hXD : Tx (mA D 2) tn := by rw [hA2]; exact hX
  refine g_aload_0 C dX5_readInto_19 rfl ?_
  refine g_cV0i C dX5_readInto_20 rfl ml_X5_36 mz_X5_peek (ok_X5_peek D (hF.R hR) tn hXD (upd (upd (upd g 2 0) 4 0) 5 (-1)) h1 0 rfl (Nat.zero_le _)) (by decide) rfl rfl rfl rfl (Nat.le_of_ble_eq_true rfl) (fun hn20 => ?_)
  refine g_iconst (v := -1) C dX5_readInto_23 rfl (by decide) ?_
  refine g_icmp_ne (tgt := 28) C dX5_readInto_24 rfl (by decide) (fun h24 => ?_) (fun h24 => ?_)
  · skip
    refine g_aload_0 C dX5_readInto_28 rfl ?_
    refine g_aload_1 C dX5_readInto_29 rfl ?_
    refine g_cV1w C dX5_readInto_30 rfl ml_X5_40 mz_X5_readThings (ok_X5_readThings D (hF.R hR) tn hXD (upd (upd (upd (upd g 2 0) 4 0) 5 (-1)) 2 (nI (skp (mA D 2) tn 0))) h1 (skp (mA D 2) tn 0) (upd_at _ _ _) (skp_le (Nat.zero_le _)).2 dr hdr (hF.K hK) 0 hD.1 hD.2.1) (by decide) rfl rfl rfl rfl (Nat.le_of_ble_eq_true rfl) (fun S30 hp30 hn30 => ?_)
    obtain ⟨D2, g3, rfl, f, f1, hq⟩ := hp30
    rw [claR_skp, hA2, hD.2.2.1, hD.2.2.2.1, hD.2.2.2.2.1, hD.2.2.2.2.2] at hq
    have hlt : skp (mA S 2) tn 0 < tn := by rw [← hA2]; exact chr_nm1 h24
    have hok := claR_ok (tx := mA S 2) (tau0 tn (mA S (dr + 1)) (mA S (dr + 2)) (mA S (dr + 3)))
    cases hcl : claR (mA S 2) tn (0, 0, 0, mA S (dr + 1), mA S (dr + 2), mA S (dr + 3), 0) with
    | inl f9 =>
      obtain ⟨k, pl⟩ := f9
      rw [show claR (mA S 2) tn _ = .inl (k, pl) from hcl] at hq
      rw [hcl] at hok
      refine g_iconst (v := 0) C dX5_readInto_33 rfl (by decide) ?_
      refine g_istore_2 C rfl dX5_readInto_34 rfl ?_
      refine g_iload_2 C dX5_readInto_35 rfl ?_
      refine g_sipush (v := 240) C dX5_readInto_36 rfl (by decide) ?_
      refine g_icmp_ge (tgt := 68) C dX5_readInto_39 rfl (by decide) (fun h39 => absurd h39 (by decide)) (fun h39 => ?_)
      refine g_aload_0 C dX5_readInto_42 rfl ?_
      refine g_geti C 4 dX5_readInto_43 rfl rfl rfl fl_X5_25 ?_
      rw [show mI (uS D2 g3) 1 4 = nI k from hq.1]
      refine g_if_ne (tgt := 68) C dX5_readInto_46 rfl (by decide) (fun h46 => ?_) (fun h46 => absurd h46 (nI_k0 hok.1 hok.2))
      exact g_vret C rfl dX5_readInto_68 ⟨rfl, D2, g3, rfl, hF.trans f, f1.trans h1, by rw [prF_f (t := (0, 0, 0, mA S (dr + 1), mA S (dr + 2), mA S (dr + 3), 0)) hlt hcl]; exact ⟨hok, hq.1, hq.2⟩⟩
    | inr t2 =>
      rw [show claR (mA S 2) tn _ = .inr t2 from hcl] at hq
      rw [hcl] at hok
      refine g_iconst (v := 0) C dX5_readInto_33 rfl (by decide) ?_
      refine g_istore_2 C rfl dX5_readInto_34 rfl ?_
      exact lp_X5_readInto C S hR tn hX dr hdr hK _ (fun D g2 a b c => ⟨rfl, D, g2, rfl, a, b, c⟩) tn t2 D2 g3 0 (prF_s (t := (0, 0, 0, mA S (dr + 1), mA S (dr + 2), mA S (dr + 3), 0)) hlt hcl).symm (by have := hok.1; omega) hok.2 (claR_th (Nat.zero_le _) hcl) (by have := hok.1; omega) (hF.trans f) hq.2.2.2 (f1.trans h1) hq.1 hq.2.1 hq.2.2.1
  · skip
    exact g_vret C rfl dX5_readInto_27 ⟨rfl, D, _, rfl, hF, h1, by rw [prF_e (t := (0, 0, 0, mA S (dr + 1), mA S (dr + 2), mA S (dr + 3), 0)) (by have := chr_m1 hXD h24; rw [hA2] at this; exact this)]; exact ⟨tau0 _ _ _ _, rfl, rfl, hD⟩⟩

