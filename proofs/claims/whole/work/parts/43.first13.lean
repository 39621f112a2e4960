/-! the draft: what lies outside it stays -/
def Fdr (dr : Nat) (S D : Mem) : Prop := (mN D = mN S ∧ mK D = mK S ∧ mR D = mR S ∧ mL D = mL S ∧ mQ D = mQ S) ∧ (∀ a, a ≠ dr → mI D a = mI S a) ∧ (∀ a, a ≠ dr + 1 → a ≠ dr + 2 → a ≠ dr + 3 → mA D a = mA S a)
theorem Fdr.refl (dr : Nat) (S : Mem) : Fdr dr S S := ⟨⟨rfl, rfl, rfl, rfl, rfl⟩, fun _ _ => rfl, fun _ _ _ _ => rfl⟩
theorem Fdr.trans {dr : Nat} {S D E : Mem} (h : Fdr dr S D) (k : Fdr dr D E) : Fdr dr S E := ⟨⟨k.1.1.trans h.1.1, k.1.2.1.trans h.1.2.1, k.1.2.2.1.trans h.1.2.2.1, k.1.2.2.2.1.trans h.1.2.2.2.1, k.1.2.2.2.2.trans h.1.2.2.2.2⟩, fun a ha => (k.2.1 a ha).trans (h.2.1 a ha), fun a h1 h2 h3 => (k.2.2 a h1 h2 h3).trans (h.2.2 a h1 h2 h3)⟩
theorem Fdr.i (dr : Nat) (S : Mem) (j : Nat) (v : Int32) : Fdr dr S (sI S dr j v) := ⟨⟨rfl, rfl, rfl, rfl, rfl⟩, fun _ ha => u2_nep _ _ _ _ ha, fun _ _ _ _ => rfl⟩
theorem Fdr.ar (dr : Nat) (S : Mem) (nr : Nat) (a b c : Int32) : Fdr dr S (arS S dr nr a b c) := ⟨⟨rfl, rfl, rfl, rfl, rfl⟩, fun _ ha => u2_nep _ _ _ _ ha, fun x h1 h2 h3 => (mA_sAne _ _ _ _ h3).trans ((mA_sAne _ _ _ _ h2).trans (mA_sAne _ _ _ _ h1))⟩
theorem Fdr.K {dr : Nat} {S D : Mem} (h : Fdr dr S D) {t : Nat} (k : TwK S t) : TwK D t := by
  unfold TwK
  rw [h.1.2.1, h.1.2.2.1]
  exact k
theorem Fdr.R {dr : Nat} {S D : Mem} (h : Fdr dr S D) (k : Rs S) : Rs D := by
  unfold Rs
  rw [h.1.2.2.1]
  exact k
def Dr (D : Mem) (dr : Nat) (t : Tau) : Prop := mI D dr 3 = nI t.2.1 ∧ mI D dr 4 = nI t.2.2.1 ∧ mI D dr 5 = t.2.2.2.2.2.2 ∧ mA D (dr + 1) = t.2.2.2.1 ∧ mA D (dr + 2) = t.2.2.2.2.1 ∧ mA D (dr + 3) = t.2.2.2.2.2.1
def clQ (D : Mem) (dr : Nat) (g g2 : Nat → Int32) (R : (Nat × Nat) ⊕ Tau) : Prop := match R with
  | .inl (k, pl) => g2 4 = nI k ∧ g2 5 = nI pl
  | .inr t => g2 2 = nI t.1 ∧ g2 4 = g 4 ∧ g2 5 = g 5 ∧ Dr D dr t
def clP (S : Mem) (dr : Nat) (g : Nat → Int32) (R : (Nat × Nat) ⊕ Tau) : Mem → Prop := fun S2 => ∃ D g2, S2 = uS D g2 ∧ Fdr dr S D ∧ g2 1 = g 1 ∧ clQ D dr g g2 R
theorem nuQ_f {tx : Nat → Int32} {tn lo hi p : Nat} {g g2 : Nat → Int32} {v : Int32} (h : nuQ tx tn lo hi p g g2 v) (hh : hi ≤ 999) (hv : v = -1) : ∃ k pl, numR tx tn lo hi p = .inl (k, pl) ∧ g2 4 = nI k ∧ g2 5 = nI pl := by
  unfold nuQ at h
  cases hn : numR tx tn lo hi p with
  | inl f => obtain ⟨k, pl⟩ := f; rw [hn] at h; exact ⟨k, pl, rfl, h.2⟩
  | inr f =>
    obtain ⟨a, e, x⟩ := f
    rw [hn] at h
    rw [hv] at h
    have hb : x ≤ 999 := by
      unfold numR at hn
      by_cases h1 : dig tx tn (skp tx tn p) = true
      · rw [if_pos h1] at hn
        split at hn
        · cases hn
        · rename_i h2; cases hn; omega
      · rw [if_neg h1] at hn; cases hn
    exact absurd (show nI x < 0 by rw [← h.1]; decide) (nI_pos (show x < 2147483648 by omega))
theorem nuQ_g {tx : Nat → Int32} {tn lo hi p : Nat} {g g2 : Nat → Int32} {v : Int32} (h : nuQ tx tn lo hi p g g2 v) (hv : ¬ v = -1) : ∃ a e x, numR tx tn lo hi p = .inr (a, e, x) ∧ v = nI x ∧ g2 2 = nI e ∧ g2 3 = nI a ∧ g2 4 = g 4 ∧ g2 5 = g 5 := by
  unfold nuQ at h
  cases hn : numR tx tn lo hi p with
  | inl f => obtain ⟨k, pl⟩ := f; rw [hn] at h; exact absurd h.1 hv
  | inr f => obtain ⟨a, e, x⟩ := f; rw [hn] at h; exact ⟨a, e, x, rfl, h⟩
theorem tkG_y {tx : Nat → Int32} {tn p : Nat} {c : Int32} {g : Nat → Int32} (h : chr9 tx tn (skp tx tn p) = c) : tkG tx tn p c g = upd (upd g 2 (nI (skp tx tn p))) 2 (nI (skp tx tn p + 1)) := if_pos h
theorem tkG_n {tx : Nat → Int32} {tn p : Nat} {c : Int32} {g : Nat → Int32} (h : ¬ chr9 tx tn (skp tx tn p) = c) : tkG tx tn p c g = upd (upd (upd g 2 (nI (skp tx tn p))) 4 1) 5 (nI (skp tx tn p)) := if_neg h
theorem tkG_1 {tx : Nat → Int32} {tn p : Nat} {c : Int32} {g : Nat → Int32} : tkG tx tn p c g 1 = g 1 := by
  unfold tkG
  by_cases h : chr9 tx tn (skp tx tn p) = c
  · rw [if_pos h]; rfl
  · rw [if_neg h]; rfl
theorem bi_t {b : Bool} (h : ¬ bI b = 0) : b = true := nf_t (fun q => h ((bI_0 _).mpr q))
theorem dr_1 {dr : Nat} (h : 16 ≤ dr) : dr ≠ 1 := by omega
set_option maxHeartbeats 4000000 in
set_option maxRecDepth 20000 in
theorem ok_X5_readThings (S : Mem) (hR : Rs S) (tn : Nat) (hX : Tx (mA S 2) tn) (g : Nat → Int32) (h1 : g 1 = nI tn) (p : Nat) (hp : g 2 = nI p) (hpt : p ≤ tn) (dr : Nat) (hdr : 16 ≤ dr) (hK : TwK S dr) (nr : Nat) (h3 : mI S dr 3 = nI 0) (h4 : mI S dr 4 = nI nr) : Ok yX5_readThings cX5_readThings 3 none 2 0 0 [.ref 1, .ref dr] (uS S g) (RW (clP S dr g (claR (mA S 2) tn (p, 0, nr, mA S (dr + 1), mA S (dr + 2), mA S (dr + 3), mI S dr 5)))) := by
  have h240 := hX.1
  refine Ok.of (by decide) (Nat.le_of_ble_eq_true rfl) rfl (fun κ C hx => ?_)
  have C : Cx RX5 cX5_readThings 3 none 2 false _ κ := C
  refine g_aload_0 C dX5_readThings_0 rfl ?_
  refine g_bipush (v := 116) C dX5_readThings_1 rfl (by decide) ?_
  refine g_cV1i C dX5_readThings_3 rfl ml_X5_47 mz_X5_take (ok_X5_take 116 S hR tn hX g h1 p hp hpt) (by decide) rfl rfl rfl rfl (Nat.le_of_ble_eq_true rfl) (fun hn3 => ?_)
  refine g_if_ne (tgt := 10) C dX5_readThings_6 rfl (by decide) (fun h6 => ?_) (fun h6 => ?_)
  · skip
    have hc : chr9 (mA S 2) tn (skp (mA S 2) tn p) = 116 := decide_eq_true_eq.mp (bi_t h6)
    have hlt := chr_lt hc (by decide)
    have e1 : (tkG (mA S 2) tn p 116 g) 1 = nI tn := tkG_1.trans h1
    have e2 : (tkG (mA S 2) tn p 116 g) 2 = nI ((skp (mA S 2) tn p) + 1) := by rw [tkG_y hc]; exact upd_at _ _ _
    have e4 : (tkG (mA S 2) tn p 116 g) 4 = g 4 := by rw [tkG_y hc]; rfl
    have e5 : (tkG (mA S 2) tn p 116 g) 5 = g 5 := by rw [tkG_y hc]; rfl
    generalize (tkG (mA S 2) tn p 116 g) = g1 at e1 e2 e4 e5 ⊢
    refine g_aload_0 C dX5_readThings_10 rfl ?_
    refine g_iconst (v := 1) C dX5_readThings_11 rfl (by decide) ?_
    refine g_bipush (v := 8) C dX5_readThings_12 rfl (by decide) ?_
    refine g_cV2x C dX5_readThings_14 rfl ml_X5_51 mz_X5_number (ok_X5_number 1 8 (by decide) (by decide) S hR tn hX g1 e1 ((skp (mA S 2) tn p) + 1) e2 (by omega)) (by decide) rfl rfl rfl rfl (Nat.le_of_ble_eq_true rfl) (fun v14 S14 hp14 hn14 => ?_)
    obtain ⟨g2, rfl, f1, hq⟩ := hp14
    refine g_istore_2 C rfl dX5_readThings_17 rfl ?_
    refine g_iload_2 C dX5_readThings_18 rfl ?_
    refine g_iconst (v := -1) C dX5_readThings_19 rfl (by decide) ?_
    refine g_icmp_eq (tgt := 37) C dX5_readThings_20 rfl (by decide) (fun h20 => ?_) (fun h20 => ?_)
    · skip
      exact g_vret C rfl dX5_readThings_37 ⟨rfl, S, g2, rfl, Fdr.refl _ _, f1.trans (e1.trans h1.symm), by
        obtain ⟨k, pl, hn, q1, q2⟩ := nuQ_f hq (by decide) h20
        rw [cla_tf hc rfl hn]
        exact ⟨q1, q2⟩⟩
    · skip
      obtain ⟨a9, e, x, hn, rfl, q2, q3, q4, q5⟩ := nuQ_g hq h20
      have hb := numR_inr (by omega) hn
      refine g_aload_0 C dX5_readThings_23 rfl ?_
      refine g_bipush (v := 59) C dX5_readThings_24 rfl (by decide) ?_
      refine g_cV1i C dX5_readThings_26 rfl ml_X5_47 mz_X5_take (ok_X5_take 59 S hR tn hX g2 (f1.trans e1) e q2 hb.2.2.1) (by decide) rfl rfl rfl rfl (Nat.le_of_ble_eq_true rfl) (fun hn26 => ?_)
      refine g_if_eq (tgt := 37) C dX5_readThings_29 rfl (by decide) (fun h29 => ?_) (fun h29 => ?_)
      · skip
        exact g_vret C rfl dX5_readThings_37 ⟨rfl, S, _, rfl, Fdr.refl _ _, tkG_1.trans (f1.trans (e1.trans h1.symm)), by
          have hc2 : ¬ chr9 (mA S 2) tn (skp (mA S 2) tn e) = 59 := of_decide_eq_false ((bI_0 _).mp h29)
          rw [cla_te hc rfl hn (end_no hc2), tkG_n hc2]
          exact ⟨rfl, upd_at _ _ _⟩⟩
      · skip
        refine g_aload_1 C dX5_readThings_32 rfl ?_
        refine g_iload_2 C dX5_readThings_33 rfl ?_
        refine g_putiD C (j := 3) dX5_readThings_34 rfl hK.1 (by decide) (by decide) rfl (Or.inl rfl) fl_X5_55 ?_
        rw [uS_sIn _ _ _ _ (dr_1 hdr)]
        exact g_vret C rfl dX5_readThings_37 ⟨rfl, _, _, rfl, Fdr.i _ _ _ _, tkG_1.trans (f1.trans (e1.trans h1.symm)), by
          have hc2 : chr9 (mA S 2) tn (skp (mA S 2) tn e) = 59 := decide_eq_true_eq.mp (bi_t h29)
          rw [cla_to hc rfl hn (end_ok hc2), tkG_y hc2]
          exact ⟨upd_at _ _ _, q4.trans e4, q5.trans e5, u2_at _ _ _ _, (u2_nj _ _ _ (by decide)).trans h4, u2_nj _ _ _ (by decide), rfl, rfl, rfl⟩⟩
  · skip
    exact g_vret C rfl dX5_readThings_9 ⟨rfl, S, _, rfl, Fdr.refl _ _, tkG_1, by
    have hc : ¬ chr9 (mA S 2) tn (skp (mA S 2) tn p) = 116 := of_decide_eq_false ((bI_0 _).mp h6)
    rw [cla_10 hc rfl, tkG_n hc]
    exact ⟨rfl, upd_at _ _ _⟩⟩

def seR (tx : Nat → Int32) (tn : Nat) (t : Tau) : (Nat × Nat) ⊕ Tau := match t with
  | (p, th, nr, co, cn, nd, se) => match sayR tx tn th se p with
    | .inl f => .inl f
    | .inr (_, e, v) => match endR tx tn e with
      | .inl f => .inl f
      | .inr e2 => .inr (e2, th, nr, co, cn, nd, se ||| one (nI v))
section SER
variable {tx : Nat → Int32} {tn p th nr : Nat} {co cn nd : Nat → Int32} {se : Int32}
theorem ser_f {f : Nat × Nat} (h : sayR tx tn th se p = .inl f) : seR tx tn (p, th, nr, co, cn, nd, se) = .inl f := by unfold seR; dsimp only; rw [h]
theorem ser_e {a e v : Nat} {f : Nat × Nat} (h : sayR tx tn th se p = .inr (a, e, v)) (he : endR tx tn e = .inl f) : seR tx tn (p, th, nr, co, cn, nd, se) = .inl f := by unfold seR; dsimp only; rw [h]; show (match endR tx tn e with | .inl f => _ | .inr e2 => _) = _; rw [he]
theorem ser_o {a e v e2 : Nat} (h : sayR tx tn th se p = .inr (a, e, v)) (he : endR tx tn e = .inr e2) : seR tx tn (p, th, nr, co, cn, nd, se) = .inr (e2, th, nr, co, cn, nd, se ||| one (nI v)) := by unfold seR; dsimp only; rw [h]; show (match endR tx tn e with | .inl f => _ | .inr e2 => _) = _; rw [he]
theorem say_1 {f : Nat × Nat} (h : numR tx tn 0 (2 * th - 1) p = .inl f) : sayR tx tn th se p = .inl f := by unfold sayR; rw [h]
theorem say_4 {a e v : Nat} (h : numR tx tn 0 (2 * th - 1) p = .inr (a, e, v)) (h2 : hasB se (nI v) = true) : sayR tx tn th se p = .inl (4, a) := by unfold sayR; rw [h]; exact if_pos h2
theorem say_0 {a e v : Nat} (h : numR tx tn 0 (2 * th - 1) p = .inr (a, e, v)) (h2 : hasB se (nI v) = false) : sayR tx tn th se p = .inr (a, e, v) := by unfold sayR; rw [h]; exact if_neg (by rw [h2]; decide)
end SER
set_option maxHeartbeats 4000000 in
set_option maxRecDepth 20000 in
theorem ok_X5_readSeen (S : Mem) (hR : Rs S) (tn : Nat) (hX : Tx (mA S 2) tn) (g : Nat → Int32) (h1 : g 1 = nI tn) (p : Nat) (hp : g 2 = nI p) (hpt : p ≤ tn) (dr : Nat) (hdr : 16 ≤ dr) (hK : TwK S dr) (th nr : Nat) (hth : 1 ≤ th) (hth8 : th ≤ 8) (h3 : mI S dr 3 = nI th) (h4 : mI S dr 4 = nI nr) : Ok yX5_readSeen cX5_readSeen 3 none 2 0 0 [.ref 1, .ref dr] (uS S g) (RW (clP S dr g (seR (mA S 2) tn (p, th, nr, mA S (dr + 1), mA S (dr + 2), mA S (dr + 3), mI S dr 5)))) := by
  have h240 := hX.1
  refine Ok.of (by decide) (Nat.le_of_ble_eq_true rfl) rfl (fun κ C hx => ?_)
  have C : Cx RX5 cX5_readSeen 3 none 2 false _ κ := C
  refine g_aload_0 C dX5_readSeen_0 rfl ?_
  refine g_iconst (v := 0) C dX5_readSeen_1 rfl (by decide) ?_
  refine g_aload_1 C dX5_readSeen_2 rfl ?_
  refine g_cD0i C dX5_readSeen_3 rfl ml_X5_72 mz_X4_sayings (ok_X4_sayings dr (uS S g) hK) (by decide) rfl rfl hK.1 (by decide) rfl (Nat.le_of_ble_eq_true rfl) (fun hn3 => ?_)
  refine g_iconst (v := 1) C dX5_readSeen_6 rfl (by decide) ?_
  refine g_isub C dX5_readSeen_7 rfl ?_
  rw [uS_ne S _ (dr_1 hdr), h3, i_2th1 hth]
  refine g_cV2x C dX5_readSeen_8 rfl ml_X5_51 mz_X5_number (ok_X5_number 0 (2 * th - 1) (by decide) (by omega) S hR tn hX g h1 p hp hpt) (by decide) rfl rfl rfl rfl (Nat.le_of_ble_eq_true rfl) (fun v8 S8 hp8 hn8 => ?_)
  obtain ⟨g2, rfl, f1, hq⟩ := hp8
  refine g_istore_2 C rfl dX5_readSeen_11 rfl ?_
  refine g_iload_2 C dX5_readSeen_12 rfl ?_
  refine g_iconst (v := -1) C dX5_readSeen_13 rfl (by decide) ?_
  refine g_icmp_ne (tgt := 18) C dX5_readSeen_14 rfl (by decide) (fun h14 => ?_) (fun h14 => ?_)
  · skip
    obtain ⟨a9, e, x, hn, rfl, q2, q3, q4, q5⟩ := nuQ_g hq h14
    have hb := numR_inr hpt hn
    refine g_aload_1 C dX5_readSeen_18 rfl ?_
    refine g_getiD C 5 dX5_readSeen_19 rfl hK.1 (by decide) (by decide) rfl fl_X5_87 ?_
    rw [uS_ne S _ (dr_1 hdr)]
    refine g_iload_2 C dX5_readSeen_22 rfl ?_
    refine g_cN2i C dX5_readSeen_23 rfl nl_X5_83 mz_X7_has (ok_X7_has _ _ _) (by decide) rfl rfl (Nat.le_of_ble_eq_true rfl) (fun hn23 => ?_)
    refine g_if_eq (tgt := 39) C dX5_readSeen_26 rfl (by decide) (fun h26 => ?_) (fun h26 => ?_)
    · skip
      refine g_aload_0 C dX5_readSeen_39 rfl ?_
      refine g_bipush (v := 59) C dX5_readSeen_40 rfl (by decide) ?_
      refine g_cV1i C dX5_readSeen_42 rfl ml_X5_47 mz_X5_take (ok_X5_take 59 S hR tn hX g2 (f1.trans h1) e q2 hb.2.2.1) (by decide) rfl rfl rfl rfl (Nat.le_of_ble_eq_true rfl) (fun hn42 => ?_)
      refine g_if_eq (tgt := 60) C dX5_readSeen_45 rfl (by decide) (fun h45 => ?_) (fun h45 => ?_)
      · skip
        exact g_vret C rfl dX5_readSeen_60 ⟨rfl, S, _, rfl, Fdr.refl _ _, tkG_1.trans f1, by
        have hc2 : ¬ chr9 (mA S 2) tn (skp (mA S 2) tn e) = 59 := of_decide_eq_false ((bI_0 _).mp h45)
        rw [ser_e (say_0 hn ((bI_0 _).mp h26)) (end_no hc2), tkG_n hc2]
        exact ⟨rfl, upd_at _ _ _⟩⟩
      · skip
        refine g_aload_1 C dX5_readSeen_48 rfl ?_
        refine g_dup C dX5_readSeen_49 rfl rfl ?_
        refine g_getiD C 5 dX5_readSeen_50 rfl hK.1 (by decide) (by decide) rfl fl_X5_87 ?_
        rw [uS_ne S _ (dr_1 hdr)]
        refine g_iconst (v := 1) C dX5_readSeen_53 rfl (by decide) ?_
        refine g_iload_2 C dX5_readSeen_54 rfl ?_
        refine g_ishl C dX5_readSeen_55 rfl ?_
        refine g_ior C dX5_readSeen_56 rfl ?_
        refine g_putiD C (j := 5) dX5_readSeen_57 rfl hK.1 (by decide) (by decide) rfl (Or.inl rfl) fl_X5_87 ?_
        rw [uS_sIn _ _ _ _ (dr_1 hdr)]
        exact g_vret C rfl dX5_readSeen_60 ⟨rfl, _, _, rfl, Fdr.i _ _ _ _, tkG_1.trans f1, by
        have hc2 : chr9 (mA S 2) tn (skp (mA S 2) tn e) = 59 := decide_eq_true_eq.mp (bi_t h45)
        rw [ser_o (say_0 hn ((bI_0 _).mp h26)) (end_ok hc2), tkG_y hc2]
        exact ⟨upd_at _ _ _, q4, q5, (u2_nj _ _ _ (by decide)).trans h3, (u2_nj _ _ _ (by decide)).trans h4, u2_at _ _ _ _, rfl, rfl, rfl⟩⟩
    · skip
      refine g_aload_0 C dX5_readSeen_29 rfl ?_
      refine g_iconst (v := 4) C dX5_readSeen_30 rfl (by decide) ?_
      refine g_aload_0 C dX5_readSeen_31 rfl ?_
      refine g_geti C 3 dX5_readSeen_32 rfl rfl rfl fl_X5_22 ?_
      rw [show mI (uS S g2) 1 3 = nI a9 from q3]
      refine g_cV2v C dX5_readSeen_35 rfl ml_X5_62 mz_X5_stop (ok_X5_stop _ _ S g2) (by decide) rfl rfl rfl rfl (Nat.le_of_ble_eq_true rfl) (fun hn35 => ?_)
      exact g_vret C rfl dX5_readSeen_38 ⟨rfl, S, _, rfl, Fdr.refl _ _, f1, by
        rw [ser_f (say_4 hn (bi_t h26))]
        exact ⟨rfl, upd_at _ _ _⟩⟩
  · skip
    exact g_vret C rfl dX5_readSeen_17 ⟨rfl, S, g2, rfl, Fdr.refl _ _, f1, by
    obtain ⟨k, pl, hn, q1, q2⟩ := nuQ_f hq (by omega) h14
    rw [ser_f (say_1 hn)]
    exact ⟨q1, q2⟩⟩

