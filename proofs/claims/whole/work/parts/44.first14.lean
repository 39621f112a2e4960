def pm5 (tx : Nat → Int32) (tn th : Nat) (q : Int32) : Nat → Int32 → Nat → (Nat × Nat) ⊕ (Nat × Int32)
  | 0, nd, p => .inr (p, nd)
  | n + 1, nd, p => if chr9 tx tn (skp tx tn p) = 44 then (match sayR tx tn th (nd ||| one q) (skp tx tn p + 1) with
      | .inl f => .inl f
      | .inr (_, e, v) => pm5 tx tn th q n (nd ||| one (nI v)) e) else .inr (skp tx tn p, nd)
theorem endR_skp {tx : Nat → Int32} {tn p : Nat} : endR tx tn (skp tx tn p) = endR tx tn p := by unfold endR; rw [skp_idem]
def bnd5 (tx : Nat → Int32) (tn : Nat) (F : Nat → Int32 → Tau) (R : (Nat × Nat) ⊕ (Nat × Int32)) : (Nat × Nat) ⊕ Tau := match R with
  | .inl f => .inl f
  | .inr (e, m) => match endR tx tn e with
    | .inl f => .inl f
    | .inr e2 => .inr (F e2 m)
section BND
variable {tx : Nat → Int32} {tn e : Nat} {F : Nat → Int32 → Tau} {f : Nat × Nat} {m : Int32}
theorem bnd_f : bnd5 tx tn F (.inl f) = .inl f := rfl
theorem bnd_n (h : endR tx tn e = .inl f) : bnd5 tx tn F (.inr (e, m)) = .inl f := by unfold bnd5; dsimp only; rw [h]
theorem bnd_o {e2 : Nat} (h : endR tx tn e = .inr e2) : bnd5 tx tn F (.inr (e, m)) = .inr (F e2 m) := by unfold bnd5; dsimp only; rw [h]
end BND
theorem pm5_eq {tx : Nat → Int32} {tn th : Nat} {q : Int32} (F : Nat → Int32 → Tau) : ∀ n nd p, bnd5 tx tn F (pm5 tx tn th q n nd p) = bnd5 tx tn F (pmR tx tn th q n nd p)
  | 0, nd, p => by
    rw [show pm5 tx tn th q 0 nd p = .inr (p, nd) from rfl]
    by_cases h : chr9 tx tn (skp tx tn p) = 44
    · rw [show pmR tx tn th q 0 nd p = .inl (1, skp tx tn p) from if_pos h, bnd_f, bnd_n (end_no (p := p) (by rw [h]; decide))]
    · rw [show pmR tx tn th q 0 nd p = .inr (skp tx tn p, nd) from if_neg h]
      cases he : endR tx tn p with
      | inl f => rw [bnd_n he, bnd_n (by rw [endR_skp]; exact he)]
      | inr e2 => rw [bnd_o he, bnd_o (by rw [endR_skp]; exact he)]
  | n + 1, nd, p => by
    by_cases h : chr9 tx tn (skp tx tn p) = 44
    · cases hs : sayR tx tn th (nd ||| one q) (skp tx tn p + 1) with
      | inl f =>
        obtain ⟨k, pl⟩ := f
        have e1 : pm5 tx tn th q (n + 1) nd p = .inl (k, pl) := (if_pos h).trans (by rw [hs])
        rw [e1, pm_sf h hs]
      | inr f =>
        obtain ⟨a, e, v⟩ := f
        have e1 : pm5 tx tn th q (n + 1) nd p = pm5 tx tn th q n (nd ||| one (nI v)) e := (if_pos h).trans (by rw [hs])
        rw [e1, pm_ss h hs]
        exact pm5_eq F n _ e
    · rw [show pm5 tx tn th q (n + 1) nd p = .inr (skp tx tn p, nd) from if_neg h, pm_e h (n + 1)]
def pq5 (g0 g2 : Nat → Int32) (R : (Nat × Nat) ⊕ (Nat × Int32)) (v : Int32) : Prop := match R with
  | .inl (k, pl) => v = -1 ∧ g2 4 = nI k ∧ g2 5 = nI pl
  | .inr (e, m) => (v = m ∧ ¬ v = -1) ∧ g2 2 = nI e ∧ g2 4 = g0 4 ∧ g2 5 = g0 5
theorem ne_m1 {x : Int32} (h : bt x 31 = false) : ¬ x = -1 := fun e => by
  rw [e, b_m1 31 (by decide)] at h
  cases h
theorem or_31 {x : Int32} {v : Nat} (h : bt x 31 = false) (hv : v < 16) : bt (x ||| one (nI v)) 31 = false := by
  rw [b_or, h, bt_one (by omega) (by decide), decide_eq_false (by omega)]
  rfl
theorem has_or {x : Int32} {v q : Nat} (hv : v < 16) (hq : q < 16) : hasB (x ||| one (nI q)) (nI v) = (hasB x (nI v) || decide (v = q)) := by
  rw [hasB_bt (by omega), hasB_bt (by omega), b_or, bt_one (by omega) (by omega)]
theorem pm5_le {tx : Nat → Int32} {tn th : Nat} {q : Int32} (hth : 1 ≤ th) : ∀ n nd p e m, p ≤ tn → pm5 tx tn th q n nd p = .inr (e, m) → e ≤ tn
  | 0, nd, p, e, m, hp, h => by cases h; exact hp
  | n + 1, nd, p, e, m, hp, h => by
    have hk := skp_le (tx := tx) hp
    by_cases hc : chr9 tx tn (skp tx tn p) = 44
    · have hl := chr_lt hc (by decide)
      cases hs : sayR tx tn th (nd ||| one q) (skp tx tn p + 1) with
      | inl f =>
        rw [show pm5 tx tn th q (n + 1) nd p = .inl f from (if_pos hc).trans (by rw [hs])] at h
        cases h
      | inr f =>
        obtain ⟨a, e1, v⟩ := f
        have hb := sayR_inr (by omega) hth hs
        rw [show pm5 tx tn th q (n + 1) nd p = pm5 tx tn th q n (nd ||| one (nI v)) e1 from (if_pos hc).trans (by rw [hs])] at h
        exact pm5_le hth n _ e1 e m hb.2.2.1 h
    · rw [show pm5 tx tn th q (n + 1) nd p = .inr (skp tx tn p, nd) from if_neg hc] at h
      cases h
      exact hk.2
set_option maxHeartbeats 4000000 in
set_option maxRecDepth 20000 in
theorem lp_X5_pm {κ : Kx} {Φ : Option Value → Mem → Prop} (C : Cx RX5 cX5_readPremises 6 (some .int) 2 false Φ κ) (S : Mem) (hR : Rs S) (tn : Nat) (hX : Tx (mA S 2) tn) (dr : Nat) (hdr : 16 ≤ dr) (hK : TwK S dr) (th : Nat) (hth : 1 ≤ th) (hth8 : th ≤ 8) (h3 : mI S dr 3 = nI th) (qv : Nat) (hqv : qv < 16) (g0 : Nat → Int32) (R : (Nat × Nat) ⊕ (Nat × Int32)) (hΦ : ∀ (v : Int32) (g2 : Nat → Int32), g2 1 = nI tn → pq5 g0 g2 R v → Φ (some (.int v)) (uS S g2)) : ∀ (n p : Nat) (nd : Int32) (g : Nat → Int32) (v5 : Value), n ≤ 3 → p ≤ tn → g 1 = nI tn → g 2 = nI p → g 4 = g0 4 → g 5 = g0 5 → bt nd 31 = false → pm5 (mA S 2) tn th (nI qv) n nd p = R → G κ 0 0 (uS S g) 5 [.ref 1, .ref dr, .int (nI qv), .int nd, .int (nI (3 - n)), v5] [] := by
  have h240 := hX.1
  intro n
  induction n with
  | zero =>
    intro p nd g v5 hn hpt h1 hp h4 h5 h31 hR5
    refine g_iload_4 C dX5_readPremises_5 rfl ?_
    refine g_iconst (v := 3) C dX5_readPremises_7 rfl (by decide) ?_
    refine g_icmp_ge (tgt := 90) C dX5_readPremises_8 rfl (by decide) (fun h8 => ?_) (fun h8 => absurd (show (3 : Int32) ≤ nI (3 - 0) by decide) h8)
    refine g_iload_3 C dX5_readPremises_90 rfl ?_
    exact g_iret C rfl dX5_readPremises_91 (hΦ _ _ h1 (by rw [← hR5]; exact ⟨⟨rfl, ne_m1 h31⟩, hp, h4, h5⟩))
  | succ n ih =>
    intro p nd g v5 hn hpt h1 hp h4 h5 h31 hR5
    refine g_iload_4 C dX5_readPremises_5 rfl ?_
    refine g_iconst (v := 3) C dX5_readPremises_7 rfl (by decide) ?_
    refine g_icmp_ge (tgt := 90) C dX5_readPremises_8 rfl (by decide) (fun h8 => absurd (n_ge (b := 3) h8 (by omega) (by decide)) (by omega)) (fun h8 => ?_)
    refine g_aload_0 C dX5_readPremises_11 rfl ?_
    refine g_cV0i C dX5_readPremises_12 rfl ml_X5_36 mz_X5_peek (ok_X5_peek S hR tn hX g h1 p hp hpt) (by decide) rfl rfl rfl rfl (Nat.le_of_ble_eq_true rfl) (fun hn12 => ?_)
    refine g_bipush (v := 44) C dX5_readPremises_15 rfl (by decide) ?_
    refine g_icmp_ne (tgt := 90) C dX5_readPremises_17 rfl (by decide) (fun h17 => ?_) (fun h17 => ?_)
    · skip
      refine g_iload_3 C dX5_readPremises_90 rfl ?_
      exact g_iret C rfl dX5_readPremises_91 (hΦ _ _ h1 (by rw [← hR5, show pm5 (mA S 2) tn th (nI qv) (n + 1) nd p = _ from if_neg h17]; exact ⟨⟨rfl, ne_m1 h31⟩, upd_at _ _ _, h4, h5⟩))
    · skip
      refine g_aload_0 C dX5_readPremises_20 rfl ?_
      refine g_dup C dX5_readPremises_21 rfl rfl ?_
      refine g_geti C 2 dX5_readPremises_22 rfl rfl rfl fl_X5_19 ?_
      rw [show mI (uS S (upd g 2 (nI (skp (mA S 2) tn p)))) 1 2 = nI (skp (mA S 2) tn p) from upd_at g 2 _]
      refine g_iconst (v := 1) C dX5_readPremises_25 rfl (by decide) ?_
      refine g_iadd C dX5_readPremises_26 rfl ?_
      refine g_puti C 2 dX5_readPremises_27 rfl rfl rfl (Or.inl rfl) fl_X5_19 ?_
      rw [uS_sI, nI_1]
      refine g_aload_0 C dX5_readPremises_30 rfl ?_
      refine g_iconst (v := 0) C dX5_readPremises_31 rfl (by decide) ?_
      refine g_aload_1 C dX5_readPremises_32 rfl ?_
      refine g_cD0i C dX5_readPremises_33 rfl ml_X5_72 mz_X4_sayings (ok_X4_sayings dr _ hK) (by decide) rfl rfl hK.1 (by decide) rfl (Nat.le_of_ble_eq_true rfl) (fun hn33 => ?_)
      refine g_iconst (v := 1) C dX5_readPremises_36 rfl (by decide) ?_
      refine g_isub C dX5_readPremises_37 rfl ?_
      rw [uS_ne S _ (dr_1 hdr), h3, i_2th1 hth]
      refine g_cV2x C dX5_readPremises_38 rfl ml_X5_51 mz_X5_number (ok_X5_number 0 (2 * th - 1) (by decide) (by omega) S hR tn hX (upd (upd g 2 (nI (skp (mA S 2) tn p))) 2 (nI (skp (mA S 2) tn p + 1))) h1 (skp (mA S 2) tn p + 1) (upd_at _ _ _) (by have := chr_lt h17 (by decide); omega)) (by decide) rfl rfl rfl rfl (Nat.le_of_ble_eq_true rfl) (fun v38 S38 hp38 hn38 => ?_)
      obtain ⟨g2, rfl, f1, hq⟩ := hp38
      refine g_istore_5 C rfl dX5_readPremises_41 rfl ?_
      refine g_iload_5 C dX5_readPremises_43 rfl ?_
      refine g_iconst (v := -1) C dX5_readPremises_45 rfl (by decide) ?_
      refine g_icmp_ne (tgt := 51) C dX5_readPremises_46 rfl (by decide) (fun h46 => ?_) (fun h46 => ?_)
      · skip
        obtain ⟨a9, e, x, hnn, rfl, q2, q3, q4, q5⟩ := nuQ_g hq h46
        have hlt := chr_lt h17 (by decide)
        have hb := numR_inr (by omega) hnn
        have hx16 : x < 16 := by omega
        refine g_iload_5 C dX5_readPremises_51 rfl ?_
        refine g_iload_2 C dX5_readPremises_53 rfl ?_
        refine g_icmp_eq (tgt := 66) C dX5_readPremises_54 rfl (by decide) (fun h54 => ?_) (fun h54 => ?_)
        · skip
          refine g_aload_0 C dX5_readPremises_66 rfl ?_
          refine g_iconst (v := 4) C dX5_readPremises_67 rfl (by decide) ?_
          refine g_aload_0 C dX5_readPremises_68 rfl ?_
          refine g_geti C 3 dX5_readPremises_69 rfl rfl rfl fl_X5_22 ?_
          rw [show mI (uS S g2) 1 3 = nI a9 from q3]
          refine g_cV2v C dX5_readPremises_72 rfl ml_X5_62 mz_X5_stop (ok_X5_stop _ _ S g2) (by decide) rfl rfl rfl rfl (Nat.le_of_ble_eq_true rfl) (fun hn72 => ?_)
          refine g_iconst (v := -1) C dX5_readPremises_75 rfl (by decide) ?_
          exact g_iret C rfl dX5_readPremises_76 (by
            have hh : hasB (nd ||| one (nI qv)) (nI x) = true := by rw [has_or hx16 hqv]; rw [decide_eq_true (n_eq h54 (by omega) (by omega))]; exact Bool.or_true _
            refine hΦ _ _ (f1.trans h1) ?_
            rw [← hR5, show pm5 (mA S 2) tn th (nI qv) (n + 1) nd p = .inl (4, a9) from (if_pos h17).trans (by rw [say_4 hnn hh])]
            exact ⟨rfl, rfl, upd_at _ _ _⟩)
        · skip
          refine g_iload_3 C dX5_readPremises_57 rfl ?_
          refine g_iload_5 C dX5_readPremises_58 rfl ?_
          refine g_cN2i C dX5_readPremises_60 rfl nl_X5_83 mz_X7_has (ok_X7_has _ _ _) (by decide) rfl rfl (Nat.le_of_ble_eq_true rfl) (fun hn60 => ?_)
          refine g_if_eq (tgt := 77) C dX5_readPremises_63 rfl (by decide) (fun h63 => ?_) (fun h63 => ?_)
          · skip
            refine g_iload_3 C dX5_readPremises_77 rfl ?_
            refine g_iconst (v := 1) C dX5_readPremises_78 rfl (by decide) ?_
            refine g_iload_5 C dX5_readPremises_79 rfl ?_
            refine g_ishl C dX5_readPremises_81 rfl ?_
            refine g_ior C dX5_readPremises_82 rfl ?_
            refine g_istore_3 C rfl dX5_readPremises_83 rfl ?_
            refine g_iinc_4 (z := 1) C rfl dX5_readPremises_84 rfl (by decide) ?_
            refine g_goto (tgt := 5) C dX5_readPremises_87 (by decide) ?_
            have hh : hasB (nd ||| one (nI qv)) (nI x) = false := by rw [has_or hx16 hqv, (bI_0 _).mp h63, decide_eq_false (fun z => h54 (by rw [z]))]; rfl
            rw [nI_1, show 3 - (n + 1) + 1 = 3 - n by omega]
            exact ih e _ g2 _ (by omega) hb.2.2.1 (f1.trans h1) q2 (q4.trans h4) (q5.trans h5) (or_31 h31 hx16) (by rw [← hR5]; exact ((if_pos h17).trans (by rw [say_0 hnn hh]; rfl)).symm)
          · skip
            refine g_aload_0 C dX5_readPremises_66 rfl ?_
            refine g_iconst (v := 4) C dX5_readPremises_67 rfl (by decide) ?_
            refine g_aload_0 C dX5_readPremises_68 rfl ?_
            refine g_geti C 3 dX5_readPremises_69 rfl rfl rfl fl_X5_22 ?_
            rw [show mI (uS S g2) 1 3 = nI a9 from q3]
            refine g_cV2v C dX5_readPremises_72 rfl ml_X5_62 mz_X5_stop (ok_X5_stop _ _ S g2) (by decide) rfl rfl rfl rfl (Nat.le_of_ble_eq_true rfl) (fun hn72 => ?_)
            refine g_iconst (v := -1) C dX5_readPremises_75 rfl (by decide) ?_
            exact g_iret C rfl dX5_readPremises_76 (by
            have hh : hasB (nd ||| one (nI qv)) (nI x) = true := by rw [has_or hx16 hqv]; rw [bi_t h63]; rfl
            refine hΦ _ _ (f1.trans h1) ?_
            rw [← hR5, show pm5 (mA S 2) tn th (nI qv) (n + 1) nd p = .inl (4, a9) from (if_pos h17).trans (by rw [say_4 hnn hh])]
            exact ⟨rfl, rfl, upd_at _ _ _⟩)
      · skip
        refine g_iconst (v := -1) C dX5_readPremises_49 rfl (by decide) ?_
        exact g_iret C rfl dX5_readPremises_50 (by
    obtain ⟨k, pl, hnn, q1, q2⟩ := nuQ_f hq (by omega) h46
    refine hΦ _ _ (f1.trans h1) ?_
    rw [← hR5, show pm5 (mA S 2) tn th (nI qv) (n + 1) nd p = .inl (k, pl) from (if_pos h17).trans (by rw [say_1 hnn])]
    exact ⟨rfl, q1, q2⟩)

set_option maxHeartbeats 4000000 in
set_option maxRecDepth 20000 in
theorem ok_X5_readPremises (S : Mem) (hR : Rs S) (tn : Nat) (hX : Tx (mA S 2) tn) (g : Nat → Int32) (h1 : g 1 = nI tn) (p : Nat) (hp : g 2 = nI p) (hpt : p ≤ tn) (dr : Nat) (hdr : 16 ≤ dr) (hK : TwK S dr) (th : Nat) (hth : 1 ≤ th) (hth8 : th ≤ 8) (h3 : mI S dr 3 = nI th) (qv : Nat) (hqv : qv < 16) : Ok yX5_readPremises cX5_readPremises 6 (some .int) 2 0 0 [.ref 1, .ref dr, .int (nI qv)] (uS S g) (RX (fun v S2 => ∃ g2, S2 = uS S g2 ∧ g2 1 = nI tn ∧ pq5 g g2 (pm5 (mA S 2) tn th (nI qv) 3 0 p) v)) := by
  refine Ok.of (by decide) (Nat.le_of_ble_eq_true rfl) rfl (fun κ C hx => ?_)
  have C : Cx RX5 cX5_readPremises 6 (some .int) 2 false _ κ := C
  refine g_iconst (v := 0) C dX5_readPremises_0 rfl (by decide) ?_
  refine g_istore_3 C rfl dX5_readPremises_1 rfl ?_
  refine g_iconst (v := 0) C dX5_readPremises_2 rfl (by decide) ?_
  refine g_istore_4 C rfl dX5_readPremises_3 rfl ?_
  exact lp_X5_pm C S hR tn hX dr hdr hK th hth hth8 h3 qv hqv g _ (fun v g2 f1 hq => ⟨v, rfl, g2, rfl, f1, hq⟩) 3 p 0 g _ (by decide) hpt h1 hp rfl rfl (by decide) rfl

def ruR5 (tx : Nat → Int32) (tn : Nat) (t : Tau) : (Nat × Nat) ⊕ Tau := match t with
  | (p, th, nr, co, cn, nd, se) => match numR tx tn 0 99 p with
    | .inl f => .inl f
    | .inr (_, e, c) => match numR tx tn 0 (2 * th - 1) e with
      | .inl f => .inl f
      | .inr (_, e2, v) => bnd5 tx tn (fun e4 m => (e4, th, nr + 1, upd co nr (nI c), upd cn nr (nI v), upd nd nr m, se)) (pm5 tx tn th (nI v) 3 0 e2)
section RUR
variable {tx : Nat → Int32} {tn p th nr : Nat} {co cn nd : Nat → Int32} {se : Int32}
theorem rur_1 {f : Nat × Nat} (h : numR tx tn 0 99 p = .inl f) : ruR5 tx tn (p, th, nr, co, cn, nd, se) = .inl f := by unfold ruR5; dsimp only; rw [h]
theorem rur_2 {a e c : Nat} {f : Nat × Nat} (h : numR tx tn 0 99 p = .inr (a, e, c)) (h2 : numR tx tn 0 (2 * th - 1) e = .inl f) : ruR5 tx tn (p, th, nr, co, cn, nd, se) = .inl f := by
  unfold ruR5
  dsimp only
  rw [h]
  show (match numR tx tn 0 (2 * th - 1) e with | .inl f => _ | .inr (_, e2, v) => _) = _
  rw [h2]
theorem rur_3 {a e c a2 e2 v : Nat} (h : numR tx tn 0 99 p = .inr (a, e, c)) (h2 : numR tx tn 0 (2 * th - 1) e = .inr (a2, e2, v)) : ruR5 tx tn (p, th, nr, co, cn, nd, se) = bnd5 tx tn (fun e4 m => (e4, th, nr + 1, upd co nr (nI c), upd cn nr (nI v), upd nd nr m, se)) (pm5 tx tn th (nI v) 3 0 e2) := by
  unfold ruR5
  dsimp only
  rw [h]
  show (match numR tx tn 0 (2 * th - 1) e with | .inl f => _ | .inr (_, e2, v) => _) = _
  rw [h2]
theorem rur_cla (hc : chr9 tx tn (skp tx tn p) = 114) (ht : ¬ th = 0) (hn : ¬ nr = 10) : claR tx tn (p, th, nr, co, cn, nd, se) = ruR5 tx tn (skp tx tn p + 1, th, nr, co, cn, nd, se) := by
  have h8 : ¬ chr9 tx tn (skp tx tn p) = 116 := by rw [hc]; decide
  cases h : numR tx tn 0 99 (skp tx tn p + 1) with
  | inl f => obtain ⟨k, pl⟩ := f; rw [rur_1 h, cla_rf h8 ht hc hn (rul_1 h)]
  | inr f =>
    obtain ⟨a, e, c⟩ := f
    cases h2 : numR tx tn 0 (2 * th - 1) e with
    | inl f => obtain ⟨k, pl⟩ := f; rw [rur_2 h h2, cla_rf h8 ht hc hn (rul_2 h (by rw [sayR_0]; exact h2))]
    | inr f =>
      obtain ⟨a2, e2, v⟩ := f
      rw [rur_3 h h2, pm5_eq]
      have h3 := rul_3 h (show sayR tx tn th 0 e = .inr (a2, e2, v) by rw [sayR_0]; exact h2)
      cases hp : pmR tx tn th (nI v) 3 0 e2 with
      | inl f => obtain ⟨k, pl⟩ := f; rw [hp] at h3; rw [cla_rf h8 ht hc hn h3]; rfl
      | inr f =>
        obtain ⟨e3, m⟩ := f
        rw [hp] at h3
        cases he : endR tx tn e3 with
        | inl f => rw [cla_re h8 ht hc hn h3 he, bnd_n he]
        | inr e4 => rw [cla_ro h8 ht hc hn h3 he, bnd_o he]
theorem ser_cla (hc : chr9 tx tn (skp tx tn p) = 115) (ht : ¬ th = 0) : claR tx tn (p, th, nr, co, cn, nd, se) = seR tx tn (skp tx tn p + 1, th, nr, co, cn, nd, se) := by
  have h8 : ¬ chr9 tx tn (skp tx tn p) = 116 := by rw [hc]; decide
  have h9 : ¬ chr9 tx tn (skp tx tn p) = 114 := by rw [hc]; decide
  cases h : sayR tx tn th se (skp tx tn p + 1) with
  | inl f => rw [ser_f h, cla_sf h8 ht h9 hc h]
  | inr f =>
    obtain ⟨a, e, v⟩ := f
    cases he : endR tx tn e with
    | inl f => rw [ser_e h he, cla_se h8 ht h9 hc h he]
    | inr e4 => rw [ser_o h he, cla_so h8 ht h9 hc h he]
end RUR
theorem uS_arS (S : Mem) (g : Nat → Int32) {dr : Nat} (h : dr ≠ 1) (nr : Nat) (a b c : Int32) : arS (uS S g) dr nr a b c = uS (arS S dr nr a b c) g := uS_sIn (sA (sA (sA S (dr + 1) nr a) (dr + 2) nr b) (dr + 3) nr c) g 4 _ h
theorem arS_1 (S : Mem) (dr nr : Nat) (a b c : Int32) : mA (arS S dr nr a b c) (dr + 1) = upd (mA S (dr + 1)) nr a := (mA_sAne _ _ _ _ (by omega)).trans ((mA_sAne _ _ _ _ (by omega)).trans mA_sA_row)
theorem arS_2 (S : Mem) (dr nr : Nat) (a b c : Int32) : mA (arS S dr nr a b c) (dr + 2) = upd (mA S (dr + 2)) nr b := (mA_sAne _ _ _ _ (by omega)).trans (mA_sA_row.trans (by rw [mA_sAne _ _ _ _ (by omega)]))
theorem arS_3 (S : Mem) (dr nr : Nat) (a b c : Int32) : mA (arS S dr nr a b c) (dr + 3) = upd (mA S (dr + 3)) nr c := mA_sA_row.trans (by rw [mA_sAne _ _ _ _ (by omega), mA_sAne _ _ _ _ (by omega)])
set_option maxHeartbeats 4000000 in
set_option maxRecDepth 20000 in
theorem ok_X5_readRule (S : Mem) (hR : Rs S) (tn : Nat) (hX : Tx (mA S 2) tn) (g : Nat → Int32) (h1 : g 1 = nI tn) (p : Nat) (hp : g 2 = nI p) (hpt : p ≤ tn) (dr : Nat) (hdr : 16 ≤ dr) (hK : TwK S dr) (th nr : Nat) (hth : 1 ≤ th) (hth8 : th ≤ 8) (h3 : mI S dr 3 = nI th) (h4 : mI S dr 4 = nI nr) (h9 : nr ≤ 9) : Ok yX5_readRule cX5_readRule 5 none 3 0 0 [.ref 1, .ref dr] (uS S g) (RW (clP S dr g (ruR5 (mA S 2) tn (p, th, nr, mA S (dr + 1), mA S (dr + 2), mA S (dr + 3), mI S dr 5)))) := by
  have h240 := hX.1
  refine Ok.of (by decide) (Nat.le_of_ble_eq_true rfl) rfl (fun κ C hx => ?_)
  have C : Cx RX5 cX5_readRule 5 none 3 false _ κ := C
  refine g_aload_0 C dX5_readRule_0 rfl ?_
  refine g_iconst (v := 0) C dX5_readRule_1 rfl (by decide) ?_
  refine g_bipush (v := 99) C dX5_readRule_2 rfl (by decide) ?_
  refine g_cV2x C dX5_readRule_4 rfl ml_X5_51 mz_X5_number (ok_X5_number 0 99 (by decide) (by decide) S hR tn hX g h1 p hp hpt) (by decide) rfl rfl rfl rfl (Nat.le_of_ble_eq_true rfl) (fun v4 S4 hp4 hn4 => ?_)
  obtain ⟨g2, rfl, f1, hq⟩ := hp4
  refine g_istore_2 C rfl dX5_readRule_7 rfl ?_
  refine g_iload_2 C dX5_readRule_8 rfl ?_
  refine g_iconst (v := -1) C dX5_readRule_9 rfl (by decide) ?_
  refine g_icmp_ne (tgt := 14) C dX5_readRule_10 rfl (by decide) (fun h10 => ?_) (fun h10 => ?_)
  · skip
    obtain ⟨a9, e, c9, hn, rfl, q2, q3, q4, q5⟩ := nuQ_g hq h10
    have hb := numR_inr hpt hn
    refine g_aload_0 C dX5_readRule_14 rfl ?_
    refine g_iconst (v := 0) C dX5_readRule_15 rfl (by decide) ?_
    refine g_aload_1 C dX5_readRule_16 rfl ?_
    refine g_cD0i C dX5_readRule_17 rfl ml_X5_72 mz_X4_sayings (ok_X4_sayings dr _ hK) (by decide) rfl rfl hK.1 (by decide) rfl (Nat.le_of_ble_eq_true rfl) (fun hn17 => ?_)
    refine g_iconst (v := 1) C dX5_readRule_20 rfl (by decide) ?_
    refine g_isub C dX5_readRule_21 rfl ?_
    rw [uS_ne S _ (dr_1 hdr), h3, i_2th1 hth]
    refine g_cV2x C dX5_readRule_22 rfl ml_X5_51 mz_X5_number (ok_X5_number 0 (2 * th - 1) (by decide) (by omega) S hR tn hX g2 (f1.trans h1) e q2 hb.2.2.1) (by decide) rfl rfl rfl rfl (Nat.le_of_ble_eq_true rfl) (fun v22 S22 hp22 hn22 => ?_)
    obtain ⟨g3, rfl, k1, hq3⟩ := hp22
    refine g_istore_3 C rfl dX5_readRule_25 rfl ?_
    refine g_iload_3 C dX5_readRule_26 rfl ?_
    refine g_iconst (v := -1) C dX5_readRule_27 rfl (by decide) ?_
    refine g_icmp_ne (tgt := 32) C dX5_readRule_28 rfl (by decide) (fun h28 => ?_) (fun h28 => ?_)
    · skip
      obtain ⟨a8, e2, qv, hn2, rfl, r2, r3, r4, r5⟩ := nuQ_g hq3 h28
      have hb2 := numR_inr hb.2.2.1 hn2
      refine g_aload_0 C dX5_readRule_32 rfl ?_
      refine g_aload_1 C dX5_readRule_33 rfl ?_
      refine g_iload_3 C dX5_readRule_34 rfl ?_
      refine g_cV2x C dX5_readRule_35 rfl ml_X5_75 mz_X5_readPremises (ok_X5_readPremises S hR tn hX g3 (k1.trans (f1.trans h1)) e2 r2 hb2.2.2.1 dr hdr hK th hth hth8 h3 qv (by omega)) (by decide) rfl rfl rfl rfl (Nat.le_of_ble_eq_true rfl) (fun v35 S35 hp35 hn35 => ?_)
      obtain ⟨g4, rfl, j1, hq4⟩ := hp35
      generalize hpm : pm5 (mA S 2) tn th (nI qv) 3 0 e2 = R5 at hq4
      refine g_istore_4 C rfl dX5_readRule_38 rfl ?_
      refine g_iload_4 C dX5_readRule_40 rfl ?_
      refine g_iconst (v := -1) C dX5_readRule_42 rfl (by decide) ?_
      refine g_icmp_eq (tgt := 63) C dX5_readRule_43 rfl (by decide) (fun h43 => ?_) (fun h43 => ?_)
      · skip
        exact g_vret C rfl dX5_readRule_63 ⟨rfl, S, g4, rfl, Fdr.refl _ _, j1.trans h1.symm, by
          cases R5 with
          | inl f => obtain ⟨k, pl⟩ := f; rw [rur_3 hn hn2, hpm]; exact ⟨hq4.2.1, hq4.2.2⟩
          | inr f => obtain ⟨e3, m3⟩ := f; exact absurd h43 hq4.1.2⟩
      · skip
        cases R5 with
        | inl f => obtain ⟨k, pl⟩ := f; exact absurd hq4.1 h43
        | inr f =>
          obtain ⟨e3, m3⟩ := f
          have h35e : v35 = m3 := hq4.1.1
          subst h35e
          have hb3 : e3 ≤ tn := pm5_le hth _ _ _ _ _ hb2.2.2.1 hpm
          refine g_aload_0 C dX5_readRule_46 rfl ?_
          refine g_bipush (v := 59) C dX5_readRule_47 rfl (by decide) ?_
          refine g_cV1i C dX5_readRule_49 rfl ml_X5_47 mz_X5_take (ok_X5_take 59 S hR tn hX g4 j1 e3 hq4.2.1 hb3) (by decide) rfl rfl rfl rfl (Nat.le_of_ble_eq_true rfl) (fun hn49 => ?_)
          refine g_if_eq (tgt := 63) C dX5_readRule_52 rfl (by decide) (fun h52 => ?_) (fun h52 => ?_)
          · skip
            exact g_vret C rfl dX5_readRule_63 ⟨rfl, S, _, rfl, Fdr.refl _ _, tkG_1.trans (j1.trans h1.symm), by
            have hc2 : ¬ chr9 (mA S 2) tn (skp (mA S 2) tn e3) = 59 := of_decide_eq_false ((bI_0 _).mp h52)
            rw [rur_3 hn hn2, hpm, tkG_n hc2, bnd_n (end_no hc2)]
            exact ⟨rfl, upd_at _ _ _⟩⟩
          · skip
            refine g_aload_1 C dX5_readRule_55 rfl ?_
            refine g_iload_2 C dX5_readRule_56 rfl ?_
            refine g_iload_3 C dX5_readRule_57 rfl ?_
            refine g_iload_4 C dX5_readRule_58 rfl ?_
            refine g_cD3v C dX5_readRule_60 rfl ml_X5_79 mz_X4_addRule (ok_X4_addRule _ _ _ dr (uS S (tkG (mA S 2) tn e3 59 g4)) hK nr (by rw [uS_ne S _ (dr_1 hdr)]; exact h4) h9) (by decide) rfl rfl hK.1 (by decide) rfl (Nat.le_of_ble_eq_true rfl) (fun hn60 => ?_)
            rw [uS_arS _ _ (dr_1 hdr)]
            exact g_vret C rfl dX5_readRule_63 ⟨rfl, _, _, rfl, Fdr.ar _ _ _ _ _ _, tkG_1.trans (j1.trans h1.symm), by
            have hc2 : chr9 (mA S 2) tn (skp (mA S 2) tn e3) = 59 := decide_eq_true_eq.mp (bi_t h52)
            rw [rur_3 hn hn2, hpm, tkG_y hc2, bnd_o (end_ok hc2)]
            exact ⟨upd_at _ _ _, hq4.2.2.1.trans (r4.trans q4), hq4.2.2.2.trans (r5.trans q5), (u2_nj _ _ _ (by decide)).trans h3, u2_at _ _ _ _, u2_nj _ _ _ (by decide), arS_1 _ _ _ _ _ _, arS_2 _ _ _ _ _ _, arS_3 _ _ _ _ _ _⟩⟩
    · skip
      exact g_vret C rfl dX5_readRule_31 ⟨rfl, S, g3, rfl, Fdr.refl _ _, k1.trans f1, by
        obtain ⟨k, pl, hn2, r1, r2⟩ := nuQ_f hq3 (by omega) h28
        rw [rur_2 hn hn2]
        exact ⟨r1, r2⟩⟩
  · skip
    exact g_vret C rfl dX5_readRule_13 ⟨rfl, S, g2, rfl, Fdr.refl _ _, f1, by
    obtain ⟨k, pl, hn, q1, q2⟩ := nuQ_f hq (by decide) h10
    rw [rur_1 hn]
    exact ⟨q1, q2⟩⟩

