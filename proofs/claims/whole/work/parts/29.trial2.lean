theorem or0 (x : Int32) : x ||| 0 = x := b_ext (fun i hi => by rw [b_or, b_0, Bool.or_false])
noncomputable def tnC (S : Mem) (t z nr : Nat) (s : Int32) (r : Nat) : Bool := !hasB (clo nr (mA S (t + 2)) (mA S (t + 3)) ((mI S z 2) &&& (one (nI r) ^^^ (-1))) (mI S z 1)) s
set_option maxHeartbeats 4000000 in
set_option maxRecDepth 20000 in
theorem lp_X6_neededRules {κ : Kx} {Φ : Option Value → Mem → Prop} (C : Cx RX6 cX6_neededRules 4 (some .int) 3 false Φ κ) (z t : Nat) (S : Mem) (hZ : mK S z = 6) (hZt : mR S z 0 = some t) (hW : TwK S t) (nr : Nat) (hnr : mI S t 4 = nI nr) (hT : Tn nr (mA S (t + 2))) (s : Int32) (hΦ : Φ (some (.int (orF (tnC S t z nr s) (fun r => one (nI r)) nr))) S) : ∀ (n k : Nat), k ≤ nr → nr + 1 ≤ k + n → G κ 0 0 S 18 [.ref z, .int s, .int (orF (tnC S t z nr s) (fun r => one (nI r)) k), .int (nI k)] [] := by
  have h10 := hT.1
  intro n
  induction n with
  | zero => intro k h1 h2; exact absurd h2 (by omega)
  | succ n ih =>
    intro k hk1 hk2
    refine g_iload_3 C dX6_neededRules_18 rfl ?_
    refine g_aload_0 C dX6_neededRules_19 rfl ?_
    refine g_getrD C 0 dX6_neededRules_20 rfl hZ (by decide) (by decide) rfl fl_X6_9 hZt ?_
    refine g_getiD C 4 dX6_neededRules_23 rfl hW.1 (by decide) (by decide) rfl fl_X6_68 ?_
    rw [hnr]
    refine g_icmp_ge (tgt := 58) C dX6_neededRules_26 rfl (by decide) (fun h26 => ?_) (fun h26 => ?_)
    · skip
      have hk : k = nr := by have := n_ge (b := nr) h26 (by omega) (by omega); omega
      rw [hk]
      refine g_iload_2 C dX6_neededRules_58 rfl ?_
      exact g_iret C rfl dX6_neededRules_59 hΦ
    · skip
      refine g_aload_0 C dX6_neededRules_29 rfl ?_
      refine g_aload_0 C dX6_neededRules_30 rfl ?_
      refine g_getiD C 2 dX6_neededRules_31 rfl hZ (by decide) (by decide) rfl fl_X6_19 ?_
      refine g_iload_3 C dX6_neededRules_34 rfl ?_
      refine g_iconst (v := 0) C dX6_neededRules_35 rfl (by decide) ?_
      refine g_cN3i C dX6_neededRules_36 rfl nl_X6_71 mz_X7_put (ok_X7_put _ _ _ S) (by decide) rfl rfl (Nat.le_of_ble_eq_true rfl) (fun hn36 => ?_)
      rw [show withI (mI S z 2) (nI k) 0 = mI S z 2 &&& (one (nI k) ^^^ (-1)) from if_pos rfl]
      refine g_iload_1 C dX6_neededRules_39 rfl ?_
      refine g_cD2i C dX6_neededRules_40 rfl ml_X6_32 mz_X6_concludesBy (ok_X6_concludesBy _ _ z t S hZ hZt hW nr hnr hT) (by decide) rfl rfl hZ (by decide) rfl (Nat.le_of_ble_eq_true rfl) (fun hn40 => ?_)
      refine g_if_ne (tgt := 52) C dX6_neededRules_43 rfl (by decide) (fun h43 => ?_) (fun h43 => ?_)
      · skip
        refine g_iinc_3 (z := 1) C rfl dX6_neededRules_52 rfl (by decide) ?_
        refine g_goto (tgt := 18) C dX6_neededRules_55 (by decide) ?_
        have hk : k < nr := n_lt (b := nr) h26 (by omega) (by omega)
        rw [nI_1]
        have e := orF_0 (c := tnC S t z nr s) (f := fun r => one (nI r)) (r := k) (by unfold tnC; rw [show hasB _ s = true from nf_t (fun q => h43 ((bI_0 _).mpr q))]; rfl)
        have := ih (k + 1) (by omega) (by omega)
        rw [e, or0] at this
        exact this
      · skip
        refine g_iload_2 C dX6_neededRules_46 rfl ?_
        refine g_iconst (v := 1) C dX6_neededRules_47 rfl (by decide) ?_
        refine g_iload_3 C dX6_neededRules_48 rfl ?_
        refine g_ishl C dX6_neededRules_49 rfl ?_
        refine g_ior C dX6_neededRules_50 rfl ?_
        refine g_istore_2 C rfl dX6_neededRules_51 rfl ?_
        refine g_iinc_3 (z := 1) C rfl dX6_neededRules_52 rfl (by decide) ?_
        refine g_goto (tgt := 18) C dX6_neededRules_55 (by decide) ?_
        have hk : k < nr := n_lt (b := nr) h26 (by omega) (by omega)
        rw [nI_1]
        have e := orF_1 (c := tnC S t z nr s) (f := fun r => one (nI r)) (r := k) (by unfold tnC; rw [show hasB _ s = false from (bI_0 _).mp h43]; rfl)
        have := ih (k + 1) (by omega) (by omega)
        rw [e] at this
        exact this

noncomputable def tnV (S : Mem) (t z nr : Nat) (s : Int32) : Int32 := if hasB (clo nr (mA S (t + 2)) (mA S (t + 3)) (mI S z 2) (mI S z 1)) s = true then orF (tnC S t z nr s) (fun r => one (nI r)) nr else 0
set_option maxHeartbeats 4000000 in
set_option maxRecDepth 20000 in
theorem ok_X6_neededRules (s : Int32) (z t : Nat) (S : Mem) (hZ : mK S z = 6) (hZt : mR S z 0 = some t) (hW : TwK S t) (nr : Nat) (hnr : mI S t 4 = nI nr) (hT : Tn nr (mA S (t + 2))) : Ok yX6_neededRules cX6_neededRules 4 (some .int) 3 0 0 [.ref z, .int s] S (RI (tnV S t z nr s) S) := by
  refine Ok.of (by decide) (Nat.le_of_ble_eq_true rfl) rfl (fun κ C hx => ?_)
  have C : Cx RX6 cX6_neededRules 4 (some .int) 3 false _ κ := C
  refine g_aload_0 C dX6_neededRules_0 rfl ?_
  refine g_aload_0 C dX6_neededRules_1 rfl ?_
  refine g_getiD C 2 dX6_neededRules_2 rfl hZ (by decide) (by decide) rfl fl_X6_19 ?_
  refine g_iload_1 C dX6_neededRules_5 rfl ?_
  refine g_cD2i C dX6_neededRules_6 rfl ml_X6_32 mz_X6_concludesBy (ok_X6_concludesBy _ _ z t S hZ hZt hW nr hnr hT) (by decide) rfl rfl hZ (by decide) rfl (Nat.le_of_ble_eq_true rfl) (fun hn6 => ?_)
  refine g_if_ne (tgt := 14) C dX6_neededRules_9 rfl (by decide) (fun h9 => ?_) (fun h9 => ?_)
  · skip
    refine g_iconst (v := 0) C dX6_neededRules_14 rfl (by decide) ?_
    refine g_istore_2 C rfl dX6_neededRules_15 rfl ?_
    refine g_iconst (v := 0) C dX6_neededRules_16 rfl (by decide) ?_
    refine g_istore_3 C rfl dX6_neededRules_17 rfl ?_
    have e : tnV S t z nr s = _ := if_pos (nf_t (fun q => h9 ((bI_0 _).mpr q)))
    exact lp_X6_neededRules C z t S hZ hZt hW nr hnr hT s ⟨by rw [e], rfl⟩ (nr + 1) 0 (Nat.zero_le _) (by omega)
  · skip
    refine g_iconst (v := 0) C dX6_neededRules_12 rfl (by decide) ?_
    exact g_iret C rfl dX6_neededRules_13 ⟨by unfold tnV; rw [if_neg (by rw [(bI_0 _).mp h9]; decide)], rfl⟩

noncomputable def rtC (S : Mem) (t z : Nat) (s so : Int32) (r : Nat) : Bool := hasB (mI S z 2) (nI r) && (decide (mA S (t + 2) r = s) && subB (mA S (t + 3) r) so)
def anyF (c : Nat → Bool) : Nat → Nat → Bool
  | 0, _ => false
  | n + 1, k => if c k = true then true else anyF c n (k + 1)
set_option maxHeartbeats 4000000 in
set_option maxRecDepth 20000 in
theorem lp_X6_returnsTo {κ : Kx} {Φ : Option Value → Mem → Prop} (C : Cx RX6 cX6_returnsTo 4 (some .boolean) 2 false Φ κ) (z t : Nat) (S : Mem) (hZ : mK S z = 6) (hZt : mR S z 0 = some t) (hW : TwK S t) (nr : Nat) (hnr : mI S t 4 = nI nr) (hT : Tn nr (mA S (t + 2))) (s so : Int32) : ∀ (n k : Nat), k + n = nr → Φ (some (.int (bI (anyF (rtC S t z s so) n k)))) S → G κ 0 0 S 17 [.ref z, .int s, .int so, .int (nI k)] [] := by
  have h10 := hT.1
  intro n
  induction n with
  | zero =>
    intro k hk hΦ
    refine g_iload_3 C dX6_returnsTo_17 rfl ?_
    refine g_aload_0 C dX6_returnsTo_18 rfl ?_
    refine g_getrD C 0 dX6_returnsTo_19 rfl hZ (by decide) (by decide) rfl fl_X6_9 hZt ?_
    refine g_getiD C 4 dX6_returnsTo_22 rfl hW.1 (by decide) (by decide) rfl fl_X6_68 ?_
    rw [hnr]
    refine g_icmp_ge (tgt := 76) C dX6_returnsTo_25 rfl (by decide) (fun h25 => ?_) (fun h25 => absurd (nI_le (a := nr) (b := k) (by omega) (by omega)) h25)
    refine g_iconst (v := 0) C dX6_returnsTo_76 rfl (by decide) ?_
    exact g_zret C rfl dX6_returnsTo_77 (by first | exact Or.inl rfl | exact Or.inr rfl | exact bI_01 _) hΦ
  | succ n ih =>
    intro k hk hΦ
    refine g_iload_3 C dX6_returnsTo_17 rfl ?_
    refine g_aload_0 C dX6_returnsTo_18 rfl ?_
    refine g_getrD C 0 dX6_returnsTo_19 rfl hZ (by decide) (by decide) rfl fl_X6_9 hZt ?_
    refine g_getiD C 4 dX6_returnsTo_22 rfl hW.1 (by decide) (by decide) rfl fl_X6_68 ?_
    rw [hnr]
    refine g_icmp_ge (tgt := 76) C dX6_returnsTo_25 rfl (by decide) (fun h25 => absurd h25 (nI_ge (a := k) (b := nr) (by omega) (by omega))) (fun h25 => ?_)
    refine g_aload_0 C dX6_returnsTo_28 rfl ?_
    refine g_getiD C 2 dX6_returnsTo_29 rfl hZ (by decide) (by decide) rfl fl_X6_19 ?_
    refine g_iload_3 C dX6_returnsTo_32 rfl ?_
    refine g_cN2i C dX6_returnsTo_33 rfl nl_X6_28 mz_X7_has (ok_X7_has _ _ S) (by decide) rfl rfl (Nat.le_of_ble_eq_true rfl) (fun hn33 => ?_)
    refine g_if_eq (tgt := 70) C dX6_returnsTo_36 rfl (by decide) (fun h36 => ?_) (fun h36 => ?_)
    · skip
      refine g_iinc_3 (z := 1) C rfl dX6_returnsTo_70 rfl (by decide) ?_
      refine g_goto (tgt := 17) C dX6_returnsTo_73 (by decide) ?_
      rw [nI_1]
      exact ih (k + 1) (by omega) (by rw [show anyF (rtC S t z s so) (n + 1) k = anyF (rtC S t z s so) n (k + 1) from if_neg (by rw [show (rtC S t z s so) k = false by unfold rtC; rw [(bI_0 _).mp h36, Bool.false_and]]; decide)] at hΦ; exact hΦ)
    · skip
      refine g_aload_0 C dX6_returnsTo_39 rfl ?_
      refine g_getrD C 0 dX6_returnsTo_40 rfl hZ (by decide) (by decide) rfl fl_X6_9 hZt ?_
      refine g_getrD C 1 dX6_returnsTo_43 rfl hW.1 (by decide) (by decide) rfl fl_X6_78 hW.2.2.1 ?_
      refine g_iload_3 C dX6_returnsTo_46 rfl ?_
      refine g_ialdD (N := 10) C dX6_returnsTo_47 rfl hW.2.2.2.2.2.1 (n_in (show k < 10 by omega) (by decide)) ?_
      rw [nI_clamp (show k < 2 ^ 31 by omega)]
      refine g_iload_1 C dX6_returnsTo_48 rfl ?_
      refine g_icmp_ne (tgt := 70) C dX6_returnsTo_49 rfl (by decide) (fun h49 => ?_) (fun h49 => ?_)
      · skip
        refine g_iinc_3 (z := 1) C rfl dX6_returnsTo_70 rfl (by decide) ?_
        refine g_goto (tgt := 17) C dX6_returnsTo_73 (by decide) ?_
        rw [nI_1]
        exact ih (k + 1) (by omega) (by rw [show anyF (rtC S t z s so) (n + 1) k = anyF (rtC S t z s so) n (k + 1) from if_neg (by rw [show (rtC S t z s so) k = false by unfold rtC; rw [decide_eq_false h49, Bool.false_and, Bool.and_false]]; decide)] at hΦ; exact hΦ)
      · skip
        refine g_aload_0 C dX6_returnsTo_52 rfl ?_
        refine g_getrD C 0 dX6_returnsTo_53 rfl hZ (by decide) (by decide) rfl fl_X6_9 hZt ?_
        refine g_getrD C 2 dX6_returnsTo_56 rfl hW.1 (by decide) (by decide) rfl fl_X6_82 hW.2.2.2.1 ?_
        refine g_iload_3 C dX6_returnsTo_59 rfl ?_
        refine g_ialdD (N := 10) C dX6_returnsTo_60 rfl hW.2.2.2.2.2.2 (n_in (show k < 10 by omega) (by decide)) ?_
        rw [nI_clamp (show k < 2 ^ 31 by omega)]
        refine g_iload_2 C dX6_returnsTo_61 rfl ?_
        refine g_iconst (v := -1) C dX6_returnsTo_62 rfl (by decide) ?_
        refine g_ixor C dX6_returnsTo_63 rfl ?_
        refine g_iand C dX6_returnsTo_64 rfl ?_
        refine g_if_ne (tgt := 70) C dX6_returnsTo_65 rfl (by decide) (fun h65 => ?_) (fun h65 => ?_)
        · skip
          refine g_iinc_3 (z := 1) C rfl dX6_returnsTo_70 rfl (by decide) ?_
          refine g_goto (tgt := 17) C dX6_returnsTo_73 (by decide) ?_
          rw [nI_1]
          exact ih (k + 1) (by omega) (by rw [show anyF (rtC S t z s so) (n + 1) k = anyF (rtC S t z s so) n (k + 1) from if_neg (by rw [show (rtC S t z s so) k = false by unfold rtC; rw [show subB (mA S (t + 3) k) so = false from @decide_eq_false _ (Classical.propDecidable _) h65, Bool.and_false, Bool.and_false]]; decide)] at hΦ; exact hΦ)
        · skip
          refine g_iconst (v := 1) C dX6_returnsTo_68 rfl (by decide) ?_
          exact g_zret C rfl dX6_returnsTo_69 (by first | exact Or.inl rfl | exact Or.inr rfl | exact bI_01 _) (by rw [show anyF (rtC S t z s so) (n + 1) k = true from if_pos (show (rtC S t z s so) k = true by unfold rtC; rw [(nf_t (fun q => h36 ((bI_0 _).mpr q))), decide_eq_true h49, show subB (mA S (t + 3) k) so = true from @decide_eq_true _ (Classical.propDecidable _) h65]; rfl)] at hΦ; exact hΦ)

noncomputable def rtB (S : Mem) (t z nr : Nat) (s : Int32) : Bool := anyF (rtC S t z s (clo nr (mA S (t + 2)) (mA S (t + 3)) (mI S z 2) (one s))) nr 0
set_option maxHeartbeats 4000000 in
set_option maxRecDepth 20000 in
theorem ok_X6_returnsTo (s : Int32) (z t : Nat) (S : Mem) (hZ : mK S z = 6) (hZt : mR S z 0 = some t) (hW : TwK S t) (nr : Nat) (hnr : mI S t 4 = nI nr) (hT : Tn nr (mA S (t + 2))) : Ok yX6_returnsTo cX6_returnsTo 4 (some .boolean) 2 0 0 [.ref z, .int s] S (RI (bI (rtB S t z nr s)) S) := by
  refine Ok.of (by decide) (Nat.le_of_ble_eq_true rfl) rfl (fun κ C hx => ?_)
  have C : Cx RX6 cX6_returnsTo 4 (some .boolean) 2 false _ κ := C
  refine g_aload_0 C dX6_returnsTo_0 rfl ?_
  refine g_getrD C 0 dX6_returnsTo_1 rfl hZ (by decide) (by decide) rfl fl_X6_9 hZt ?_
  refine g_iconst (v := 1) C dX6_returnsTo_4 rfl (by decide) ?_
  refine g_iload_1 C dX6_returnsTo_5 rfl ?_
  refine g_ishl C dX6_returnsTo_6 rfl ?_
  refine g_aload_0 C dX6_returnsTo_7 rfl ?_
  refine g_getiD C 2 dX6_returnsTo_8 rfl hZ (by decide) (by decide) rfl fl_X6_19 ?_
  refine g_cD2i C dX6_returnsTo_11 rfl ml_X6_22 mz_X4_closure (ok_X4_closure _ _ t S hW nr hnr hT) (by decide) rfl rfl hW.1 (by decide) rfl (Nat.le_of_ble_eq_true rfl) (fun hn11 => ?_)
  refine g_istore_2 C rfl dX6_returnsTo_14 rfl ?_
  refine g_iconst (v := 0) C dX6_returnsTo_15 rfl (by decide) ?_
  refine g_istore_3 C rfl dX6_returnsTo_16 rfl ?_
  exact lp_X6_returnsTo C z t S hZ hZt hW nr hnr hT s _ nr 0 (by omega) ⟨rfl, rfl⟩

set_option maxHeartbeats 4000000 in
set_option maxRecDepth 20000 in
theorem lp_X6_circles {κ : Kx} {Φ : Option Value → Mem → Prop} (C : Cx RX6 cX6_circles 3 (some .int) 3 false Φ κ) (z t : Nat) (S : Mem) (hZ : mK S z = 6) (hZt : mR S z 0 = some t) (hW : TwK S t) (nr : Nat) (hnr : mI S t 4 = nI nr) (hT : Tn nr (mA S (t + 2))) (th : Nat) (hth : mI S t 3 = nI th) (h8 : th ≤ 8) (hΦ : Φ (some (.int (orF (fun k => rtB S t z nr (nI k)) (fun r => one (nI r)) (2 * th)))) S) : ∀ (n k : Nat), k ≤ 2 * th → 2 * th + 1 ≤ k + n → G κ 0 0 S 4 [.ref z, .int (orF (fun k => rtB S t z nr (nI k)) (fun r => one (nI r)) k), .int (nI k)] [] := by
  intro n
  induction n with
  | zero => intro k h1 h2; exact absurd h2 (by omega)
  | succ n ih =>
    intro k hk1 hk2
    refine g_iload_2 C dX6_circles_4 rfl ?_
    refine g_aload_0 C dX6_circles_5 rfl ?_
    refine g_getrD C 0 dX6_circles_6 rfl hZ (by decide) (by decide) rfl fl_X6_9 hZt ?_
    refine g_cD0i C dX6_circles_9 rfl ml_X6_54 mz_X4_sayings (ok_X4_sayings t S hW) (by decide) rfl rfl hW.1 (by decide) rfl (Nat.le_of_ble_eq_true rfl) (fun hn9 => ?_)
    rw [hth, two_nI th (by omega)]
    refine g_icmp_ge (tgt := 39) C dX6_circles_12 rfl (by decide) (fun h12 => ?_) (fun h12 => ?_)
    · skip
      have hk : k = 2 * th := by have := n_ge (b := 2 * th) h12 (by omega) (by omega); omega
      rw [hk]
      refine g_iload_1 C dX6_circles_39 rfl ?_
      exact g_iret C rfl dX6_circles_40 hΦ
    · skip
      refine g_iload_1 C dX6_circles_15 rfl ?_
      refine g_aload_0 C dX6_circles_16 rfl ?_
      refine g_iload_2 C dX6_circles_17 rfl ?_
      refine g_cD1i C dX6_circles_18 rfl ml_X6_75 mz_X6_returnsTo (ok_X6_returnsTo _ z t S hZ hZt hW nr hnr hT) (by decide) rfl rfl hZ (by decide) rfl (Nat.le_of_ble_eq_true rfl) (fun hn18 => ?_)
      refine g_if_eq (tgt := 30) C dX6_circles_21 rfl (by decide) (fun h21 => ?_) (fun h21 => ?_)
      · skip
        refine g_iconst (v := 0) C dX6_circles_30 rfl (by decide) ?_
        refine g_ior C dX6_circles_31 rfl ?_
        refine g_istore_1 C rfl dX6_circles_32 rfl ?_
        refine g_iinc_2 (z := 1) C rfl dX6_circles_33 rfl (by decide) ?_
        refine g_goto (tgt := 4) C dX6_circles_36 (by decide) ?_
        have hk : k < 2 * th := n_lt (b := 2 * th) h12 (by omega) (by omega)
        rw [nI_1]
        have e := orF_0 (c := (fun k => rtB S t z nr (nI k))) (f := fun r => one (nI r)) (r := k) ((bI_0 _).mp h21)
        have := ih (k + 1) (by omega) (by omega)
        rw [e] at this
        exact this
      · skip
        refine g_iconst (v := 1) C dX6_circles_24 rfl (by decide) ?_
        refine g_iload_2 C dX6_circles_25 rfl ?_
        refine g_ishl C dX6_circles_26 rfl ?_
        refine g_goto (tgt := 31) C dX6_circles_27 (by decide) ?_
        refine g_ior C dX6_circles_31 rfl ?_
        refine g_istore_1 C rfl dX6_circles_32 rfl ?_
        refine g_iinc_2 (z := 1) C rfl dX6_circles_33 rfl (by decide) ?_
        refine g_goto (tgt := 4) C dX6_circles_36 (by decide) ?_
        have hk : k < 2 * th := n_lt (b := 2 * th) h12 (by omega) (by omega)
        rw [nI_1]
        have e := orF_1 (c := (fun k => rtB S t z nr (nI k))) (f := fun r => one (nI r)) (r := k) (nf_t (fun q => h21 ((bI_0 _).mpr q)))
        have := ih (k + 1) (by omega) (by omega)
        rw [e] at this
        exact this

set_option maxHeartbeats 4000000 in
set_option maxRecDepth 20000 in
theorem ok_X6_circles (z t : Nat) (S : Mem) (hZ : mK S z = 6) (hZt : mR S z 0 = some t) (hW : TwK S t) (nr : Nat) (hnr : mI S t 4 = nI nr) (hT : Tn nr (mA S (t + 2))) (th : Nat) (hth : mI S t 3 = nI th) (h8 : th ≤ 8) : Ok yX6_circles cX6_circles 3 (some .int) 3 0 0 [.ref z] S (RI (orF (fun k => rtB S t z nr (nI k)) (fun r => one (nI r)) (2 * th)) S) := by
  refine Ok.of (by decide) (Nat.le_of_ble_eq_true rfl) rfl (fun κ C hx => ?_)
  have C : Cx RX6 cX6_circles 3 (some .int) 3 false _ κ := C
  refine g_iconst (v := 0) C dX6_circles_0 rfl (by decide) ?_
  refine g_istore_1 C rfl dX6_circles_1 rfl ?_
  refine g_iconst (v := 0) C dX6_circles_2 rfl (by decide) ?_
  refine g_istore_2 C rfl dX6_circles_3 rfl ?_
  exact lp_X6_circles C z t S hZ hZt hW nr hnr hT th hth h8 ⟨rfl, rfl⟩ (2 * th + 1) 0 (Nat.zero_le _) (by omega)

def fstF (f : Nat → Int32) : Nat → Nat → Int32
  | 0, _ => -1
  | n + 1, k => if f k = -1 then fstF f n (k + 1) else f k
def lwR (Q : Int32 → Bool) (s : Int32) : Nat → Nat → Int32 → Int32
  | 0, _, ch => if Q ch = true then ch else -1
  | c + 1, b, ch => fstF (fun w => if nI w = s ∨ nI w = s ^^^ 1 then -1 else lwR Q s c w (ch ||| one (nI w))) (b - c) c
theorem pos3 : ∀ c, c ≤ 2 → 0 < nI (c + 1) := by decide
set_option maxHeartbeats 4000000 in
set_option maxRecDepth 20000 in
theorem lp_X6_leastWords {κ : Kx} {c : Nat} {Φ : Option Value → Mem → Prop} (C : Cx RX6 cX6_leastWords 7 (some .int) (3 + (c + 1)) false Φ κ) (z t : Nat) (S : Mem) (hZ : mK S z = 6) (hZt : mR S z 0 = some t) (hW : TwK S t) (nr : Nat) (hnr : mI S t 4 = nI nr) (hT : Tn nr (mA S (t + 2))) (th : Nat) (hth : mI S t 3 = nI th) (h8 : th ≤ 8) (s : Int32) (hc : c ≤ 2) (hrec : ∀ (b : Nat) (ch : Int32), b ≤ 16 → Ok yX6_leastWords cX6_leastWords 7 (some .int) (3 + c) 0 0 [.ref z, .int s, .int (nI c), .int (nI b), .int ch] S (RI (lwR (btB S t z nr th s) s c b ch) S)) (b : Nat) (hb : b ≤ 16) (ch : Int32) : ∀ (n k : Nat) (v6 : Value), (k + n = b ∨ (n = 0 ∧ b ≤ k ∧ k ≤ 2)) → Φ (some (.int (fstF (fun w => if nI w = s ∨ nI w = s ^^^ 1 then -1 else lwR (btB S t z nr th s) s c w (ch ||| one (nI w))) n k))) S → G κ 0 0 S 26 [.ref z, .int s, .int (nI (c + 1)), .int (nI b), .int ch, .int (nI k), v6] [] := by
  intro n
  induction n with
  | zero =>
    intro k v6 hk hΦ
    refine g_iload_5 C dX6_leastWords_26 rfl ?_
    refine g_iload_3 C dX6_leastWords_28 rfl ?_
    refine g_icmp_ge (tgt := 81) C dX6_leastWords_29 rfl (by decide) (fun h29 => ?_) (fun h29 => absurd (nI_le (a := b) (b := k) (by omega) (by omega)) h29)
    refine g_iconst (v := -1) C dX6_leastWords_81 rfl (by decide) ?_
    exact g_iret C rfl dX6_leastWords_82 hΦ
  | succ n ih =>
    intro k v6 hk hΦ
    have hkb : k < b := by omega
    refine g_iload_5 C dX6_leastWords_26 rfl ?_
    refine g_iload_3 C dX6_leastWords_28 rfl ?_
    refine g_icmp_ge (tgt := 81) C dX6_leastWords_29 rfl (by decide) (fun h29 => absurd h29 (nI_ge (a := k) (b := b) (by omega) (by omega))) (fun h29 => ?_)
    refine g_iload_5 C dX6_leastWords_32 rfl ?_
    refine g_iload_1 C dX6_leastWords_34 rfl ?_
    refine g_icmp_eq (tgt := 75) C dX6_leastWords_35 rfl (by decide) (fun h35 => ?_) (fun h35 => ?_)
    · skip
      refine g_iinc_5 (z := 1) C rfl dX6_leastWords_75 rfl (by decide) ?_
      refine g_goto (tgt := 26) C dX6_leastWords_78 (by decide) ?_
      rw [nI_1]
      exact ih (k + 1) _ (by omega) (by rw [show fstF (fun w => if nI w = s ∨ nI w = s ^^^ 1 then -1 else lwR (btB S t z nr th s) s c w (ch ||| one (nI w))) (n + 1) k = fstF (fun w => if nI w = s ∨ nI w = s ^^^ 1 then -1 else lwR (btB S t z nr th s) s c w (ch ||| one (nI w))) n (k + 1) from if_pos (show (fun w => if nI w = s ∨ nI w = s ^^^ 1 then -1 else lwR (btB S t z nr th s) s c w (ch ||| one (nI w))) k = -1 from if_pos (Or.inl h35))] at hΦ; exact hΦ)
    · skip
      refine g_iload_5 C dX6_leastWords_38 rfl ?_
      refine g_iload_1 C dX6_leastWords_40 rfl ?_
      refine g_cN1i C dX6_leastWords_41 rfl nl_X6_65 mz_X7_denialOf (ok_X7_denialOf _ S) (by omega) rfl rfl (Nat.le_of_ble_eq_true rfl) (fun hn41 => ?_)
      refine g_icmp_eq (tgt := 75) C dX6_leastWords_44 rfl (by decide) (fun h44 => ?_) (fun h44 => ?_)
      · skip
        refine g_iinc_5 (z := 1) C rfl dX6_leastWords_75 rfl (by decide) ?_
        refine g_goto (tgt := 26) C dX6_leastWords_78 (by decide) ?_
        rw [nI_1]
        exact ih (k + 1) _ (by omega) (by rw [show fstF (fun w => if nI w = s ∨ nI w = s ^^^ 1 then -1 else lwR (btB S t z nr th s) s c w (ch ||| one (nI w))) (n + 1) k = fstF (fun w => if nI w = s ∨ nI w = s ^^^ 1 then -1 else lwR (btB S t z nr th s) s c w (ch ||| one (nI w))) n (k + 1) from if_pos (show (fun w => if nI w = s ∨ nI w = s ^^^ 1 then -1 else lwR (btB S t z nr th s) s c w (ch ||| one (nI w))) k = -1 from if_pos (Or.inr h44))] at hΦ; exact hΦ)
      · skip
        refine g_aload_0 C dX6_leastWords_47 rfl ?_
        refine g_iload_1 C dX6_leastWords_48 rfl ?_
        refine g_iload_2 C dX6_leastWords_49 rfl ?_
        refine g_iconst (v := 1) C dX6_leastWords_50 rfl (by decide) ?_
        refine g_isub C dX6_leastWords_51 rfl ?_
        rw [i_min1 (k := c + 1) (by omega), Nat.add_sub_cancel]
        refine g_iload_5 C dX6_leastWords_52 rfl ?_
        refine g_iload_4 C dX6_leastWords_54 rfl ?_
        refine g_iconst (v := 1) C dX6_leastWords_56 rfl (by decide) ?_
        refine g_iload_5 C dX6_leastWords_57 rfl ?_
        refine g_ishl C dX6_leastWords_59 rfl ?_
        refine g_ior C dX6_leastWords_60 rfl ?_
        refine g_cS5i C dX6_leastWords_61 rfl ml_X6_58 mz_X6_leastWords (hrec k _ (by omega)) (by omega) rfl rfl (Nat.le_of_ble_eq_true rfl) (fun hn61 => ?_)
        refine g_istore_6 C rfl dX6_leastWords_64 rfl ?_
        refine g_iload_6 C dX6_leastWords_66 rfl ?_
        refine g_iconst (v := -1) C dX6_leastWords_68 rfl (by decide) ?_
        refine g_icmp_eq (tgt := 75) C dX6_leastWords_69 rfl (by decide) (fun h69 => ?_) (fun h69 => ?_)
        · skip
          refine g_iinc_5 (z := 1) C rfl dX6_leastWords_75 rfl (by decide) ?_
          refine g_goto (tgt := 26) C dX6_leastWords_78 (by decide) ?_
          rw [nI_1]
          exact ih (k + 1) _ (by omega) (by rw [show fstF (fun w => if nI w = s ∨ nI w = s ^^^ 1 then -1 else lwR (btB S t z nr th s) s c w (ch ||| one (nI w))) (n + 1) k = fstF (fun w => if nI w = s ∨ nI w = s ^^^ 1 then -1 else lwR (btB S t z nr th s) s c w (ch ||| one (nI w))) n (k + 1) from if_pos (show (fun w => if nI w = s ∨ nI w = s ^^^ 1 then -1 else lwR (btB S t z nr th s) s c w (ch ||| one (nI w))) k = -1 from (if_neg (not_or.mpr ⟨h35, h44⟩)).trans h69)] at hΦ; exact hΦ)
        · skip
          refine g_iload_6 C dX6_leastWords_72 rfl ?_
          exact g_iret C rfl dX6_leastWords_74 (by rw [show fstF (fun w => if nI w = s ∨ nI w = s ^^^ 1 then -1 else lwR (btB S t z nr th s) s c w (ch ||| one (nI w))) (n + 1) k = lwR (btB S t z nr th s) s c k (ch ||| one (nI k)) from (if_neg (by rw [show (fun w => if nI w = s ∨ nI w = s ^^^ 1 then -1 else lwR (btB S t z nr th s) s c w (ch ||| one (nI w))) k = _ from if_neg (not_or.mpr ⟨h35, h44⟩)]; exact h69)).trans (if_neg (not_or.mpr ⟨h35, h44⟩))] at hΦ; exact hΦ)

set_option maxHeartbeats 4000000 in
set_option maxRecDepth 20000 in
theorem ok_X6_leastWords (z t : Nat) (S : Mem) (hZ : mK S z = 6) (hZt : mR S z 0 = some t) (hW : TwK S t) (nr : Nat) (hnr : mI S t 4 = nI nr) (hT : Tn nr (mA S (t + 2))) (th : Nat) (hth : mI S t 3 = nI th) (h8 : th ≤ 8) (s : Int32) : ∀ (c : Nat), c ≤ 3 → ∀ (b : Nat) (ch : Int32), b ≤ 16 → Ok yX6_leastWords cX6_leastWords 7 (some .int) (3 + c) 0 0 [.ref z, .int s, .int (nI c), .int (nI b), .int ch] S (RI (lwR (btB S t z nr th s) s c b ch) S) := by
  intro c
  induction c with
  | zero =>
    intro _ b ch hb
    refine Ok.of (by decide) (Nat.le_of_ble_eq_true rfl) rfl (fun κ C hx => ?_)
    have C : Cx RX6 cX6_leastWords 7 (some .int) (3 + 0) false _ κ := C
    refine g_iload_2 C dX6_leastWords_0 rfl ?_
    refine g_if_gt (tgt := 21) C dX6_leastWords_1 rfl (by decide) (fun h1 => absurd h1 (by decide)) (fun h1 => ?_)
    refine g_aload_0 C dX6_leastWords_4 rfl ?_
    refine g_iload_1 C dX6_leastWords_5 rfl ?_
    refine g_iload_4 C dX6_leastWords_6 rfl ?_
    refine g_cD2i C dX6_leastWords_8 rfl ml_X6_62 mz_X6_bringTo (ok_X6_bringTo _ _ z t S hZ hZt hW nr hnr hT th hth h8) (by decide) rfl rfl hZ (by decide) rfl (Nat.le_of_ble_eq_true rfl) (fun hn8 => ?_)
    refine g_if_eq (tgt := 19) C dX6_leastWords_11 rfl (by decide) (fun h11 => ?_) (fun h11 => ?_)
    · skip
      refine g_iconst (v := -1) C dX6_leastWords_19 rfl (by decide) ?_
      exact g_iret C rfl dX6_leastWords_20 ⟨by rw [show lwR (btB S t z nr th s) s 0 b ch = -1 from if_neg (by rw [(bI_0 _).mp h11]; decide)], rfl⟩
    · skip
      refine g_iload_4 C dX6_leastWords_14 rfl ?_
      refine g_goto (tgt := 20) C dX6_leastWords_16 (by decide) ?_
      exact g_iret C rfl dX6_leastWords_20 ⟨by rw [show lwR (btB S t z nr th s) s 0 b ch = ch from if_pos (nf_t (fun q => h11 ((bI_0 _).mpr q)))], rfl⟩
  | succ c ihc =>
    intro hc b ch hb
    have hrec := ihc (by omega)
    refine Ok.of (by decide) (Nat.le_of_ble_eq_true rfl) rfl (fun κ C hx => ?_)
    have C : Cx RX6 cX6_leastWords 7 (some .int) (3 + (c + 1)) false _ κ := C
    refine g_iload_2 C dX6_leastWords_0 rfl ?_
    refine g_if_gt (tgt := 21) C dX6_leastWords_1 rfl (by decide) (fun h1 => ?_) (fun h1 => absurd (pos3 c (by omega)) h1)
    refine g_iload_2 C dX6_leastWords_21 rfl ?_
    refine g_iconst (v := 1) C dX6_leastWords_22 rfl (by decide) ?_
    refine g_isub C dX6_leastWords_23 rfl ?_
    rw [i_min1 (k := c + 1) (by omega), Nat.add_sub_cancel]
    refine g_istore_5 C rfl dX6_leastWords_24 rfl ?_
    exact lp_X6_leastWords C z t S hZ hZt hW nr hnr hT th hth h8 s (by omega) hrec b hb ch (b - c) c _ (by omega) ⟨rfl, rfl⟩

set_option maxHeartbeats 4000000 in
set_option maxRecDepth 20000 in
theorem lp_X6_fewestWords {κ : Kx} {Φ : Option Value → Mem → Prop} (C : Cx RX6 cX6_fewestWords 4 (some .int) 7 false Φ κ) (z t : Nat) (S : Mem) (hZ : mK S z = 6) (hZt : mR S z 0 = some t) (hW : TwK S t) (nr : Nat) (hnr : mI S t 4 = nI nr) (hT : Tn nr (mA S (t + 2))) (th : Nat) (hth : mI S t 3 = nI th) (h8 : th ≤ 8) (s : Int32) : ∀ (n k : Nat) (v3 : Value), k + n = 4 → Φ (some (.int (fstF (fun c => lwR (btB S t z nr th s) s c (2 * th) 0) n k))) S → G κ 0 0 S 2 [.ref z, .int s, .int (nI k), v3] [] := by
  intro n
  induction n with
  | zero =>
    intro k v3 hk hΦ
    refine g_iload_2 C dX6_fewestWords_2 rfl ?_
    refine g_iconst (v := 3) C dX6_fewestWords_3 rfl (by decide) ?_
    refine g_icmp_gt (tgt := 35) C dX6_fewestWords_4 rfl (by decide) (fun h4 => ?_) (fun h4 => absurd (nI_lt (a := 3) (b := k) (by omega) (by omega)) h4)
    refine g_iconst (v := -1) C dX6_fewestWords_35 rfl (by decide) ?_
    exact g_iret C rfl dX6_fewestWords_36 hΦ
  | succ n ih =>
    intro k v3 hk hΦ
    refine g_iload_2 C dX6_fewestWords_2 rfl ?_
    refine g_iconst (v := 3) C dX6_fewestWords_3 rfl (by decide) ?_
    refine g_icmp_gt (tgt := 35) C dX6_fewestWords_4 rfl (by decide) (fun h4 => absurd ((nI_ltI (a := 3) (b := k) (by omega) (by omega)).mp h4) (by omega)) (fun h4 => ?_)
    refine g_aload_0 C dX6_fewestWords_7 rfl ?_
    refine g_iload_1 C dX6_fewestWords_8 rfl ?_
    refine g_iload_2 C dX6_fewestWords_9 rfl ?_
    refine g_aload_0 C dX6_fewestWords_10 rfl ?_
    refine g_getrD C 0 dX6_fewestWords_11 rfl hZ (by decide) (by decide) rfl fl_X6_9 hZt ?_
    refine g_cD0i C dX6_fewestWords_14 rfl ml_X6_54 mz_X4_sayings (ok_X4_sayings t S hW) (by decide) rfl rfl hW.1 (by decide) rfl (Nat.le_of_ble_eq_true rfl) (fun hn14 => ?_)
    rw [hth, two_nI th (by omega)]
    refine g_iconst (v := 0) C dX6_fewestWords_17 rfl (by decide) ?_
    refine g_cS5i C dX6_fewestWords_18 rfl ml_X6_58 mz_X6_leastWords (ok_X6_leastWords z t S hZ hZt hW nr hnr hT th hth h8 s k (by omega) (2 * th) 0 (by omega)) (by omega) rfl rfl (Nat.le_of_ble_eq_true rfl) (fun hn18 => ?_)
    refine g_istore_3 C rfl dX6_fewestWords_21 rfl ?_
    refine g_iload_3 C dX6_fewestWords_22 rfl ?_
    refine g_iconst (v := -1) C dX6_fewestWords_23 rfl (by decide) ?_
    refine g_icmp_eq (tgt := 29) C dX6_fewestWords_24 rfl (by decide) (fun h24 => ?_) (fun h24 => ?_)
    · skip
      refine g_iinc_2 (z := 1) C rfl dX6_fewestWords_29 rfl (by decide) ?_
      refine g_goto (tgt := 2) C dX6_fewestWords_32 (by decide) ?_
      rw [nI_1]
      exact ih (k + 1) _ (by omega) (by rw [show fstF (fun c => lwR (btB S t z nr th s) s c (2 * th) 0) (n + 1) k = fstF (fun c => lwR (btB S t z nr th s) s c (2 * th) 0) n (k + 1) from if_pos h24] at hΦ; exact hΦ)
    · skip
      refine g_iload_3 C dX6_fewestWords_27 rfl ?_
      exact g_iret C rfl dX6_fewestWords_28 (by rw [show fstF (fun c => lwR (btB S t z nr th s) s c (2 * th) 0) (n + 1) k = lwR (btB S t z nr th s) s k (2 * th) 0 from if_neg h24] at hΦ; exact hΦ)

set_option maxHeartbeats 4000000 in
set_option maxRecDepth 20000 in
theorem ok_X6_fewestWords (s : Int32) (z t : Nat) (S : Mem) (hZ : mK S z = 6) (hZt : mR S z 0 = some t) (hW : TwK S t) (nr : Nat) (hnr : mI S t 4 = nI nr) (hT : Tn nr (mA S (t + 2))) (th : Nat) (hth : mI S t 3 = nI th) (h8 : th ≤ 8) : Ok yX6_fewestWords cX6_fewestWords 4 (some .int) 7 0 0 [.ref z, .int s] S (RI (fstF (fun c => lwR (btB S t z nr th s) s c (2 * th) 0) 4 0) S) := by
  refine Ok.of (by decide) (Nat.le_of_ble_eq_true rfl) rfl (fun κ C hx => ?_)
  have C : Cx RX6 cX6_fewestWords 4 (some .int) 7 false _ κ := C
  refine g_iconst (v := 0) C dX6_fewestWords_0 rfl (by decide) ?_
  refine g_istore_2 C rfl dX6_fewestWords_1 rfl ?_
  exact lp_X6_fewestWords C z t S hZ hZt hW nr hnr hT th hth h8 s 4 0 _ (by omega) ⟨rfl, rfl⟩

set_option maxHeartbeats 4000000 in
set_option maxRecDepth 20000 in
theorem ok_X6_init (x a : Nat) (u v : Int32) (S : Mem) (hZ : mK S x = 6) : Ok yX6_init cX6_init 4 none 1 0 0 [.ref x, .ref a, .int u, .int v] S (RV (sI (sI (sR S x 0 (some a)) x 1 u) x 2 v)) := by
  refine Ok.of (by decide) (Nat.le_of_ble_eq_true rfl) rfl (fun κ C hx => ?_)
  have C : Cx RX6 cX6_init 4 none 1 true _ κ := C
  refine g_aload_0 C dX6_init_0 rfl ?_
  refine g_objInit C dX6_init_1 rfl ml_X6_3 (by decide) (Nat.le_of_ble_eq_true rfl) ?_
  refine g_aload_0 C dX6_init_4 rfl ?_
  refine g_aload_1 C dX6_init_5 rfl ?_
  refine g_putrD (x := some _) C (j := 0) dX6_init_6 rfl hZ (by decide) (by decide) rfl (Or.inr ⟨rfl, rfl, rfl⟩) fl_X6_9 ?_
  refine g_aload_0 C dX6_init_9 rfl ?_
  refine g_iload_2 C dX6_init_10 rfl ?_
  refine g_putiD C (j := 1) dX6_init_11 rfl hZ (by decide) (by decide) rfl (Or.inr ⟨rfl, rfl, rfl⟩) fl_X6_15 ?_
  refine g_aload_0 C dX6_init_14 rfl ?_
  refine g_iload_3 C dX6_init_15 rfl ?_
  refine g_putiD C (j := 2) dX6_init_16 rfl hZ (by decide) (by decide) rfl (Or.inr ⟨rfl, rfl, rfl⟩) fl_X6_19 ?_
  exact g_vret C rfl dX6_init_19 ⟨rfl, rfl⟩

set_option maxHeartbeats 4000000 in
set_option maxRecDepth 20000 in
theorem ok_X2_init (x : Nat) (a b c e : Int32) (S : Mem) (hZ : mK S x = 2) : Ok yX2_init cX2_init 5 none 1 0 0 [.ref x, .int a, .int b, .int c, .int e] S (RV (sI (sI (sI (sI S x 0 a) x 1 b) x 2 c) x 3 e)) := by
  refine Ok.of (by decide) (Nat.le_of_ble_eq_true rfl) rfl (fun κ C hx => ?_)
  have C : Cx RX2 cX2_init 5 none 1 true _ κ := C
  refine g_aload_0 C dX2_init_0 rfl ?_
  refine g_objInit C dX2_init_1 rfl ml_X2_1 (by decide) (Nat.le_of_ble_eq_true rfl) ?_
  refine g_aload_0 C dX2_init_4 rfl ?_
  refine g_iload_1 C dX2_init_5 rfl ?_
  refine g_putiD C (j := 0) dX2_init_6 rfl hZ (by decide) (by decide) rfl (Or.inr ⟨rfl, rfl, rfl⟩) fl_X2_7 ?_
  refine g_aload_0 C dX2_init_9 rfl ?_
  refine g_iload_2 C dX2_init_10 rfl ?_
  refine g_putiD C (j := 1) dX2_init_11 rfl hZ (by decide) (by decide) rfl (Or.inr ⟨rfl, rfl, rfl⟩) fl_X2_13 ?_
  refine g_aload_0 C dX2_init_14 rfl ?_
  refine g_iload_3 C dX2_init_15 rfl ?_
  refine g_putiD C (j := 2) dX2_init_16 rfl hZ (by decide) (by decide) rfl (Or.inr ⟨rfl, rfl, rfl⟩) fl_X2_16 ?_
  refine g_aload_0 C dX2_init_19 rfl ?_
  refine g_iload_4 C dX2_init_20 rfl ?_
  refine g_putiD C (j := 3) dX2_init_22 rfl hZ (by decide) (by decide) rfl (Or.inr ⟨rfl, rfl, rfl⟩) fl_X2_19 ?_
  exact g_vret C rfl dX2_init_25 ⟨rfl, rfl⟩

