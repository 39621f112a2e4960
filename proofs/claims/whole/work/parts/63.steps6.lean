/-! the town -/
def Tg9 (t u : Tau) : Prop := t.1 = u.1 ∧ t.2.1 = u.2.1 ∧ t.2.2.1 = u.2.2.1 ∧ t.2.2.2.2.2.2 = u.2.2.2.2.2.2 ∧ ∀ r, r < t.2.2.1 → t.2.2.2.1 r = u.2.2.2.1 r ∧ t.2.2.2.2.1 r = u.2.2.2.2.1 r ∧ t.2.2.2.2.2.1 r = u.2.2.2.2.2.1 r
theorem claR_g {tx : Nat → Int32} {tn : Nat} {t u : Tau} (h : Tg9 t u) : (∃ f, claR tx tn t = .inl f ∧ claR tx tn u = .inl f) ∨ (∃ t2 u2, claR tx tn t = .inr t2 ∧ claR tx tn u = .inr u2 ∧ Tg9 t2 u2) := by
  obtain ⟨p, th, nr, co, cn, nd, se⟩ := t
  obtain ⟨p', th', nr', co', cn', nd', se'⟩ := u
  obtain ⟨h1, h2, h3, h4, ha⟩ := h
  dsimp only at h1 h2 h3 h4 ha
  subst h1; subst h2; subst h3; subst h4
  by_cases c1 : chr9 tx tn (skp tx tn p) = 116
  · by_cases ht : th = 0
    · cases hn : numR tx tn 1 8 (skp tx tn p + 1) with
      | inl f => exact Or.inl ⟨f, cla_tf c1 ht hn, cla_tf c1 ht hn⟩
      | inr f =>
        obtain ⟨a, e, v⟩ := f
        cases he : endR tx tn e with
        | inl f => exact Or.inl ⟨f, cla_te c1 ht hn he, cla_te c1 ht hn he⟩
        | inr e2 => exact Or.inr ⟨_, _, cla_to c1 ht hn he, cla_to c1 ht hn he, rfl, rfl, rfl, rfl, ha⟩
    · exact Or.inl ⟨_, cla_t3 c1 ht, cla_t3 c1 ht⟩
  · by_cases ht : th = 0
    · exact Or.inl ⟨_, cla_10 c1 ht, cla_10 c1 ht⟩
    · by_cases c2 : chr9 tx tn (skp tx tn p) = 114
      · by_cases hn : nr = 10
        · exact Or.inl ⟨_, cla_r3 c1 ht c2 hn, cla_r3 c1 ht c2 hn⟩
        · cases hr : rulR tx tn th (skp tx tn p + 1) with
          | inl f => exact Or.inl ⟨f, cla_rf c1 ht c2 hn hr, cla_rf c1 ht c2 hn hr⟩
          | inr f =>
            obtain ⟨e, x, q, m⟩ := f
            cases he : endR tx tn e with
            | inl f => exact Or.inl ⟨f, cla_re c1 ht c2 hn hr he, cla_re c1 ht c2 hn hr he⟩
            | inr e2 => exact Or.inr ⟨_, _, cla_ro c1 ht c2 hn hr he, cla_ro c1 ht c2 hn hr he, rfl, rfl, rfl, rfl, fun r hr => ⟨upd_lt (fun i hi => (ha i hi).1) hr, upd_lt (fun i hi => (ha i hi).2.1) hr, upd_lt (fun i hi => (ha i hi).2.2) hr⟩⟩
      · by_cases c3 : chr9 tx tn (skp tx tn p) = 115
        · cases hr : sayR tx tn th se (skp tx tn p + 1) with
          | inl f => exact Or.inl ⟨f, cla_sf c1 ht c2 c3 hr, cla_sf c1 ht c2 c3 hr⟩
          | inr f =>
            obtain ⟨a, e, v⟩ := f
            cases he : endR tx tn e with
            | inl f => exact Or.inl ⟨f, cla_se c1 ht c2 c3 hr he, cla_se c1 ht c2 c3 hr he⟩
            | inr e2 => exact Or.inr ⟨_, _, cla_so c1 ht c2 c3 hr he, cla_so c1 ht c2 c3 hr he, rfl, rfl, rfl, rfl, ha⟩
        · exact Or.inl ⟨_, cla_1 c1 ht c2 c3, cla_1 c1 ht c2 c3⟩
theorem prF_g {tx : Nat → Int32} {tn : Nat} : ∀ n t u, Tg9 t u → (∃ f, prF tx tn n t = .inl f ∧ prF tx tn n u = .inl f) ∨ (∃ t2 u2, prF tx tn n t = .inr t2 ∧ prF tx tn n u = .inr u2 ∧ Tg9 t2 u2)
  | 0, t, u, h => Or.inr ⟨t, u, rfl, rfl, h⟩
  | n + 1, t, u, h => by
    by_cases c : skp tx tn t.1 < tn
    · have c' : skp tx tn u.1 < tn := by rw [← h.1]; exact c
      rcases claR_g (tx := tx) (tn := tn) h with ⟨f, e1, e2⟩ | ⟨t2, u2, e1, e2, g⟩
      · exact Or.inl ⟨f, prF_f c e1, prF_f c' e2⟩
      · rw [prF_s c e1, prF_s c' e2]
        exact prF_g n t2 u2 g
    · have c' : ¬ skp tx tn u.1 < tn := by rw [← h.1]; exact c
      exact Or.inr ⟨t, u, prF_e c, prF_e c', h⟩
theorem be7_N (M : Mem) (se : Int32) : mN (be7 M se) = mN M + 1 := by rw [be7_e, qN_sR]; unfold moS; rw [qN_sI, qN_sI, qN_sI, qN_sI, qN_sN]
theorem be7_mo (M : Mem) (h44 : 44 ≤ mN M) (se : Int32) : Mo9 (be7 M se) (mN M) (q49 se 0 0 0) := by
  have h := moS_at M h44 se 0 0 0
  rw [be7_e]
  generalize moS M se 0 0 0 = S at h
  exact h.same (by rw [qN_sR]) (by rw [qK_sR]) (by rw [qI_sR])
theorem be7_R10 (M : Mem) (se : Int32) : mR (be7 M se) 0 10 = some (mN M) := by rw [be7_e, qR_sR, u2_self]
section TWN
variable {S : Mem} {t dr nw : Nat} {T : TT9} {q : Nat → Int32} {X : XX9} {sd : Int32} {H : HH9} {A : AA9} {B : BB9} {I : II9}
theorem st_town (h : F9 S t dr nw T q X sd H A B I) (w : W9 T q X sd H A B I) {v : Int32} {S1 : Mem} (hv : twQ S dr t X.1 v S1) : GX9 S S1 ∧ ∃ (t2 dr2 nw2 : Nat) (T2 : TT9) (q2 : Nat → Int32) (X2 : XX9) (H2 : HH9) (A2 : AA9) (B2 : BB9) (I2 : II9), F9 S1 t2 dr2 nw2 T2 q2 X2 sd H2 A2 B2 I2 ∧ W9 T2 q2 X2 sd H2 A2 B2 I2 ∧ ∀ M, D9 M T q X sd H A B I → ∀ v2 M2, twP M X.1 v2 M2 → v = v2 ∧ D9 M2 T2 q2 X2 sd H2 A2 B2 I2 ∧ HX9 M M2 M99 := by
  have h44 := h.1.1.2.1
  have ht1 := h.1.t1
  have ht2 := h.1.2.1
  have hbt : 16 ≤ t ∧ t + 3 ≤ 23 := by rcases ht1 with e | e <;> omega
  have hbd : 16 ≤ dr ∧ dr + 3 ≤ 23 := by rcases h.1.t2 with e | e <;> omega
  have eX : mA S 2 = X.2.1 := h.2.2.2.1.2.1
  unfold twQ at hv
  rw [eX] at hv
  have pg : ∀ M, D9 M T q X sd H A B I → mA M 30 = X.2.1 ∧ ((∃ f, prF X.2.1 X.1 (X.1 + 1) (0, 0, 0, mA S (dr + 1), mA S (dr + 2), mA S (dr + 3), 0) = .inl f ∧ prF X.2.1 X.1 (X.1 + 1) (0, 0, 0, mA M 31, mA M 32, mA M 33, 0) = .inl f) ∨ (∃ t2 u2, prF X.2.1 X.1 (X.1 + 1) (0, 0, 0, mA S (dr + 1), mA S (dr + 2), mA S (dr + 3), 0) = .inr t2 ∧ prF X.2.1 X.1 (X.1 + 1) (0, 0, 0, mA M 31, mA M 32, mA M 33, 0) = .inr u2 ∧ Tg9 t2 u2)) := fun M d => ⟨d.2.2.1.2.1, prF_g _ _ _ ⟨rfl, rfl, rfl, rfl, fun r hr => absurd hr (Nat.not_lt_zero r)⟩⟩
  cases hp : prF X.2.1 X.1 (X.1 + 1) (0, 0, 0, mA S (dr + 1), mA S (dr + 2), mA S (dr + 3), 0) with
  | inl f =>
    obtain ⟨k, pl⟩ := f
    rw [hp] at hv
    obtain ⟨hk, ev, D, g2, eS, hF, g1, g5⟩ := hv
    have eN : mN S1 = mN S := by rw [eS, qN_uS]; exact hF.1.1
    have eK : mK S1 = mK S := by rw [eS, qK_uS]; exact hF.1.2.1
    have eR : mR S1 = mR S := by rw [eS, qR_uS]; exact hF.1.2.2.1
    have eQ : mQ S1 = mQ S := by rw [eS, qQ_uS]; exact hF.1.2.2.2.2
    have eI : ∀ a, a ≠ 1 → a ≠ dr → mI S1 a = mI S a := fun a n1 n2 => by rw [eS, uS_ne _ _ n1]; exact hF.2.1 a n2
    have eA : ∀ a, a ≠ dr + 1 → a ≠ dr + 2 → a ≠ dr + 3 → mA S1 a = mA S a := fun a n1 n2 n3 => by rw [eS, qA_uS]; exact hF.2.2 a n1 n2 n3
    have e11 : mI S1 1 1 = nI 0 := by rw [eS]; exact g1
    have e15 : mI S1 1 5 = nI pl := by rw [eS]; exact g5
    clear eS
    refine ⟨fun a h1 h2 => ⟨eI a (by omega) (by omega), eA a (by omega) (by omega) (by omega)⟩, t, dr, nw, T, q, (0, X.2.1, nI pl), H, A, B, I, ⟨h.1.same eN eK eR, h.2.1.same (eI t (by omega) (by omega)) (eA _ (by omega) (by omega) (by omega)) (eA _ (by omega) (by omega) (by omega)) (eA _ (by omega) (by omega) (by omega)), h.2.2.1.same eN eK (eI nw (by have := h.2.2.1.1.2.2; omega) (by have := h.2.2.1.1.2.2; omega)), ⟨e11, (eA 2 (by omega) (by omega) (by omega)).trans eX, e15⟩, (congrFun (eI 0 (by omega) (by omega)) 11).trans h.2.2.2.2.1, h.2.2.2.2.2.1.same eN eK (eI 3 (by omega) (by omega)) (by rw [eQ]) (fun z hz => eI z (by omega) (by omega)), h.2.2.2.2.2.2.1.same (eI 5 (by omega) (by omega)) (eA 6 (by omega) (by omega) (by omega)) (eA 7 (by omega) (by omega) (by omega)) (eA 8 (by omega) (by omega) (by omega)), h.2.2.2.2.2.2.2.1.same (eI 9 (by omega) (by omega)) (eA 10 (by omega) (by omega) (by omega)) (eA 11 (by omega) (by omega) (by omega)), h.2.2.2.2.2.2.2.2.same eN eK (by rw [eQ]) (eA 13 (by omega) (by omega) (by omega)) (fun z hz => eI z (by omega) (by omega))⟩, ⟨w.1, w.2.1, ⟨Nat.zero_le _, fun i hi => absurd hi (Nat.not_lt_zero i)⟩, w.2.2.2⟩, fun M d v2 M2 h2 => ?_⟩
    obtain ⟨em, hg⟩ := pg M d
    rw [hp] at hg
    rcases hg with ⟨f, e1, e2⟩ | ⟨t2, u2, e1, _⟩
    · cases e1
      obtain ⟨hfx, e8, e6, h2⟩ := h2
      rw [em, e2] at h2
      obtain ⟨ev2, _, e9, eJ, eB⟩ := h2
      refine ⟨ev.trans ev2.symm, ⟨⟨?_, ?_, ?_⟩, ?_, ⟨e8, (eB 30 (by omega)).trans em, e9⟩, e6.trans d.2.2.2.1, ⟨(eJ 19 (by decide) (by decide) (by decide) (by decide) (by decide) (by decide) (by decide) (by decide)).trans d.2.2.2.2.1.1, fun i hi j hj => ?_⟩, ⟨(eJ 22 (by decide) (by decide) (by decide) (by decide) (by decide) (by decide) (by decide) (by decide)).trans d.2.2.2.2.2.1.1, fun i hi => ?_⟩, ⟨(eJ 27 (by decide) (by decide) (by decide) (by decide) (by decide) (by decide) (by decide) (by decide)).trans d.2.2.2.2.2.2.1.1, fun i hi => ?_⟩, fun i hi => ?_⟩, HX9.fx hfx⟩
      · exact (eJ 0 (by decide) (by decide) (by decide) (by decide) (by decide) (by decide) (by decide) (by decide)).trans d.1.1
      · exact (eJ 1 (by decide) (by decide) (by decide) (by decide) (by decide) (by decide) (by decide) (by decide)).trans d.1.2.1
      · intro r hr
        rw [eB 26 (by omega), eB 27 (by omega), eB 28 (by omega)]
        exact d.1.2.2 r hr
      · intro j hj
        rw [eB 29 (by omega)]
        exact d.2.1 j hj
      · rw [eB 34 (by omega)]
        exact d.2.2.2.2.1.2 i hi j hj
      · rw [eB 36 (by omega), eB 37 (by omega), eB 38 (by omega)]
        exact d.2.2.2.2.2.1.2 i hi
      · rw [eB 40 (by omega), eB 41 (by omega)]
        exact d.2.2.2.2.2.2.1.2 i hi
      · rw [eB 42 (by omega), eB 43 (by omega)]
        exact d.2.2.2.2.2.2.2 i hi
    · cases e1
  | inr τ =>
    rw [hp] at hv
    obtain ⟨hT, ev, D, g2, eS, hF, g1, g5, hD⟩ := hv
    have n1 : mN (sR (sR (uS D g2) 0 8 (some dr)) 0 9 (some t)) = mN S := by rw [qN_sR, qN_sR, qN_uS]; exact hF.1.1
    have k1 : mK (sR (sR (uS D g2) 0 8 (some dr)) 0 9 (some t)) = mK S := by rw [qK_sR, qK_sR, qK_uS]; exact hF.1.2.1
    have r1 : Rs (sR (sR (uS D g2) 0 8 (some dr)) 0 9 (some t)) := ((show Rs (uS D g2) from hF.R h.1.1.1).up (Or.inl rfl) _).up (Or.inr (Or.inl rfl)) _
    have r8 : mR (sR (sR (uS D g2) 0 8 (some dr)) 0 9 (some t)) 0 8 = some dr := by rw [qR_sR, u2_nj _ _ _ (by decide), qR_sR, u2_at]
    have r9 : mR (sR (sR (uS D g2) 0 8 (some dr)) 0 9 (some t)) 0 9 = some t := by rw [qR_sR, u2_at]
    have q1 : mQ (sR (sR (uS D g2) 0 8 (some dr)) 0 9 (some t)) = mQ S := by rw [qQ_sR, qQ_sR, qQ_uS]; exact hF.1.2.2.2.2
    have i1 : ∀ a, a ≠ 1 → a ≠ dr → mI (sR (sR (uS D g2) 0 8 (some dr)) 0 9 (some t)) a = mI S a := fun a n1 n2 => by rw [qI_sR, qI_sR, uS_ne _ _ n1]; exact hF.2.1 a n2
    have a1 : ∀ a, a ≠ dr + 1 → a ≠ dr + 2 → a ≠ dr + 3 → mA (sR (sR (uS D g2) 0 8 (some dr)) 0 9 (some t)) a = mA S a := fun a n1 n2 n3 => by rw [qA_sR, qA_sR, qA_uS]; exact hF.2.2 a n1 n2 n3
    have i11 : mI (sR (sR (uS D g2) 0 8 (some dr)) 0 9 (some t)) 1 1 = nI 0 := by rw [qI_sR, qI_sR]; exact g1
    have i15 : mI (sR (sR (uS D g2) 0 8 (some dr)) 0 9 (some t)) 1 5 = -1 := by rw [qI_sR, qI_sR]; exact g5
    have dM : Dr (sR (sR (uS D g2) 0 8 (some dr)) 0 9 (some t)) dr τ := by
      unfold Dr
      rw [qI_sR, qI_sR, uS_ne _ _ (dr_1 hbd.1), qA_sR, qA_sR, qA_uS]
      exact hD
    generalize sR (sR (uS D g2) 0 8 (some dr)) 0 9 (some t) = M1 at n1 k1 r1 r8 r9 q1 i1 a1 i11 i15 dM eS
    have m44 : 44 ≤ mN M1 := by omega
    have b0 := be7_N M1 τ.2.2.2.2.2.2
    have b1 := be7_R r1 m44 τ.2.2.2.2.2.2
    have b2 := be7_mo M1 m44 τ.2.2.2.2.2.2
    have b3 := be7_R10 M1 τ.2.2.2.2.2.2
    have b4 : ∀ p, p < mN M1 → mI (be7 M1 τ.2.2.2.2.2.2) p = mI M1 p := fun p hp => be7_I M1 _ hp
    have b5 : ∀ p, p < mN M1 → mK (be7 M1 τ.2.2.2.2.2.2) p = mK M1 p := fun p hp => be7_K M1 _ hp
    have b6 : ∀ p, p < mN M1 → mA (be7 M1 τ.2.2.2.2.2.2) p = mA M1 p := fun p hp => be7_A M1 _ hp
    have b7 : ∀ p, p < mN M1 → mQ (be7 M1 τ.2.2.2.2.2.2) p = mQ M1 p := fun p hp => be7_Q M1 _ hp
    have b8 : ∀ p j, p < mN M1 → j ≠ 10 → mR (be7 M1 τ.2.2.2.2.2.2) p j = mR M1 p j := fun p j hp hj => be7_Rj M1 _ hp hj
    rw [be7S_e] at eS
    generalize be7 M1 τ.2.2.2.2.2.2 = M3 at b0 b1 b2 b3 b4 b5 b6 b7 b8 eS
    have eN : mN S1 = mN M1 + 1 := by rw [eS, be7c_e, qN_sQ, qN_sQ, qN_sI, qN_sI, qN_sI]; exact b0
    have eK : mK S1 = mK M3 := by rw [eS]; exact be7c_K M3
    have eR : mR S1 = mR M3 := by rw [eS]; exact be7c_R M3
    have eI : ∀ a, a ≠ 3 → a ≠ 5 → a ≠ 9 → mI S1 a = mI M3 a := fun a x y z => by rw [eS]; exact be7c_I M3 x y z
    have eA : mA S1 = mA M3 := by rw [eS, be7c_e, qA_sQ, qA_sQ, qA_sI, qA_sI, qA_sI]
    have eQ : ∀ a, a ≠ 12 → mQ S1 a = mQ M3 a := fun a ha => by rw [eS, be7c_e, qQ_sQ, u2_nep _ _ _ _ ha, qQ_sQ, u2_nep _ _ _ _ ha, qQ_sI, qQ_sI, qQ_sI]
    have e120 : mQ S1 12 0 = none := by rw [eS, be7c_e, qQ_sQ, u2_nej _ _ _ _ (by decide), qQ_sQ, u2_self]
    have e121 : mQ S1 12 1 = none := by rw [eS, be7c_e, qQ_sQ, u2_self]
    have e31 : mI S1 3 1 = nI 0 := by rw [eS, be7c_e, qI_sQ, qI_sQ, qI_sI, u2_nep _ _ _ _ (by decide), qI_sI, u2_nep _ _ _ _ (by decide), qI_sI, u2_self]; rfl
    have e53 : mI S1 5 3 = nI 0 := by rw [eS, be7c_e, qI_sQ, qI_sQ, qI_sI, u2_nep _ _ _ _ (by decide), qI_sI, u2_self]; rfl
    have e92 : mI S1 9 2 = nI 0 := by rw [eS, be7c_e, qI_sQ, qI_sQ, qI_sI, u2_self]; rfl
    clear eS
    have cI : ∀ a, a < 44 → a ≠ 1 → a ≠ dr → a ≠ 3 → a ≠ 5 → a ≠ 9 → mI S1 a = mI S a := fun a l x y z u v => (eI a z u v).trans ((b4 a (by omega)).trans (i1 a x y))
    have cA : ∀ a, a < 44 → a ≠ dr + 1 → a ≠ dr + 2 → a ≠ dr + 3 → mA S1 a = mA S a := fun a l x y z => by rw [eA, b6 a (by omega)]; exact a1 a x y z
    refine ⟨fun a h1 h2 => ⟨cI a (by omega) (by omega) (by omega) (by omega) (by omega) (by omega), cA a (by omega) (by omega) (by omega) (by omega)⟩, dr, t, mN M1, (τ.2.1, τ.2.2.1, τ.2.2.2.1, τ.2.2.2.2.1, τ.2.2.2.2.2.1), q49 τ.2.2.2.2.2.2 0 0 0, (0, X.2.1, -1), (0, H.2), (0, A.2), (0, B.2), fun _ => none, ⟨⟨⟨?_, by omega, fun p hp => ?_⟩, ?_, ?_, ?_, ?_⟩, ⟨?_, ?_, fun r hr => ?_⟩, ?_, ⟨?_, ?_, ?_⟩, ?_, ⟨e31, fun i z e => ?_, fun i hi => absurd hi (Nat.not_lt_zero i)⟩, ⟨e53, fun i hi => absurd hi (Nat.not_lt_zero i)⟩, ⟨e92, fun i hi => absurd hi (Nat.not_lt_zero i)⟩, fun i hi => Or.inl ⟨rfl, ?_⟩⟩, ⟨⟨hT.2.1, hT.2.2.1, fun r hr => ⟨(hT.2.2.2.1 r hr).1, (hT.2.2.2.1 r hr).2.1⟩⟩, ⟨hT.2.2.2.2.1, sub_0 _⟩, ⟨Nat.zero_le _, fun i hi => absurd hi (Nat.not_lt_zero i)⟩, w.2.2.2.1, ⟨Nat.zero_le _, fun i hi => absurd hi (Nat.not_lt_zero i)⟩, Nat.zero_le _, Nat.zero_le _, fun i f e => by cases e⟩, fun M d v2 M2 h2 => ?_⟩
    · unfold Rs
      rw [eR]
      exact b1
    · rw [eK, b5 p (by omega), k1]
      exact h.1.1.2.2 p hp
    · omega
    · rw [eR, b8 0 8 (by omega) (by decide)]; exact r8
    · rw [eR, b8 0 9 (by omega) (by decide)]; exact r9
    · rw [eR]; exact b3
    · rw [eI dr (by omega) (by omega) (by omega), b4 dr (by omega)]; exact dM.1
    · rw [eI dr (by omega) (by omega) (by omega), b4 dr (by omega)]; exact dM.2.1
    · rw [eA, b6 _ (by omega), b6 _ (by omega), b6 _ (by omega), dM.2.2.2.1, dM.2.2.2.2.1, dM.2.2.2.2.2]
      exact ⟨rfl, rfl, rfl⟩
    · exact ⟨⟨by omega, by rw [eK]; exact b2.1.2.1, b2.1.2.2⟩, fun j hj => by rw [eI _ (by omega) (by omega) (by omega)]; exact b2.2 j hj⟩
    · rw [eI 1 (by omega) (by omega) (by omega), b4 1 (by omega)]; exact i11
    · exact (cA 2 (by omega) (by omega) (by omega) (by omega)).trans eX
    · rw [eI 1 (by omega) (by omega) (by omega), b4 1 (by omega)]; exact i15
    · exact (congrFun (cI 0 (by omega) (by omega) (by omega) (by omega) (by omega) (by omega)) 11).trans h.2.2.2.2.1
    · rw [eQ 4 (by omega), b7 4 (by omega), q1] at e
      have k := h.2.2.2.2.2.1.2.1 i z e
      rw [eK, b5 z (by omega), k1]
      exact ⟨by omega, k.2⟩
    · rcases (show i = 0 ∨ i = 1 by omega) with rfl | rfl
      · exact e120
      · exact e121
    · obtain ⟨em, hg⟩ := pg M d
      rw [hp] at hg
      rcases hg with ⟨f, e1, _⟩ | ⟨t2, u2, e1, e2, tg⟩
      · cases e1
      · cases e1
        obtain ⟨hfx, e8, e6, h2⟩ := h2
        rw [em, e2] at h2
        obtain ⟨_, ev2, e9, f0, f1, f2, f3, f4, f5, f6, f7, f8, f9, f10, f11⟩ := h2
        refine ⟨ev.trans (by rw [ev2, tg.2.2.1]), ⟨⟨by rw [f0, tg.2.1], by rw [f1, tg.2.2.1], fun r hr => ?_⟩, fun j hj => ?_, ⟨e8, ?_, e9⟩, e6.trans d.2.2.2.1, ⟨f9, fun i hi => absurd hi (Nat.not_lt_zero i)⟩, ⟨f7, fun i hi => absurd hi (Nat.not_lt_zero i)⟩, ⟨f8, fun i hi => absurd hi (Nat.not_lt_zero i)⟩, fun i hi => Or.inl ⟨rfl, ?_⟩⟩, HX9.fx hfx⟩
        · have hr : r < τ.2.2.1 := hr
          have k := f2 r (by rw [← tg.2.2.1]; exact hr)
          have g := tg.2.2.2.2 r hr
          exact ⟨k.1.trans g.1.symm, k.2.1.trans g.2.1.symm, k.2.2.trans g.2.2.symm⟩
        · match j, hj with
          | 0, _ => rw [f3, ← tg.2.2.2.1]; rfl
          | 1, _ => rw [f4]; rfl
          | 2, _ => rw [f5]; rfl
          | 3, _ => rw [f6]; rfl
          | k + 4, h => exact absurd h (by omega)
        · exact (hfx.2.2.2.2 30 (by omega)).2.1.trans em
        · rcases (show i = 0 ∨ i = 1 by omega) with rfl | rfl
          · exact f10
          · exact f11
end TWN
