/-! images -/
theorem im2_i (i : Int32) : im2 i = inI i 0 1 := by
  unfold im2 inI
  rw [decide_eq_decide, Int32.lt_iff_toInt_lt, Int32.le_iff_toInt_le, Int32.le_iff_toInt_le]
  have e1 : (2 : Int32).toInt = 2 := rfl
  have e2 : (1 : Int32).toInt = 1 := rfl
  omega
theorem eq_keep (i : Int32) : kp7V i = keV i := by
  unfold kp7V keV
  rw [im2_i]
section IMG
variable {S : Mem} {t dr nw : Nat} {T : TT9} {q : Nat → Int32} {X : XX9} {sd : Int32} {H : HH9} {A : AA9} {B : BB9} {I : II9}
def f59 (q : Nat → Int32) (sd : Int32) : Nat → Int32 := fun c => if c = 4 then sd else q c
theorem f59_lt {q : Nat → Int32} {sd : Int32} {c : Nat} (h : c < 4) : f59 q sd c = q c := if_neg (by omega)
theorem st_keep1 (h : F9 S t dr nw T q X sd H A B I) (w : W9 T q X sd H A B I) {j : Nat} (hj : j < 2) : St9 T q X sd H A B I S (kp7 S j nw) (fun M => keS1 M j) := by
  have eR : mR (kp7 S j nw) = mR S := by unfold kp7; rw [qR_sI, qR_sA, qR_sQ]
  have eN : mN (kp7 S j nw) = mN S := by unfold kp7; rw [qN_sI, qN_sA, qN_sQ]
  have eK : mK (kp7 S j nw) = mK S := by unfold kp7; rw [qK_sI, qK_sA, qK_sQ]
  have eI : ∀ a, a ≠ 3 → mI (kp7 S j nw) a = mI S a := fun a ha => by unfold kp7; rw [qI_sI, u2_nep _ _ _ _ ha, qI_sA, qI_sQ]
  have e3 : mI (kp7 S j nw) 3 1 = nI 0 := by unfold kp7; rw [qI_sI, u2_self]; rfl
  have eA : ∀ a, a ≠ 13 → mA (kp7 S j nw) a = mA S a := fun a ha => by unfold kp7; rw [qA_sI, mA_sAne _ _ _ _ ha, qA_sQ]
  have e13 : mA (kp7 S j nw) 13 = upd (mA S 13) j sd := by unfold kp7; rw [qA_sI, h.2.2.2.2.1]; exact mA_sA_row.trans (by rw [qA_sQ])
  have eQ : ∀ a, a ≠ 12 → mQ (kp7 S j nw) a = mQ S a := fun a ha => by unfold kp7; rw [qQ_sI, qQ_sA, qQ_sQ, u2_nep _ _ _ _ ha]
  have e12 : ∀ i, mQ (kp7 S j nw) 12 i = if i = j then some nw else mQ S 12 i := fun i => by unfold kp7; rw [qQ_sI, qQ_sA, qQ_sQ]; unfold u2; rw [if_pos rfl]
  generalize kp7 S j nw = S2 at eR eN eK eI e3 eA e13 eQ e12
  have hb : 16 ≤ t ∧ t + 3 ≤ 23 := by rcases h.1.t1 with e | e <;> omega
  have mo : ∀ {z : Nat} {f : Nat → Int32}, Mo9 S z f → Mo9 S2 z f := fun k => k.same eN eK (eI _ (by have := k.1.2.2; omega))
  refine ⟨fun a h1 h2 => ⟨eI a (by omega), eA a (by omega)⟩, t, dr, nw, T, q, X, sd, (0, H.2), A, B, (fun k => if k = j then some (f59 q sd) else I k), ⟨h.1.same eN eK eR, h.2.1.same (eI t (by omega)) (eA _ (by omega)) (eA _ (by omega)) (eA _ (by omega)), mo h.2.2.1, h.2.2.2.1.same (eI 1 (by omega)) (eA 2 (by omega)), (congrFun (eI 0 (by omega)) 11).trans h.2.2.2.2.1, ⟨e3, ?_, fun i hi => absurd hi (Nat.not_lt_zero i)⟩, h.2.2.2.2.2.2.1.same (eI 5 (by omega)) (eA 6 (by omega)) (eA 7 (by omega)) (eA 8 (by omega)), h.2.2.2.2.2.2.2.1.same (eI 9 (by omega)) (eA 10 (by omega)) (eA 11 (by omega)), fun i hi => ?_⟩, ⟨w.1, w.2.1, w.2.2.1, w.2.2.2.1, ⟨Nat.zero_le _, fun i hi => absurd hi (Nat.not_lt_zero i)⟩, w.2.2.2.2.2.1, w.2.2.2.2.2.2.1, fun i f e => ?_⟩, fun M d => ?_⟩
  · have k := h.2.2.2.2.2.1.2.1
    unfold QN at *
    rw [eQ 4 (by omega), eN, eK]
    exact k
  · rw [e12, e13]
    by_cases c : i = j
    · rw [if_pos c]
      exact Or.inr ⟨f59 q sd, nw, if_pos c, rfl, ⟨(mo h.2.2.1).1, fun k hk => ((mo h.2.2.1).2 k hk).trans (f59_lt hk).symm⟩, by rw [c, upd_at]; rfl⟩
    · rw [if_neg c, upd_ne _ _ c]
      rcases h.2.2.2.2.2.2.2.2 i hi with k | ⟨f, z, e1, e2, k, e3⟩
      · exact Or.inl ⟨(if_neg c).trans k.1, k.2⟩
      · exact Or.inr ⟨f, z, (if_neg c).trans e1, e2, mo k, e3⟩
  · have e : (if i = j then some (f59 q sd) else I i) = some f := e
    by_cases c : i = j
    · rw [if_pos c] at e; cases e; exact ⟨w.2.1, w.2.2.2.1⟩
    · rw [if_neg c] at e; exact w.2.2.2.2.2.2.2 i f e
  · show D9 (keS1 M j) _ _ _ _ _ _ _ _ ∧ HX9 M (keS1 M j) M99
    have kx : KX9 M (keS1 M j) (fun j => j = 19) (fun a => a = 42 ∨ a = 43) := by
      unfold keS1
      refine KX9.trans (KX9.trans (KX9.trans (KX9.w M _ ?_) (KX9.a _ _ _ ?_)) (KX9.a _ _ _ ?_)) (KX9.i _ _ ?_)
      · exact Or.inl rfl
      · exact Or.inl rfl
      · exact Or.inr rfl
      · rfl
    have hm : HX9 M (keS1 M j) M99 := by
      unfold keS1
      exact (((HX9.w M _ ⟨by omega, by omega⟩).trans (HX9.a _ _ _ ⟨by omega, by omega⟩)).trans (HX9.a _ _ _ ⟨by omega, by omega⟩)).trans (HX9.i _ 19 _ ⟨by omega, by omega⟩)
    have g19 : mI (keS1 M j) 25 19 = nI 0 := by unfold keS1; rw [qI_sI, u2_self]; rfl
    have g43 : mA (keS1 M j) 43 = upd (mA M 43) j 1 := by unfold keS1; rw [qA_sI]; exact mA_sA_row.trans (by rw [mA_sAne _ _ _ _ (by decide), mA_sW_ne _ _ (by decide)])
    have g42 : mA (keS1 M j) 42 = upd (va_cpy (mA M 29) (mA M 42) 0 (5 * j) 4) (5 * j + 4) (mI M 25 6) := by unfold keS1; rw [qA_sI, mA_sAne _ _ _ _ (by decide)]; exact mA_sA_row.trans (by rw [mA_sW])
    generalize keS1 M j = M2 at kx hm g19 g43 g42
    refine ⟨⟨d.1.kx kx (by omega) (by omega) (by omega) (by omega) (by omega), d.2.1.kx kx (by omega), d.2.2.1.kx kx (by omega) (by omega) (by omega), (kx.1 6 (by omega)).trans d.2.2.2.1, ⟨g19, fun i hi => absurd hi (Nat.not_lt_zero i)⟩, d.2.2.2.2.2.1.kx kx (by omega) (by omega) (by omega) (by omega), d.2.2.2.2.2.2.1.kx kx (by omega) (by omega) (by omega), fun i hi => ?_⟩, hm⟩
    rw [g42, g43]
    by_cases c : i = j
    · refine Or.inr ⟨f59 q sd, if_pos c, by rw [c, upd_at], fun k hk => ?_⟩
      rw [c]
      by_cases c4 : k = 4
      · rw [c4, upd_at, d.2.2.2.1]; rfl
      · rw [upd_ne _ _ (by omega), cpy_in _ _ _ _ _ (show k < 4 by omega), Nat.zero_add, d.2.1 k (by omega)]
        exact (f59_lt (by omega)).symm
    · rw [upd_ne _ _ c]
      rcases d.2.2.2.2.2.2.2 i hi with k | ⟨f, e1, e2, k⟩
      · exact Or.inl ⟨(if_neg c).trans k.1, k.2⟩
      · refine Or.inr ⟨f, (if_neg c).trans e1, e2, fun k' hk' => ?_⟩
        rw [upd_ne _ _ (by omega), cpy_out _ _ (by omega)]
        exact k k' hk'
theorem st_keep (h : F9 S t dr nw T q X sd H A B I) (w : W9 T q X sd H A B I) (i : Int32) : St9 T q X sd H A B I S (kp7S S nw i) (fun M => keS M i) := by
  unfold kp7S keS
  rw [im2_i]
  by_cases c : inI i 0 1 = true
  · simp only [if_pos c]
    refine st_keep1 h w ?_
    rcases inI_01 c with e | e <;> rw [e] <;> decide
  · simp only [if_neg c]
    exact st_id h w
theorem eq_goBack {M : Mem} (h : F9 S t dr nw T q X sd H A B I) (d : D9 M T q X sd H A B I) (i : Int32) : gb7V S i = gbV M i := by
  unfold gb7V gbV
  rw [im2_i]
  by_cases c : inI i 0 1 = true
  · rw [if_pos c, if_pos c]
    have hj : i.toNatClampNeg < 2 := by rcases inI_01 c with e | e <;> rw [e] <;> decide
    generalize i.toNatClampNeg = j at hj
    rcases h.2.2.2.2.2.2.2.2 j hj with k | ⟨f, z, e1, e2, k, e3⟩
    · rcases d.2.2.2.2.2.2.2 j hj with k2 | ⟨f, e1, e2, k2⟩
      · rw [k.2, k2.2]; rfl
      · rw [k.1] at e1; cases e1
    · rcases d.2.2.2.2.2.2.2 j hj with k2 | ⟨f2, e4, e5, k2⟩
      · rw [k2.1] at e1; cases e1
      · rw [e2, e5]; rfl
  · rw [if_neg c, if_neg c]
theorem st_goBack {M0 : Mem} (h : F9 S t dr nw T q X sd H A B I) (d0 : D9 M0 T q X sd H A B I) (w : W9 T q X sd H A B I) (i : Int32) : St9 T q X sd H A B I S (gb7S S i) (fun M => gbS M i) := by
  unfold gb7S gbS
  rw [im2_i]
  by_cases c : inI i 0 1 = true
  · simp only [if_pos c]
    have hj : i.toNatClampNeg < 2 := by rcases inI_01 c with e | e <;> rw [e] <;> decide
    generalize i.toNatClampNeg = j at hj
    rcases h.2.2.2.2.2.2.2.2 j hj with k | ⟨f, z, e1, e2, k, e3⟩
    · rw [k.2]
      refine ⟨GX9.refl S, t, dr, nw, T, q, X, sd, H, A, B, I, h, w, fun M d => ?_⟩
      rcases d.2.2.2.2.2.2.2 j hj with k2 | ⟨f, e1, e2, k2⟩
      · simp only [if_pos k2.2]
        exact ⟨d, HX9.refl M _⟩
      · rw [k.1] at e1; cases e1
    · rw [e2]
      dsimp only
      have hw := w.2.2.2.2.2.2.2 j f e1
      have eR : mR (gb7 S j z) 0 10 = some z := by unfold gb7; rw [qR_sI, qR_sI, qR_sR, u2_self]
      have e3' : mI (gb7 S j z) 3 1 = nI 0 := by unfold gb7; rw [qI_sI, u2_self]; rfl
      have e0 : mI (gb7 S j z) 0 11 = f 4 := by unfold gb7; rw [qI_sI, u2_nep _ _ _ _ (by decide), qI_sI, u2_self, e3]
      have eQ : mQ (gb7 S j z) = mQ S := by unfold gb7; rw [qQ_sI, qQ_sI, qQ_sR]
      have nx : NX9 S (gb7 S j z) := by
        unfold gb7
        refine ⟨⟨by rw [qN_sI, qN_sI, qN_sR], by rw [qK_sI, qK_sI, qK_sR], fun p b hp => ?_⟩, fun a h0 h3 => by rw [qI_sI, u2_nep _ _ _ _ h3, qI_sI, u2_nep _ _ _ _ h0, qI_sR], by rw [qA_sI, qA_sI, qA_sR], fun a _ => by rw [qQ_sI, qQ_sI, qQ_sR]⟩
        rw [qR_sI, qR_sI, qR_sR]
        unfold u2
        by_cases h1 : p = 0
        · rw [if_pos h1, if_neg (fun h2 => hp ⟨h1, h2⟩)]
        · rw [if_neg h1]
      generalize gb7 S j z = S2 at eR e3' e0 eQ nx
      refine ⟨nx.gx, t, dr, z, T, f, X, f 4, (0, H.2), A, B, I, h.nx nx eR (k.nx nx) e0 ⟨e3', ?_, fun i hi => absurd hi (Nat.not_lt_zero i)⟩, ⟨w.1, hw.1, w.2.2.1, hw.2, ⟨Nat.zero_le _, fun i hi => absurd hi (Nat.not_lt_zero i)⟩, w.2.2.2.2.2⟩, fun M d => ?_⟩
      · have k := h.2.2.2.2.2.1.2.1
        unfold QN at *
        rw [eQ, nx.1.1, nx.1.2.1]
        exact k
      · rcases d.2.2.2.2.2.2.2 j hj with k2 | ⟨f2, e4, e5, k2⟩
        · rw [k2.1] at e1; cases e1
        · have ef : f2 = f := Option.some.inj (e4.symm.trans e1)
          subst ef
          simp only [if_neg (show ¬ mA M 43 j = 0 by rw [e5]; decide)]
          have kx : KX9 M (gbS1 M j) (fun j => j = 6 ∨ j = 19) (fun a => a = 29) := by
            unfold gbS1
            refine KX9.trans (KX9.trans (KX9.w M _ ?_) (KX9.i _ _ ?_)) (KX9.i _ _ ?_)
            · rfl
            · exact Or.inl rfl
            · exact Or.inr rfl
          have hm : HX9 M (gbS1 M j) M99 := by
            unfold gbS1
            exact ((HX9.w M _ ⟨by omega, by omega⟩).trans (HX9.i _ 6 _ ⟨by omega, by omega⟩)).trans (HX9.i _ 19 _ ⟨by omega, by omega⟩)
          have g19 : mI (gbS1 M j) 25 19 = nI 0 := by unfold gbS1; rw [qI_sI, u2_self]; rfl
          have g6 : mI (gbS1 M j) 25 6 = f2 4 := by unfold gbS1; rw [qI_sI, u2_nej _ _ _ _ (by decide), qI_sI, u2_self]; exact k2 4 (by decide)
          have g29 : mA (gbS1 M j) 29 = va_cpy (mA M 42) (mA M 29) (5 * j) 0 4 := by unfold gbS1; rw [qA_sI, qA_sI]; exact mA_sW _ _ _
          generalize gbS1 M j = M2 at kx hm g19 g6 g29
          refine ⟨⟨d.1.kx kx (by omega) (by omega) (by omega) (by omega) (by omega), fun b hb => ?_, d.2.2.1.kx kx (by omega) (by omega) (by omega), g6, ⟨g19, fun i hi => absurd hi (Nat.not_lt_zero i)⟩, d.2.2.2.2.2.1.kx kx (by omega) (by omega) (by omega) (by omega), d.2.2.2.2.2.2.1.kx kx (by omega) (by omega) (by omega), d.2.2.2.2.2.2.2.kx kx (by omega) (by omega)⟩, hm⟩
          have := cpy_in (mA M 42) (mA M 29) (5 * j) 0 4 hb
          rw [Nat.zero_add] at this
          rw [g29, this]
          exact k2 b (by omega)
  · simp only [if_neg c]
    exact st_id h w
end IMG
