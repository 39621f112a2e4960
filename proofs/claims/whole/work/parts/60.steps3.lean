/-! moments: kept, gone back to, undone, new -/
theorem qR_sX (S : Mem) (f : Nat → Option Nat) : mR (sX S f) = mR S := rfl
theorem qN_sX (S : Mem) (f : Nat → Option Nat) : mN (sX S f) = mN S := rfl
theorem qK_sX (S : Mem) (f : Nat → Option Nat) : mK (sX S f) = mK S := rfl
theorem qI_sX (S : Mem) (f : Nat → Option Nat) : mI (sX S f) = mI S := rfl
theorem qA_sX (S : Mem) (f : Nat → Option Nat) : mA (sX S f) = mA S := rfl
theorem cpy_in (f g : Nat → Int32) (sp dp k : Nat) {j : Nat} (hj : j < k) : va_cpy f g sp dp k (dp + j) = f (sp + j) := by
  unfold va_cpy
  rw [if_pos ⟨by omega, by omega⟩]
  congr 1
  omega
/-- reads of the first side that a change of 'now' and of the history leaves -/
def NX9 (S S2 : Mem) : Prop := (mN S2 = mN S ∧ mK S2 = mK S ∧ ∀ p j, ¬ (p = 0 ∧ j = 10) → mR S2 p j = mR S p j) ∧ (∀ a, a ≠ 0 → a ≠ 3 → mI S2 a = mI S a) ∧ mA S2 = mA S ∧ ∀ a, a ≠ 4 → mQ S2 a = mQ S a
section MOV
variable {S S2 : Mem} {t dr nw : Nat} {T : TT9} {q : Nat → Int32} {X : XX9} {sd : Int32} {H : HH9} {A : AA9} {B : BB9} {I : II9}
theorem Rs.nx (h : Rs S) (e : NX9 S S2) : Rs S2 := fun p j r er => by
  rw [e.1.2.2 p j (fun z => by rw [z.1, z.2] at er; exact absurd (show (none : Option Nat) = some r from er) (by simp))]
  exact h p j r er
theorem Mo9.nx {z : Nat} {f : Nat → Int32} (h : Mo9 S z f) (e : NX9 S S2) : Mo9 S2 z f := h.same e.1.1 e.1.2.1 (e.2.1 z (by have := h.1.2.2; omega) (by have := h.1.2.2; omega))
theorem F9.nx (h : F9 S t dr nw T q X sd H A B I) (e : NX9 S S2) {z : Nat} {q2 : Nat → Int32} {sd2 : Int32} {H2 : HH9} (hz : mR S2 0 10 = some z) (hq : Mo9 S2 z q2) (hs : mI S2 0 11 = sd2) (hH : FH9 S2 H2) : F9 S2 t dr z T q2 X sd2 H2 A B I := by
  have hb : 16 ≤ t ∧ t + 3 ≤ 23 := by rcases h.1.t1 with e | e <;> omega
  have eA : ∀ a, mA S2 a = mA S a := fun a => by rw [e.2.2.1]
  refine ⟨⟨⟨h.1.1.1.nx e, by rw [e.1.1]; exact h.1.1.2.1, fun p hp => by rw [e.1.2.1]; exact h.1.1.2.2 p hp⟩, h.1.2.1, (e.1.2.2 0 8 (by omega)).trans h.1.2.2.1, (e.1.2.2 0 9 (by omega)).trans h.1.2.2.2.1, hz⟩, h.2.1.same (e.2.1 t (by omega) (by omega)) (eA _) (eA _) (eA _), hq, h.2.2.2.1.same (e.2.1 1 (by omega) (by omega)) (eA _), hs, hH, h.2.2.2.2.2.2.1.same (e.2.1 5 (by omega) (by omega)) (eA _) (eA _) (eA _), h.2.2.2.2.2.2.2.1.same (e.2.1 9 (by omega) (by omega)) (eA _) (eA _), fun i hi => ?_⟩
  rw [e.2.2.2 12 (by omega), eA]
  rcases h.2.2.2.2.2.2.2.2 i hi with k | ⟨f, z, e1, e2, k, e3⟩
  · exact Or.inl k
  · exact Or.inr ⟨f, z, e1, e2, k.nx e, e3⟩
theorem NX9.gx (e : NX9 S S2) : GX9 S S2 := fun a h1 _ => ⟨e.2.1 a (by omega) (by omega), by rw [e.2.2.1]⟩
theorem NX9.mk (S : Mem) (z : Nat) (v : Int32) : NX9 S (sR (sI S 3 1 v) 0 10 (some z)) := ⟨⟨rfl, rfl, fun p j h => by
    rw [qR_sR, qR_sI]
    unfold u2
    by_cases h1 : p = 0
    · rw [if_pos h1, if_neg (fun h2 => h ⟨h1, h2⟩)]
    · rw [if_neg h1]⟩, fun a _ h3 => by rw [qI_sR, qI_sI, u2_nep _ _ _ _ h3], rfl, fun a _ => rfl⟩
/-- undo -/
theorem st_undo (h : F9 S t dr nw T q X sd H A B I) (w : W9 T q X sd H A B I) {z : Nat} (hz : H.1 ≠ 0 → mQ S 4 (H.1 - 1) = some z) : St9 T q X sd H A B I S (un7S S H.1 z) (fun M => unS M H.1) := by
  unfold un7S unS
  by_cases c : H.1 = 0
  · simp only [if_pos c]
    exact st_id h w
  · simp only [if_neg c]
    obtain ⟨z2, e1, k2⟩ := h.2.2.2.2.2.1.2.2 (H.1 - 1) (by omega)
    have ez : z2 = z := Option.some.inj (e1.symm.trans (hz c))
    subst ez
    have e := NX9.mk S z2 (nI (H.1 - 1))
    have hR : mR (sR (sI S 3 1 (nI (H.1 - 1))) 0 10 (some z2)) 0 10 = some z2 := by rw [qR_sR, u2_self]
    have hI : mI (sR (sI S 3 1 (nI (H.1 - 1))) 0 10 (some z2)) 3 1 = nI (H.1 - 1) := by rw [qI_sR, qI_sI, u2_self]
    have h0 : mI (sR (sI S 3 1 (nI (H.1 - 1))) 0 10 (some z2)) 0 11 = mI S 0 11 := by rw [qI_sR, qI_sI, u2_nep _ _ _ _ (by decide)]
    have hQ : mQ (sR (sI S 3 1 (nI (H.1 - 1))) 0 10 (some z2)) 4 = mQ S 4 := by rw [qQ_sR, qQ_sI]
    generalize sR (sI S 3 1 (nI (H.1 - 1))) 0 10 (some z2) = S2 at e hR hI h0 hQ
    refine ⟨e.gx, t, dr, z2, T, H.2 (H.1 - 1), X, sd, (H.1 - 1, H.2), A, B, I, h.nx e hR (k2.nx e) (h0.trans h.2.2.2.2.1) ⟨hI, ?_, fun i hi => ?_⟩, ⟨w.1, w.2.2.2.2.1.2 _ (by omega), w.2.2.1, w.2.2.2.1, ⟨by show H.1 - 1 ≤ 20; have := w.2.2.2.2.1.1; omega, fun i hi => w.2.2.2.2.1.2 i (by have hi : i < H.1 - 1 := hi; omega)⟩, w.2.2.2.2.2⟩, fun M d => ?_⟩
    · have k := h.2.2.2.2.2.1.2.1
      unfold QN at *
      rw [hQ, e.1.1, e.1.2.1]
      exact k
    · obtain ⟨z3, e3, k3⟩ := h.2.2.2.2.2.1.2.2 i (by have hi : i < H.1 - 1 := hi; omega)
      exact ⟨z3, by rw [hQ]; exact e3, k3.nx e⟩
    · show D9 (sW (sI M 25 19 (nI (H.1 - 1))) 29 (va_cpy (mA M 34) (mA M 29) (4 * (H.1 - 1)) 0 4)) _ _ _ _ _ _ _ _ ∧ HX9 M (sW (sI M 25 19 (nI (H.1 - 1))) 29 (va_cpy (mA M 34) (mA M 29) (4 * (H.1 - 1)) 0 4)) M99
      have kx : KX9 M (sW (sI M 25 19 (nI (H.1 - 1))) 29 (va_cpy (mA M 34) (mA M 29) (4 * (H.1 - 1)) 0 4)) (fun j => j = 19) (fun a => a = 29) := by
        refine KX9.trans (KX9.i M _ ?_) (KX9.w _ _ ?_) <;> rfl
      have hm : HX9 M (sW (sI M 25 19 (nI (H.1 - 1))) 29 (va_cpy (mA M 34) (mA M 29) (4 * (H.1 - 1)) 0 4)) M99 := (HX9.i M 19 _ ⟨by omega, by omega⟩).trans (HX9.w _ _ ⟨by omega, by omega⟩)
      have f1 : mI (sW (sI M 25 19 (nI (H.1 - 1))) 29 (va_cpy (mA M 34) (mA M 29) (4 * (H.1 - 1)) 0 4)) 25 19 = nI (H.1 - 1) := by rw [qI_sW, qI_sI, u2_self]
      have f2 : mA (sW (sI M 25 19 (nI (H.1 - 1))) 29 (va_cpy (mA M 34) (mA M 29) (4 * (H.1 - 1)) 0 4)) 29 = va_cpy (mA M 34) (mA M 29) (4 * (H.1 - 1)) 0 4 := mA_sW _ _ _
      generalize sW (sI M 25 19 (nI (H.1 - 1))) 29 (va_cpy (mA M 34) (mA M 29) (4 * (H.1 - 1)) 0 4) = M2 at kx hm f1 f2 ⊢
      refine ⟨⟨d.1.kx kx (by omega) (by omega) (by omega) (by omega) (by omega), fun j hj => ?_, d.2.2.1.kx kx (by omega) (by omega) (by omega), (kx.1 6 (by omega)).trans d.2.2.2.1, ⟨f1, fun i hi j hj => ?_⟩, d.2.2.2.2.2.1.kx kx (by omega) (by omega) (by omega) (by omega), d.2.2.2.2.2.2.1.kx kx (by omega) (by omega) (by omega), d.2.2.2.2.2.2.2.kx kx (by omega) (by omega)⟩, hm⟩
      · have := cpy_in (mA M 34) (mA M 29) (4 * (H.1 - 1)) 0 4 hj
        rw [Nat.zero_add] at this
        rw [f2, this]
        exact d.2.2.2.2.1.2 (H.1 - 1) (by omega) j hj
      · rw [kx.2 34 (by omega) (by omega) (by omega)]
        exact d.2.2.2.2.1.2 i (by have hi : i < H.1 - 1 := hi; omega) j hj
theorem eq_undo (un : Nat) : un7V un = unV un := rfl
/-- the history with one more -/
def hi9 (H : HH9) (q : Nat → Int32) : HH9 := (hiU H.1 + 1, fun i => if i = hiU H.1 then q else if H.1 = 20 then H.2 (i + 1) else H.2 i)
theorem hiU_le {un : Nat} (h : un ≤ 20) : hiU un ≤ 19 ∧ (un ≠ 20 → hiU un = un) ∧ (un = 20 → hiU un = 19) := by
  unfold hiU
  split <;> omega
theorem FH9.more (h : FH9 S H) (hu : H.1 ≤ 20) (hq : Mo9 S nw q) (z : Nat) : FH9 (sR (hiS S H.1 nw) 0 10 (some z)) (hi9 H q) := by
  have hU := hiU_le hu
  have e1 : mI (sR (hiS S H.1 nw) 0 10 (some z)) 3 1 = nI (hiU H.1 + 1) := by unfold hiS; rw [qI_sR, qI_sI, u2_self]
  have eN : mN (sR (hiS S H.1 nw) 0 10 (some z)) = mN S := by unfold hiS; rw [qN_sR, qN_sI, qN_sX]
  have eK : mK (sR (hiS S H.1 nw) 0 10 (some z)) = mK S := by unfold hiS; rw [qK_sR, qK_sI, qK_sX]
  have eI : ∀ a, a ≠ 3 → mI (sR (hiS S H.1 nw) 0 10 (some z)) a = mI S a := fun a ha => by unfold hiS; rw [qI_sR, qI_sI, u2_nep _ _ _ _ ha, qI_sX]
  have eQ : mQ (sR (hiS S H.1 nw) 0 10 (some z)) 4 = uq (hiF S H.1) (hiU H.1) (some nw) := by unfold hiS; rw [qQ_sR, qQ_sI, mQ_sX]
  generalize sR (hiS S H.1 nw) 0 10 (some z) = S2 at e1 eN eK eI eQ
  have mo : ∀ {z : Nat} {f : Nat → Int32}, Mo9 S z f → Mo9 S2 z f := fun k => k.same eN eK (eI _ (by have := k.1.2.2; omega))
  have hF : ∀ i y, hiF S H.1 i = some y → ∃ i', mQ S 4 i' = some y := fun i y e => by
    unfold hiF at e
    by_cases c : H.1 = 20
    · rw [if_pos c] at e
      unfold shQ at e
      by_cases c2 : i + 1 < 20
      · rw [if_pos c2] at e; exact ⟨_, e⟩
      · rw [if_neg c2] at e; exact ⟨_, e⟩
    · rw [if_neg c] at e; exact ⟨_, e⟩
  refine ⟨e1, fun i y e => ?_, fun i hi => ?_⟩
  · rw [eN, eK]
    rw [eQ] at e
    unfold uq at e
    by_cases c : i = hiU H.1
    · rw [if_pos c] at e; cases e; exact ⟨hq.1.1, hq.1.2.1⟩
    · rw [if_neg c] at e
      obtain ⟨i', e'⟩ := hF i y e
      exact h.2.1 i' y e'
  · have hi : i < hiU H.1 + 1 := hi
    show ∃ y, mQ S2 4 i = some y ∧ Mo9 S2 y (if i = hiU H.1 then q else if H.1 = 20 then H.2 (i + 1) else H.2 i)
    rw [eQ]
    unfold uq
    by_cases c : i = hiU H.1
    · rw [if_pos c, if_pos c]
      exact ⟨nw, rfl, mo hq⟩
    · rw [if_neg c, if_neg c]
      unfold hiF
      by_cases c20 : H.1 = 20
      · rw [if_pos c20, if_pos c20]
        unfold shQ
        rw [if_pos (by have := hU.2.2 c20; omega)]
        obtain ⟨y, e, k⟩ := h.2.2 (i + 1) (by have := hU.2.2 c20; omega)
        exact ⟨y, e, mo k⟩
      · rw [if_neg c20, if_neg c20]
        obtain ⟨y, e, k⟩ := h.2.2 i (by have := hU.2.1 c20; omega)
        exact ⟨y, e, mo k⟩
theorem NX9.hi (S : Mem) (un x z : Nat) : NX9 S (sR (hiS S un x) 0 10 (some z)) := ⟨⟨by unfold hiS; rw [qN_sR, qN_sI, qN_sX], by unfold hiS; rw [qK_sR, qK_sI, qK_sX], fun p j h => by
    unfold hiS
    rw [qR_sR, qR_sI, qR_sX]
    unfold u2
    by_cases h1 : p = 0
    · rw [if_pos h1, if_neg (fun h2 => h ⟨h1, h2⟩)]
    · rw [if_neg h1]⟩, fun a _ h3 => by unfold hiS; rw [qI_sR, qI_sI, u2_nep _ _ _ _ h3, qI_sX], by unfold hiS; rw [qA_sR, qA_sI, qA_sX], fun a h4 => by unfold hiS; rw [qQ_sR, qQ_sI, mQ_sX_ne _ _ h4]⟩
def q49 (a b c e : Int32) : Nat → Int32 := fun j => if j = 0 then a else if j = 1 then b else if j = 2 then c else e
theorem moS_at (S : Mem) (h44 : 44 ≤ mN S) (a b c e : Int32) : Mo9 (moS S a b c e) (mN S) (q49 a b c e) := by
  have eN : mN (moS S a b c e) = mN S + 1 := by unfold moS; rw [qN_sI, qN_sI, qN_sI, qN_sI, qN_sN]
  have eK : mK (moS S a b c e) (mN S) = 2 := by unfold moS; rw [qK_sI, qK_sI, qK_sI, qK_sI]; exact mK_sN
  refine ⟨⟨by omega, eK, Or.inr h44⟩, fun j hj => ?_⟩
  unfold moS
  match j, hj with
  | 0, _ => rw [qI_sI, u2_nej _ _ _ _ (by decide), qI_sI, u2_nej _ _ _ _ (by decide), qI_sI, u2_nej _ _ _ _ (by decide), qI_sI, u2_self]; rfl
  | 1, _ => rw [qI_sI, u2_nej _ _ _ _ (by decide), qI_sI, u2_nej _ _ _ _ (by decide), qI_sI, u2_self]; rfl
  | 2, _ => rw [qI_sI, u2_nej _ _ _ _ (by decide), qI_sI, u2_self]; rfl
  | 3, _ => rw [qI_sI, u2_self]; rfl
  | k + 4, h => exact absurd h (by omega)
/-- a new moment on the first side -/
theorem F9.move (h : F9 S t dr nw T q X sd H A B I) (hu : H.1 ≤ 20) (a b c e : Int32) : F9 (neS S H.1 nw a b c e) t dr (mN S) T (q49 a b c e) X sd (hi9 H q) A B I ∧ GX9 S (neS S H.1 nw a b c e) := by
  have h44 := h.1.1.2.1
  have hE := moS_ext S a b c e
  have h1 := h.ext hE
  have hM := moS_at S h44 a b c e
  have hne : neS S H.1 nw a b c e = sR (hiS (moS S a b c e) H.1 nw) 0 10 (some (mN S)) := rfl
  rw [hne]
  have hg := GX9.ext hE h44
  generalize moS S a b c e = S1 at h1 hM hg
  have nx := NX9.hi S1 H.1 nw (mN S)
  have hH := h1.2.2.2.2.2.1.more hu h1.2.2.1 (mN S)
  have hR : mR (sR (hiS S1 H.1 nw) 0 10 (some (mN S))) 0 10 = some (mN S) := by rw [qR_sR, u2_self]
  have hs : mI (sR (hiS S1 H.1 nw) 0 10 (some (mN S))) 0 11 = sd := by unfold hiS; rw [qI_sR, qI_sI, u2_nep _ _ _ _ (by decide), qI_sX]; exact h1.2.2.2.2.1
  generalize sR (hiS S1 H.1 nw) 0 10 (some (mN S)) = S2 at nx hH hR hs
  exact ⟨h1.nx nx hR (hM.nx nx) hs hH, hg.trans nx.gx⟩
theorem W9.move (w : W9 T q X sd H A B I) {q2 : Nat → Int32} {sd2 : Int32} (hq : WN9 T.1 q2) (hs : 0 ≤ sd2) : W9 T q2 X sd2 (hi9 H q) A B I := by
  have hU := hiU_le w.2.2.2.2.1.1
  refine ⟨w.1, hq, w.2.2.1, hs, ⟨by show hiU H.1 + 1 ≤ 20; omega, fun i hi => ?_⟩, w.2.2.2.2.2⟩
  have hi : i < hiU H.1 + 1 := hi
  show WN9 T.1 (if i = hiU H.1 then q else if H.1 = 20 then H.2 (i + 1) else H.2 i)
  by_cases c : i = hiU H.1
  · rw [if_pos c]; exact w.2.1
  · rw [if_neg c]
    by_cases c20 : H.1 = 20
    · rw [if_pos c20]; exact w.2.2.2.2.1.2 _ (by have := hU.2.2 c20; omega)
    · rw [if_neg c20]; exact w.2.2.2.2.1.2 _ (by have := hU.2.1 c20; omega)
/-- the same on the other side -/
theorem D9.move {M M2 : Mem} (d : D9 M T q X sd H A B I) (hu : H.1 ≤ 20) {q2 : Nat → Int32} {sd2 : Int32} (kx : KX9 (reS M H.1) M2 (fun j => j = 6) (fun a => a = 29)) (hq : DN9 M2 q2) (hs : mI M2 25 6 = sd2) : D9 M2 T q2 X sd2 (hi9 H q) A B I := by
  have hU := hiU_le hu
  have e1 : mI (reS M H.1) 25 19 = nI (hiU H.1 + 1) := by unfold reS; rw [qI_sI, u2_self]; rfl
  have kr : KX9 M (reS M H.1) (fun j => j = 19) (fun a => a = 34) := by
    unfold reS
    refine KX9.trans (KX9.w M _ ?_) (KX9.i _ _ ?_) <;> rfl
  have e34 : mA (reS M H.1) 34 = va_cpy (mA M 29) (reF M H.1) 0 (4 * hiU H.1) 4 := by unfold reS; rw [qA_sI]; exact mA_sW _ _ _
  generalize reS M H.1 = M1 at kx e1 kr e34
  refine ⟨(d.1.kx kr (by omega) (by omega) (by omega) (by omega) (by omega)).kx kx (by omega) (by omega) (by omega) (by omega) (by omega), hq, (d.2.2.1.kx kr (by omega) (by omega) (by omega)).kx kx (by omega) (by omega) (by omega), hs, ⟨(kx.1 19 (by omega)).trans e1, fun i hi j hj => ?_⟩, (d.2.2.2.2.2.1.kx kr (by omega) (by omega) (by omega) (by omega)).kx kx (by omega) (by omega) (by omega) (by omega), (d.2.2.2.2.2.2.1.kx kr (by omega) (by omega) (by omega)).kx kx (by omega) (by omega) (by omega), (d.2.2.2.2.2.2.2.kx kr (by omega) (by omega)).kx kx (by omega) (by omega)⟩
  have hi : i < hiU H.1 + 1 := hi
  show mA M2 34 (4 * i + j) = (if i = hiU H.1 then q else if H.1 = 20 then H.2 (i + 1) else H.2 i) j
  rw [kx.2 34 (by omega) (by omega) (by omega), e34]
  by_cases c : i = hiU H.1
  · rw [if_pos c, c, cpy_in _ _ _ _ _ hj, Nat.zero_add]
    exact d.2.1 j hj
  · rw [if_neg c, cpy_out _ _ (by omega)]
    unfold reF
    by_cases c20 : H.1 = 20
    · rw [if_pos c20, if_pos c20]
      unfold shF
      rw [if_pos (by have := hU.2.2 c20; omega), show 4 * i + j + 4 = 4 * (i + 1) + j by omega]
      exact d.2.2.2.2.1.2 (i + 1) (by have := hU.2.2 c20; omega) j hj
    · rw [if_neg c20, if_neg c20]
      exact d.2.2.2.2.1.2 i (by have := hU.2.1 c20; omega) j hj
theorem HX9.re (M : Mem) (un : Nat) : HX9 M (reS M un) M99 := by
  unfold reS
  exact (HX9.w M _ ⟨by omega, by omega⟩).trans (HX9.i _ 19 _ ⟨by omega, by omega⟩)
end MOV
