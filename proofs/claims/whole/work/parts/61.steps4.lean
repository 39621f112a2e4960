/-! what is done: see, forbid, debate, drop, drift; images -/
section DON
variable {S : Mem} {t dr nw : Nat} {T : TT9} {q : Nat → Int32} {X : XX9} {sd : Int32} {H : HH9} {A : AA9} {B : BB9} {I : II9}
theorem sub_withb {x M : Int32} {n : Nat} (b : Int32) (hx : sub x M) (hM : sub (one (nI n)) M) : sub (withI x (nI n) b) M := by
  unfold withI
  by_cases c : b = 0
  · rw [if_pos c]; exact sub_trans (and_sub_l _ _) hx
  · rw [if_neg c]; exact or_sub hx hM
theorem reS_29 (M : Mem) (un : Nat) : mA (reS M un) 29 = mA M 29 := reS_A (by decide)
theorem reS_6 (M : Mem) (un : Nat) : mI (reS M un) 25 6 = mI M 25 6 := by unfold reS; rw [qI_sI, u2_nej _ _ _ _ (by decide), qI_sW]
theorem eq_see {M : Mem} (h : F9 S t dr nw T q X sd H A B I) (d : D9 M T q X sd H A B I) (w : WT9 T) (s : Int32) : s7V S T.1 nw s = seV M s := by
  unfold s7V seV
  rw [hs_say w.1, d.1.1, bit_has, h.nq (by decide), d.2.1 0 (by decide)]
theorem eq_forbid {M : Mem} (h : F9 S t dr nw T q X sd H A B I) (d : D9 M T q X sd H A B I) (w : WT9 T) (s : Int32) : f7V S T.2.1 nw s = foV M s := by
  unfold f7V foV
  rw [hs_rul w.2.1, d.1.2.1, bit_has, h.nq (by decide), d.2.1 2 (by decide)]
theorem st_see (h : F9 S t dr nw T q X sd H A B I) (w : W9 T q X sd H A B I) (s b : Int32) : St9 T q X sd H A B I S (s7S S T.1 nw H.1 s b) (fun M => seS M H.1 s b) := by
  have hu := w.2.2.2.2.1.1
  unfold s7S
  rw [hs_say w.1.1]
  by_cases c : sayB (nI T.1) s = true
  · rw [if_pos c, h.nq (show 0 < 4 by decide), h.nq (show 1 < 4 by decide), h.nq (show 2 < 4 by decide), h.nq (show 3 < 4 by decide)]
    obtain ⟨j, hj, e⟩ := say_in w.1.1 c
    have hm := h.move hu (withI (q 0) s b) (q 1) (q 2) (q 3)
    refine ⟨hm.2, t, dr, mN S, T, _, X, sd, _, A, B, I, hm.1, w.move ⟨?_, w.2.1.2⟩ w.2.2.2.1, fun M d => ?_⟩
    · show sub (withI (q 0) s b) (mk9 T.1)
      rw [e]
      exact sub_withb b w.2.1.1 (sub_mask hj w.1.1)
    · have e2 : seS M H.1 s b = sA (reS M H.1) 29 0 (withI (mA M 29 0) s b) := by unfold seS; rw [d.1.1, if_pos c]
      show D9 (seS M H.1 s b) _ _ _ _ _ _ _ _ ∧ HX9 M (seS M H.1 s b) M99
      rw [e2, d.2.1 0 (by decide)]
      refine ⟨d.move hu (KX9.a _ 0 _ rfl) (fun i hi => ?_) (by rw [qI_sA, reS_6]; exact d.2.2.2.1), (HX9.re M H.1).trans (HX9.a _ 0 _ ⟨by omega, by omega⟩)⟩
      rw [show mA (sA (reS M H.1) 29 0 (withI (q 0) s b)) 29 = upd (mA (reS M H.1) 29) 0 (withI (q 0) s b) from mA_sA_row, reS_29]
      match i, hi with
      | 0, _ => exact upd_at _ _ _
      | 1, _ => exact d.2.1 1 (by decide)
      | 2, _ => exact d.2.1 2 (by decide)
      | 3, _ => exact d.2.1 3 (by decide)
      | k + 4, h => exact absurd h (by omega)
  · rw [if_neg c]
    refine ⟨GX9.refl S, t, dr, nw, T, q, X, sd, H, A, B, I, h, w, fun M d => ?_⟩
    have e2 : seS M H.1 s b = M := by unfold seS; rw [d.1.1, if_neg c]
    show D9 (seS M H.1 s b) _ _ _ _ _ _ _ _ ∧ HX9 M (seS M H.1 s b) M99
    rw [e2]
    exact ⟨d, HX9.refl M _⟩
theorem st_forbid (h : F9 S t dr nw T q X sd H A B I) (w : W9 T q X sd H A B I) (s b : Int32) : St9 T q X sd H A B I S (f7S S T.2.1 nw H.1 s b) (fun M => foS M H.1 s b) := by
  have hu := w.2.2.2.2.1.1
  unfold f7S
  rw [hs_rul w.1.2.1]
  by_cases c : rulB (nI T.2.1) s = true
  · rw [if_pos c, h.nq (show 0 < 4 by decide), h.nq (show 1 < 4 by decide), h.nq (show 2 < 4 by decide), h.nq (show 3 < 4 by decide)]
    have hm := h.move hu (q 0) (q 1) (withI (q 2) s b) (q 3)
    refine ⟨hm.2, t, dr, mN S, T, _, X, sd, _, A, B, I, hm.1, w.move ⟨w.2.1.1, w.2.1.2⟩ w.2.2.2.1, fun M d => ?_⟩
    have e2 : foS M H.1 s b = sA (reS M H.1) 29 2 (withI (mA M 29 2) s b) := by unfold foS; rw [d.1.2.1, if_pos c]
    show D9 (foS M H.1 s b) _ _ _ _ _ _ _ _ ∧ HX9 M (foS M H.1 s b) M99
    rw [e2, d.2.1 2 (by decide)]
    refine ⟨d.move hu (KX9.a _ 2 _ rfl) (fun i hi => ?_) (by rw [qI_sA, reS_6]; exact d.2.2.2.1), (HX9.re M H.1).trans (HX9.a _ 2 _ ⟨by omega, by omega⟩)⟩
    rw [show mA (sA (reS M H.1) 29 2 (withI (q 2) s b)) 29 = upd (mA (reS M H.1) 29) 2 (withI (q 2) s b) from mA_sA_row, reS_29]
    match i, hi with
    | 0, _ => exact d.2.1 0 (by decide)
    | 1, _ => exact d.2.1 1 (by decide)
    | 2, _ => exact upd_at _ _ _
    | 3, _ => exact d.2.1 3 (by decide)
    | k + 4, h => exact absurd h (by omega)
  · rw [if_neg c]
    refine ⟨GX9.refl S, t, dr, nw, T, q, X, sd, H, A, B, I, h, w, fun M d => ?_⟩
    have e2 : foS M H.1 s b = M := by unfold foS; rw [d.1.2.1, if_neg c]
    show D9 (foS M H.1 s b) _ _ _ _ _ _ _ _ ∧ HX9 M (foS M H.1 s b) M99
    rw [e2]
    exact ⟨d, HX9.refl M _⟩
theorem eq_drop {M : Mem} (h : F9 S t dr nw T q X sd H A B I) (d : D9 M T q X sd H A B I) : d7V S T.1 nw = drV M := by
  unfold d7V drV
  rw [d.1.1, h.nq (by decide), d.2.1 1 (by decide)]
theorem st_drop (h : F9 S t dr nw T q X sd H A B I) (w : W9 T q X sd H A B I) : St9 T q X sd H A B I S (d7S S T.1 nw H.1) (fun M => drS M H.1) := by
  have hu := w.2.2.2.2.1.1
  unfold d7S
  by_cases c : nI T.1 = 0
  · rw [if_pos c]
    refine ⟨GX9.refl S, t, dr, nw, T, q, X, sd, H, A, B, I, h, w, fun M d => ?_⟩
    have e2 : drS M H.1 = M := by unfold drS; rw [d.1.1, if_pos c]
    show D9 (drS M H.1) _ _ _ _ _ _ _ _ ∧ HX9 M (drS M H.1) M99
    rw [e2]
    exact ⟨d, HX9.refl M _⟩
  · rw [if_neg c, h.nq (show 0 < 4 by decide), h.nq (show 2 < 4 by decide), h.nq (show 3 < 4 by decide)]
    have hm := h.move hu (q 0) 0 (q 2) (q 3)
    refine ⟨hm.2, t, dr, mN S, T, _, X, sd, _, A, B, I, hm.1, w.move ⟨w.2.1.1, sub_0 _⟩ w.2.2.2.1, fun M d => ?_⟩
    have e2 : drS M H.1 = sA (reS M H.1) 29 1 0 := by unfold drS; rw [d.1.1, if_neg c]
    show D9 (drS M H.1) _ _ _ _ _ _ _ _ ∧ HX9 M (drS M H.1) M99
    rw [e2]
    refine ⟨d.move hu (KX9.a _ 1 _ rfl) (fun i hi => ?_) (by rw [qI_sA, reS_6]; exact d.2.2.2.1), (HX9.re M H.1).trans (HX9.a _ 1 _ ⟨by omega, by omega⟩)⟩
    rw [show mA (sA (reS M H.1) 29 1 0) 29 = upd (mA (reS M H.1) 29) 1 0 from mA_sA_row, reS_29]
    match i, hi with
    | 0, _ => exact d.2.1 0 (by decide)
    | 1, _ => exact upd_at _ _ _
    | 2, _ => exact d.2.1 2 (by decide)
    | 3, _ => exact d.2.1 3 (by decide)
    | k + 4, h => exact absurd h (by omega)
theorem e7C_eq (h : F9 S t dr nw T q X sd H A B I) : e7C S t nw T.2.1 = clo T.2.1 T.2.2.2.1 T.2.2.2.2 (alw (nI T.2.1) (q 2)) (q 0 ||| q 1) := by
  unfold e7C
  rw [h.cl9, h.nq (show 0 < 4 by decide), h.nq (show 1 < 4 by decide), h.nq (show 2 < 4 by decide)]
theorem dnV_eq {M : Mem} (d : D9 M T q X sd H A B I) : dnV M T.2.1 = clo T.2.1 T.2.2.2.1 T.2.2.2.2 (alw (nI T.2.1) (q 2)) (q 0 ||| q 1) := by
  unfold dnV
  rw [d.cl9, d.2.1 0 (by decide), d.2.1 1 (by decide), d.2.1 2 (by decide)]
theorem eq_debate {M : Mem} (h : F9 S t dr nw T q X sd H A B I) (d : D9 M T q X sd H A B I) : e7V S t nw T.1 T.2.1 = deV M T.2.1 := by
  unfold e7V deV
  rw [d.1.1, e7C_eq h, dnV_eq d, h.nq (by decide), d.2.1 3 (by decide)]
theorem st_debate (h : F9 S t dr nw T q X sd H A B I) (w : W9 T q X sd H A B I) : St9 T q X sd H A B I S (e7S S t nw T.1 T.2.1 H.1) (fun M => deS M T.2.1 H.1) := by
  have hu := w.2.2.2.2.1.1
  unfold e7S
  rw [e7C_eq h, h.nq (show 0 < 4 by decide), h.nq (show 2 < 4 by decide), h.nq (show 3 < 4 by decide)]
  have same : (¬ nI T.1 = 0 → ¬ q 3 ≤ 9000) → ∀ M, D9 M T q X sd H A B I → D9 (deS M T.2.1 H.1) T q X sd H A B I ∧ HX9 M (deS M T.2.1 H.1) M99 := fun hc M d => by
    have e2 : deS M T.2.1 H.1 = M := by
      unfold deS
      rw [d.1.1, d.2.1 3 (by decide)]
      by_cases c : nI T.1 = 0
      · rw [if_pos c]
      · rw [if_neg c, if_neg (hc c)]
    rw [e2]
    exact ⟨d, HX9.refl M _⟩
  by_cases c : nI T.1 = 0
  · rw [if_pos c]
    exact ⟨GX9.refl S, t, dr, nw, T, q, X, sd, H, A, B, I, h, w, same (fun z => absurd c z)⟩
  · rw [if_neg c]
    by_cases c2 : q 3 ≤ 9000
    · rw [if_pos c2]
      have hm := h.move hu (q 0) (clo T.2.1 T.2.2.2.1 T.2.2.2.2 (alw (nI T.2.1) (q 2)) (q 0 ||| q 1)) (q 2) (q 3 + 1)
      refine ⟨hm.2, t, dr, mN S, T, _, X, sd, _, A, B, I, hm.1, w.move ⟨w.2.1.1, w.1.cl9 (or_sub w.2.1.1 w.2.1.2)⟩ w.2.2.2.1, fun M d => ?_⟩
      have e0 : dnV (reS M H.1) T.2.1 = clo T.2.1 T.2.2.2.1 T.2.2.2.2 (alw (nI T.2.1) (q 2)) (q 0 ||| q 1) := by
        rw [← dnV_eq d]
        unfold dnV
        rw [reS_29, reS_A (show 27 ≠ 34 by decide), reS_A (show 28 ≠ 34 by decide)]
      have e2 : deS M T.2.1 H.1 = sA (sA (reS M H.1) 29 1 (clo T.2.1 T.2.2.2.1 T.2.2.2.2 (alw (nI T.2.1) (q 2)) (q 0 ||| q 1))) 29 3 (q 3 + 1) := by
        unfold deS
        rw [d.1.1, d.2.1 3 (by decide), if_neg c, if_pos c2]
        unfold dnS
        rw [e0, reS_29, d.2.1 3 (by decide)]
      show D9 (deS M T.2.1 H.1) _ _ _ _ _ _ _ _ ∧ HX9 M (deS M T.2.1 H.1) M99
      rw [e2]
      generalize clo T.2.1 T.2.2.2.1 T.2.2.2.2 (alw (nI T.2.1) (q 2)) (q 0 ||| q 1) = v
      refine ⟨d.move hu (by refine KX9.trans (KX9.a _ 1 _ ?_) (KX9.a _ 3 _ ?_) <;> rfl) (fun i hi => ?_) (by rw [qI_sA, qI_sA, reS_6]; exact d.2.2.2.1), ((HX9.re M H.1).trans (HX9.a _ 1 _ ⟨by omega, by omega⟩)).trans (HX9.a _ 3 _ ⟨by omega, by omega⟩)⟩
      rw [show mA (sA (sA (reS M H.1) 29 1 v) 29 3 (q 3 + 1)) 29 = upd (upd (mA M 29) 1 v) 3 (q 3 + 1) from mA_sA_row.trans (by rw [mA_sA_row, reS_29])]
      match i, hi with
      | 0, _ => exact d.2.1 0 (by decide)
      | 1, _ => exact (upd_ne _ _ (by decide)).trans (upd_at _ _ _)
      | 2, _ => exact d.2.1 2 (by decide)
      | 3, _ => exact upd_at _ _ _
      | k + 4, h => exact absurd h (by omega)
    · rw [if_neg c2]
      exact ⟨GX9.refl S, t, dr, nw, T, q, X, sd, H, A, B, I, h, w, same (fun _ => c2)⟩
theorem in_60 {n : Int32} (h : inI n 1 60 = true) : n.toNatClampNeg ≤ 60 := by
  obtain ⟨j, _, hj, e⟩ := in60 h
  rw [e, nI_clamp (by omega)]
  exact hj
theorem dq_eq {M : Mem} (h : F9 S t dr nw T q X sd H A B I) (d : D9 M T q X sd H A B I) (w : W9 T q X sd H A B I) (ht : ¬ nI T.1 = 0) (n : Nat) : dq7 S t nw T.1 T.2.1 n = dfQ M T.2.1 n ∧ ∃ (m' : Nat) (a' b' c' : Int32), dfQ M T.2.1 n = (nI m', a', b', c') ∧ m' < 2147483648 ∧ sub a' (mk9 T.1) ∧ sub b' (mk9 T.1) := by
  have ht0 : ¬ T.1 = 0 := fun z => ht (by rw [z]; rfl)
  obtain ⟨m, hm, em⟩ := nI_of (i_not_lt w.2.2.2.1)
  have key := df_eq (al := alw (nI T.2.1) (q 2)) (c := q 3) w.1 ht0 (m := m) hm w.2.1.1 w.2.1.2 n
  have e1 : dq7 S t nw T.1 T.2.1 n = df7 T.2.1 T.2.2.2.1 T.2.2.2.2 (alw (nI T.2.1) (q 2)) (2 * nI T.1) (nI m, q 0, q 1, q 3) n := by
    unfold dq7
    rw [h.nq (show 0 < 4 by decide), h.nq (show 1 < 4 by decide), h.nq (show 2 < 4 by decide), h.nq (show 3 < 4 by decide), h.2.2.2.2.1, em]
    exact df7_congr (fun r hr => (h.2.1.2.2 r hr).2) n
  have e2 : dfQ M T.2.1 n = dfF T.2.1 T.2.2.2.1 T.2.2.2.2 (alw (nI T.2.1) (q 2)) (2 * nI T.1) (nI m, q 0, q 1, q 3) n := by
    unfold dfQ
    rw [d.2.1 0 (by decide), d.2.1 1 (by decide), d.2.1 2 (by decide), d.2.1 3 (by decide), d.1.1, d.2.2.2.1, em]
    exact df_congr (fun r hr => (d.1.2.2 r hr).2) n
  rw [e1, e2]
  exact key
theorem eq_drift {M : Mem} (h : F9 S t dr nw T q X sd H A B I) (d : D9 M T q X sd H A B I) (w : W9 T q X sd H A B I) (n : Int32) : df7V S t nw T.1 T.2.1 n = dfV M T.2.1 n := by
  unfold df7V dfV
  rw [d.1.1, h.nq (by decide), d.2.1 3 (by decide)]
  by_cases c : nI T.1 = 0
  · rw [if_pos c, if_pos c]
  · rw [(dq_eq h d w c _).1]
theorem F9.seed (h : F9 S t dr nw T q X sd H A B I) (v : Int32) : F9 (sI S 0 11 v) t dr nw T q X v H A B I ∧ GX9 S (sI S 0 11 v) := by
  have hx : HX9 S (sI S 0 11 v) (fun a => a = 0) := HX9.i S 11 v rfl
  have e1 : mI (sI S 0 11 v) 0 11 = v := by rw [qI_sI, u2_self]
  generalize sI S 0 11 v = S2 at hx e1
  exact ⟨⟨h.1.hx hx, h.2.1.hx hx h.1.t1 (fun a _ _ => by omega), h.2.2.1.hx hx (fun a _ => by omega), h.2.2.2.1.hx hx (by omega) (by omega), e1, h.2.2.2.2.2.1.hx hx (by omega) (fun a _ => by omega), h.2.2.2.2.2.2.1.hx hx (by omega) (by omega) (by omega) (by omega), h.2.2.2.2.2.2.2.1.hx hx (by omega) (by omega) (by omega), h.2.2.2.2.2.2.2.2.hx hx (by omega) (fun a _ => by omega)⟩, GX9.hx hx (fun a h1 h2 => by omega)⟩
theorem mq_kx (M : Mem) (p : Int32 × Int32 × Int32 × Int32) : KX9 M (mq M p) (fun j => j = 6) (fun a => a = 29) := by
  unfold mq
  refine KX9.trans (KX9.w M _ ?_) (KX9.i _ _ ?_) <;> rfl
theorem mq_hx (M : Mem) (p : Int32 × Int32 × Int32 × Int32) : HX9 M (mq M p) M99 := by
  unfold mq
  exact (HX9.w M _ ⟨by omega, by omega⟩).trans (HX9.i _ 6 _ ⟨by omega, by omega⟩)
theorem st_drift {M0 : Mem} (h : F9 S t dr nw T q X sd H A B I) (d0 : D9 M0 T q X sd H A B I) (w : W9 T q X sd H A B I) (n : Int32) : St9 T q X sd H A B I S (df7S S t nw T.1 T.2.1 H.1 n) (fun M => dfS M T.2.1 H.1 n) := by
  have hu := w.2.2.2.2.1.1
  unfold df7S
  rw [h.nq (show 3 < 4 by decide)]
  have same : (inI n 1 60 = true → ¬ nI T.1 = 0 → ¬ q 3 ≤ 9000) → ∀ M, D9 M T q X sd H A B I → D9 (dfS M T.2.1 H.1 n) T q X sd H A B I ∧ HX9 M (dfS M T.2.1 H.1 n) M99 := fun hc M d => by
    have e2 : dfS M T.2.1 H.1 n = M := by
      unfold dfS
      rw [d.1.1, d.2.1 3 (by decide)]
      by_cases c0 : inI n 1 60 = true
      · rw [if_pos c0]
        by_cases c : nI T.1 = 0
        · rw [if_pos c]
        · rw [if_neg c, if_neg (hc c0 c)]
      · rw [if_neg c0]
    rw [e2]
    exact ⟨d, HX9.refl M _⟩
  by_cases c0 : inI n 1 60 = true
  · rw [if_pos c0]
    by_cases c : nI T.1 = 0
    · rw [if_pos c]
      exact ⟨GX9.refl S, t, dr, nw, T, q, X, sd, H, A, B, I, h, w, same (fun _ z => absurd c z)⟩
    · rw [if_neg c]
      by_cases c2 : q 3 ≤ 9000
      · rw [if_pos c2]
        obtain ⟨e1, m', a', b', c', e2, hm', ha', hb'⟩ := dq_eq h d0 w c n.toNatClampNeg
        unfold df7M
        rw [e1, e2, h.nq (show 2 < 4 by decide)]
        dsimp only
        have hs := h.seed (nI m')
        generalize sI S 0 11 (nI m') = S1 at hs
        have hmv := hs.1.move hu a' b' (q 2) c'
        refine ⟨hs.2.trans hmv.2, t, dr, mN S1, T, _, X, nI m', _, A, B, I, hmv.1, w.move ⟨ha', hb'⟩ (lt0_n (nI_pos hm')), fun M d => ?_⟩
        have e3 : dfQ M T.2.1 n.toNatClampNeg = (nI m', a', b', c') := by rw [← (dq_eq h d w c n.toNatClampNeg).1, e1, e2]
        have e4 : dfS M T.2.1 H.1 n = mq (reS M H.1) (nI m', a', b', c') := by
          unfold dfS
          rw [d.1.1, d.2.1 3 (by decide), if_pos c0, if_neg c, if_pos c2, e3]
        show D9 (dfS M T.2.1 H.1 n) _ _ _ _ _ _ _ _ ∧ HX9 M (dfS M T.2.1 H.1 n) M99
        rw [e4]
        refine ⟨d.move hu (mq_kx _ _) (fun i hi => ?_) (mq_I6 _ _), (HX9.re M H.1).trans (mq_hx _ _)⟩
        match i, hi with
        | 0, _ => exact mq_A0 _ _
        | 1, _ => exact mq_A1 _ _
        | 2, _ => exact (mq_A2 _ _).trans (by rw [reS_29]; exact d.2.1 2 (by decide))
        | 3, _ => exact mq_A3 _ _
        | k + 4, h => exact absurd h (by omega)
      · rw [if_neg c2]
        exact ⟨GX9.refl S, t, dr, nw, T, q, X, sd, H, A, B, I, h, w, same (fun _ _ => c2)⟩
  · rw [if_neg c0]
    exact ⟨GX9.refl S, t, dr, nw, T, q, X, sd, H, A, B, I, h, w, same (fun z => absurd z c0)⟩
end DON
