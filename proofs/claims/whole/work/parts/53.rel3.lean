/-! more answers that change nothing -/
theorem or_congr {c c' : Nat → Bool} {f f' : Nat → Int32} : ∀ n, (∀ r, r < n → c r = c' r ∧ f r = f' r) → orF c f n = orF c' f' n
  | 0, _ => rfl
  | n + 1, h => by
    show orF c f n ||| (if c n = true then f n else 0) = orF c' f' n ||| (if c' n = true then f' n else 0)
    rw [or_congr n (fun r hr => h r (by omega)), (h n (by omega)).1, (h n (by omega)).2]
theorem or_no {c : Nat → Bool} {f : Nat → Int32} : ∀ n, (∀ r, r < n → c r = false) → orF c f n = 0
  | 0, _ => rfl
  | n + 1, h => by
    rw [orF_0 (h n (by omega)), or_no n (fun r hr => h r (by omega))]
    rfl
theorem bt_or {c : Nat → Bool} {f : Nat → Int32} {i : Nat} : ∀ n, (bt (orF c f n) i = true ↔ ∃ r, r < n ∧ c r = true ∧ bt (f r) i = true)
  | 0 => ⟨fun h => (by rw [show orF c f 0 = 0 from rfl, b_0] at h; cases h), fun ⟨r, hr, _⟩ => absurd hr (Nat.not_lt_zero r)⟩
  | n + 1 => by
    have ih := bt_or (c := c) (f := f) (i := i) n
    show bt (orF c f n ||| (if c n = true then f n else 0)) i = true ↔ _
    rw [b_or, Bool.or_eq_true, ih]
    constructor
    · rintro (⟨r, h1, h2⟩ | h)
      · exact ⟨r, by omega, h2⟩
      · by_cases hc : c n = true
        · rw [if_pos hc] at h; exact ⟨n, by omega, hc, h⟩
        · rw [if_neg hc, b_0] at h; cases h
    · rintro ⟨r, h1, h2, h3⟩
      by_cases hr : r = n
      · subst hr; exact Or.inr (by rw [if_pos h2]; exact h3)
      · exact Or.inl ⟨r, by omega, h2, h3⟩
theorem any_iff {c : Nat → Bool} : ∀ n k, (anyF c n k = true ↔ ∃ i, i < n ∧ c (k + i) = true)
  | 0, k => ⟨fun h => (by cases h), fun ⟨i, hi, _⟩ => absurd hi (Nat.not_lt_zero i)⟩
  | n + 1, k => by
    have ih := any_iff (c := c) n (k + 1)
    by_cases hc : c k = true
    · rw [show anyF c (n + 1) k = true from if_pos hc]
      exact ⟨fun _ => ⟨0, by omega, hc⟩, fun _ => rfl⟩
    · rw [show anyF c (n + 1) k = anyF c n (k + 1) from if_neg hc, ih]
      constructor
      · rintro ⟨i, hi, h⟩
        exact ⟨i + 1, by omega, by rw [show k + (i + 1) = k + 1 + i by omega]; exact h⟩
      · rintro ⟨i, hi, h⟩
        cases i with
        | zero => exact absurd h hc
        | succ i => exact ⟨i, by omega, by rw [show k + 1 + i = k + (i + 1) by omega]; exact h⟩
theorem nv_eq {bb x : Int32} {cn : Nat → Int32} : ∀ n, nvF bb x cn n = x &&& (orF (fun r => hasB bb (nI r)) (fun r => one (cn r)) n ^^^ (-1))
  | 0 => by
    refine b_ext (fun i hi => ?_)
    show bt x i = bt (x &&& ((0 : Int32) ^^^ (-1))) i
    rw [b_and, b_xor, b_0, b_m1 i hi]
    cases bt x i <;> rfl
  | n + 1 => by
    have ih := nv_eq (bb := bb) (x := x) (cn := cn) n
    show nvF bb x cn n &&& (if hasB bb (nI n) = true then one (cn n) ^^^ (-1) else -1) = x &&& ((orF (fun r => hasB bb (nI r)) (fun r => one (cn r)) n ||| (if hasB bb (nI n) = true then one (cn n) else 0)) ^^^ (-1))
    rw [ih]
    generalize orF (fun r => hasB bb (nI r)) (fun r => one (cn r)) n = o
    refine b_ext (fun i hi => ?_)
    by_cases hc : hasB bb (nI n) = true
    · rw [if_pos hc, if_pos hc, b_and, b_and, b_and, b_xor, b_xor, b_xor, b_or, b_m1 i hi]
      cases bt x i <;> cases bt o i <;> cases bt (one (cn n)) i <;> rfl
    · rw [if_neg hc, if_neg hc, or0, b_and, b_m1 i hi, Bool.and_true]
theorem nv_congr {bb x : Int32} {cn cn' : Nat → Int32} {n : Nat} (h : ∀ r, r < n → cn r = cn' r) : nvF bb x cn n = nvF bb x cn' n := by
  rw [nv_eq, nv_eq, or_congr n (fun r hr => ⟨rfl, by rw [h r hr]⟩)]
theorem bit_has (x k : Int32) : bitI x k = bI (hasB x k) := by
  rcases and1 (x >>> (k &&& 31)) with h | h
  · rw [hasB_0 (show bitI x k = 0 from h)]; exact h
  · rw [show hasB x k = true from decide_eq_true (show bitI x k = 1 from h)]; exact h
theorem fw_jd {all : Int32} {bw bi bw' bi' : Nat → Int32} : ∀ n k, (∀ i, i < n → bw (k + i) = bw' (k + i) ∧ bi (k + i) = bi' (k + i)) → fwF all bw bi n k = jdF all bw' bi' n k
  | 0, k, _ => rfl
  | n + 1, k, h => by
    show (if bI (hasB all (bw k)) = bi k then fwF all bw bi n (k + 1) else nI k) = (if bitI all (bw' k) = bi' k then jdF all bw' bi' n (k + 1) else nI k)
    rw [bit_has, (show bw k = bw' k from (h 0 (by omega)).1), (show bi k = bi' k from (h 0 (by omega)).2), fw_jd n (k + 1) (fun i hi => by
      have := h (i + 1) (by omega)
      rw [show k + (i + 1) = k + 1 + i by omega] at this
      exact this)]
section R93
variable {S S1 : Mem} {t dr nw : Nat} {T : TT9} {q : Nat → Int32} {X : XX9} {sd : Int32} {H : HH9} {A : AA9} {B : BB9} {I : II9}
theorem eq_step (h : F9 S t dr nw T q X sd H A B I) (d : D9 S1 T q X sd H A B I) (w : WT9 T) (s : Int32) : n7V S t nw T.1 T.2.1 s = stV S1 T.2.1 s := by
  unfold n7V stV
  rw [hs_say w.1, d.1.1]
  by_cases c1 : sayB (nI T.1) s = true
  · rw [if_pos c1, if_pos c1]
    have h10 := w.2.1
    have e1 : tnC (tS S t nw T.2.1) t (mN S) T.2.1 s = fun r => !hasB (clo T.2.1 T.2.2.2.1 T.2.2.2.2 (alw (nI T.2.1) (q 2) &&& (one (nI r) ^^^ (-1))) (q 0)) s := by
      funext r
      unfold tnC
      rw [h.al, h.se, h.tclo]
    have e2 : stC S1 T.2.1 s = fun r => hasB (clo T.2.1 T.2.2.2.1 T.2.2.2.2 (alw (nI T.2.1) (q 2)) (q 0)) s && (hasB (alw (nI T.2.1) (q 2)) (nI r) && !hasB (clo T.2.1 T.2.2.2.1 T.2.2.2.2 (alw (nI T.2.1) (q 2) &&& (one (nI r) ^^^ (-1))) (q 0)) s) := by
      funext r
      unfold stC
      rw [d.2.1 2 (by decide), d.2.1 0 (by decide), d.cl9, d.cl9]
    unfold tnV
    rw [e1, e2, h.al, h.se, h.tclo]
    cases hc : hasB (clo T.2.1 T.2.2.2.1 T.2.2.2.2 (alw (nI T.2.1) (q 2)) (q 0)) s with
    | false =>
      rw [if_neg (by decide)]
      exact (or_no _ (fun r _ => rfl)).symm
    | true =>
      rw [if_pos rfl]
      refine or_congr _ (fun r hr => ⟨?_, rfl⟩)
      cases ha : hasB (alw (nI T.2.1) (q 2)) (nI r) with
      | true => rfl
      | false =>
        have e : alw (nI T.2.1) (q 2) &&& (one (nI r) ^^^ (-1)) = alw (nI T.2.1) (q 2) := b_ext (fun i hi => by
          rw [bt_clr (by omega) hi]
          by_cases hir : i = r
          · rw [hir, ← hasB_bt (by omega), ha]; rfl
          · rw [decide_eq_false hir]; exact Bool.and_true _)
        rw [e, hc]
        rfl
  · rw [if_neg c1, if_neg c1]
theorem eq_never (h : F9 S t dr nw T q X sd H A B I) (d : D9 S1 T q X sd H A B I) (w : WT9 T) : (one (2 * nI T.1) - 1) &&& (orF (fun r => hasB (alw (nI T.2.1) (mI S nw 2)) (nI r)) (fun r => one (mA S (t + 2) r)) T.2.1 ^^^ (-1)) = nvF (alw (nI T.2.1) (mA S1 29 2)) (one (2 * mI S1 25 0) - 1) (mA S1 27) T.2.1 := by
  rw [h.nq (by decide), d.2.1 2 (by decide), d.1.1, nv_eq]
  rw [or_congr (c' := fun r => hasB (alw (nI T.2.1) (q 2)) (nI r)) (f' := fun r => one (mA S1 27 r)) T.2.1 (fun r hr => ⟨rfl, by rw [(h.2.1.2.2 r hr).2.1, (d.1.2.2 r hr).2.1]⟩)]
theorem eq_round (h : F9 S t dr nw T q X sd H A B I) (d : D9 S1 T q X sd H A B I) (w : WT9 T) : orF (fun k => rtB (tS S t nw T.2.1) t (mN S) T.2.1 (nI k)) (fun r => one (nI r)) (2 * T.1) = orF (roC S1 T.2.1) (fun r => one (mA S1 27 r)) T.2.1 := by
  have h8 := w.1
  have h10 := w.2.1
  have htl := h.tlt
  refine b_ext (fun i hi => ?_)
  have key : (bt (orF (fun k => rtB (tS S t nw T.2.1) t (mN S) T.2.1 (nI k)) (fun r => one (nI r)) (2 * T.1)) i = true) ↔ (bt (orF (roC S1 T.2.1) (fun r => one (mA S1 27 r)) T.2.1) i = true) := by
    rw [bt_or, bt_or]
    constructor
    · rintro ⟨k, hk, hc, hb⟩
      rw [bt_one (by omega) hi] at hb
      have hik := of_decide_eq_true hb
      subst hik
      have hc : anyF _ _ 0 = true := hc
      obtain ⟨r, hr, hcr⟩ := (any_iff _ _).mp hc
      rw [Nat.zero_add] at hcr
      unfold rtC at hcr
      rw [Bool.and_eq_true, Bool.and_eq_true, h.al, h.tclo, tS_A S t nw _ (by omega), tS_A S t nw _ (by omega), (h.2.1.2.2 r hr).2.1, (h.2.1.2.2 r hr).2.2] at hcr
      have e := of_decide_eq_true hcr.2.1
      refine ⟨r, hr, ?_, by rw [(d.1.2.2 r hr).2.1, e, bt_one (by omega) hi]; exact decide_eq_true rfl⟩
      unfold roC
      rw [d.2.1 2 (by decide), d.cl9, (d.1.2.2 r hr).2.1, (d.1.2.2 r hr).2.2, hcr.1, e, decide_eq_true (show T.2.2.2.2 r &&& (_ ^^^ (-1)) = 0 from subB_iff.mp hcr.2.2)]
      rfl
    · rintro ⟨r, hr, hc, hb⟩
      obtain ⟨c, hc2, e⟩ := (w.2.2 r hr).2
      rw [(d.1.2.2 r hr).2.1, e, bt_one (by omega) hi] at hb
      have hik := of_decide_eq_true hb
      subst hik
      unfold roC at hc
      rw [Bool.and_eq_true, d.2.1 2 (by decide), d.cl9, (d.1.2.2 r hr).2.1, (d.1.2.2 r hr).2.2, e] at hc
      have hz := of_decide_eq_true hc.2
      refine ⟨i, hc2, ?_, by rw [bt_one (by omega) hi]; exact decide_eq_true rfl⟩
      show anyF _ _ 0 = true
      refine (any_iff _ _).mpr ⟨r, hr, ?_⟩
      rw [Nat.zero_add]
      unfold rtC
      rw [h.al, h.tclo, tS_A S t nw _ (by omega), tS_A S t nw _ (by omega), (h.2.1.2.2 r hr).2.1, (h.2.1.2.2 r hr).2.2, hc.1, e, decide_eq_true rfl, subB_iff.mpr (show sub _ _ from hz)]
      rfl
  cases h1 : bt (orF (fun k => rtB (tS S t nw T.2.1) t (mN S) T.2.1 (nI k)) (fun r => one (nI r)) (2 * T.1)) i with
  | true => exact (key.mp h1).symm
  | false =>
    cases h2 : bt (orF (roC S1 T.2.1) (fun r => one (mA S1 27 r)) T.2.1) i with
    | false => rfl
    | true => rw [key.mpr h2] at h1; cases h1
theorem eq_judge (h : F9 S t dr nw T q X sd H A B I) (d : D9 S1 T q X sd H A B I) : fwF (clo T.2.1 (mA (tS S t nw T.2.1) (t + 2)) (mA (tS S t nw T.2.1) (t + 3)) (mI (tS S t nw T.2.1) (mN S) 2) (mI (tS S t nw T.2.1) (mN S) 1)) (mA (tS S t nw T.2.1) 10) (mA (tS S t nw T.2.1) 11) B.1 0 = jdF (clo T.2.1 (mA S1 27) (mA S1 28) (alw (nI T.2.1) (mA S1 29 2)) (mA S1 29 0)) (mA S1 40) (mA S1 41) B.1 0 := by
  have h44 := h.1.1.2.1
  rw [h.al, h.se, h.tclo, d.cl9, d.2.1 2 (by decide), d.2.1 0 (by decide), tS_A S t nw _ (by omega), tS_A S t nw _ (by omega)]
  refine fw_jd _ _ (fun i hi => ?_)
  rw [Nat.zero_add]
  have h1 := h.2.2.2.2.2.2.2.1.2 i hi
  have h2 := d.2.2.2.2.2.2.1.2 i hi
  exact ⟨h1.1.trans h2.1.symm, h1.2.trans h2.2.symm⟩
theorem eq_told (h : F9 S t dr nw T q X sd H A B I) (d : D9 S1 T q X sd H A B I) (w : WT9 T) (hq : WN9 T.1 q) (x : Int32) : to7V S t nw T.1 T.2.1 x = toV S1 T.2.1 x := by
  unfold to7V toV
  by_cases c : inI x 0 12 = true
  · rw [if_pos c, if_pos c]
    obtain ⟨k, hk, e⟩ := inI_of (n := 12) rfl c
    rw [e, nI_clamp (by omega)]
    have ec : clo T.2.1 (mA (tS S t nw T.2.1) (t + 2)) (mA (tS S t nw T.2.1) (t + 3)) (mI (tS S t nw T.2.1) (mN S) 2) (mI (tS S t nw T.2.1) (mN S) 1) = clo T.2.1 (mA S1 27) (mA S1 28) (alw (nI T.2.1) (mA S1 29 2)) (mA S1 29 0) := by
      rw [h.al, h.se, h.tclo, d.cl9, d.2.1 2 (by decide), d.2.1 0 (by decide)]
    match k, hk with
    | 0, _ => exact d.1.1.symm
    | 1, _ => exact d.1.2.1.symm
    | 2, _ => exact h.2.2.2.1.1.trans d.2.2.1.1.symm
    | 3, _ => exact (h.nq (by decide)).trans (d.2.1 0 (by decide)).symm
    | 4, _ => exact (h.nq (by decide)).trans (d.2.1 1 (by decide)).symm
    | 5, _ => exact (h.nq (by decide)).trans (d.2.1 2 (by decide)).symm
    | 6, _ => exact (h.nq (by decide)).trans (d.2.1 3 (by decide)).symm
    | 7, _ => exact ec
    | 8, _ =>
      show qcF (clo T.2.1 (mA (tS S t nw T.2.1) (t + 2)) (mA (tS S t nw T.2.1) (t + 3)) (mI (tS S t nw T.2.1) (mN S) 2) (mI (tS S t nw T.2.1) (mN S) 1)) T.1 = qrF _ 8
      rw [ec, d.cl9, d.2.1 2 (by decide), d.2.1 0 (by decide)]
      exact qc_qr w.1 (w.cl9 hq.1)
    | 9, _ =>
      show qcF (mI S nw 1) T.1 = qrF (mA S1 29 1) 8
      rw [h.nq (by decide), d.2.1 1 (by decide)]
      exact qc_qr w.1 hq.2
    | 10, _ => exact h.2.2.2.2.2.2.1.1.trans d.2.2.2.2.2.1.1.symm
    | 11, _ => exact h.2.2.2.2.2.2.2.1.1.trans d.2.2.2.2.2.2.1.1.symm
    | 12, _ => exact h.2.2.2.2.2.1.1.trans d.2.2.2.2.1.1.symm
    | k + 13, hk => exact absurd hk (by omega)
  · rw [if_neg c, if_neg c]
theorem eq_rule (h : F9 S t dr nw T q X sd H A B I) (d : D9 S1 T q X sd H A B I) (w : WT9 T) (r wh : Int32) : ru7V S t nw T.2.1 r wh = ruV S1 T.2.1 r wh := by
  unfold ru7V ruV
  rw [hs_rul w.2.1]
  by_cases c1 : rulB (nI T.2.1) r = true
  · rw [if_pos c1, if_pos c1]
    obtain ⟨j, hj, e⟩ := rulB_in w.2.1 c1
    by_cases c : inI wh 0 3 = true
    · rw [if_pos c, if_pos c]
      obtain ⟨k, hk, e2⟩ := inI_of (n := 3) rfl c
      have h10 := w.2.1
      rw [e, e2, nI_clamp (by omega), nI_clamp (by omega)]
      match k, hk with
      | 0, _ => exact (h.2.1.2.2 j hj).1.trans (d.1.2.2 j hj).1.symm
      | 1, _ => exact (h.2.1.2.2 j hj).2.1.trans (d.1.2.2 j hj).2.1.symm
      | 2, _ => exact (h.2.1.2.2 j hj).2.2.trans (d.1.2.2 j hj).2.2.symm
      | 3, _ =>
        show bI (hasB (mI S nw 2) (nI j)) = bitI (mA S1 29 2) (nI j)
        rw [bit_has, h.nq (by decide), d.2.1 2 (by decide)]
      | k + 4, hk => exact absurd hk (by omega)
    · rw [if_neg c, if_neg c]
  · rw [if_neg c1, if_neg c1]
end R93
