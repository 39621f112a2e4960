/-! quarrels -/
theorem b_3 : ∀ i, i < 32 → bt 3 i = decide (i < 2) := by decide +kernel
theorem i2k : ∀ k, k < 8 → (2 : Int32) * nI k = nI (2 * k) ∧ (2 : Int32) * nI k + 1 = nI (2 * k + 1) := by decide +kernel
theorem qr_qc {x : Int32} {k : Nat} (hk : k < 8) : qr2 x k = qcB x k := by
  unfold qr2 qcB
  rw [(i2k k hk).2, (i2k k hk).1, hasB_bt (by omega), hasB_bt (by omega)]
  have key : ((x >>> (nI (2 * k) &&& 31)) &&& 3 = 3) ↔ (bt x (2 * k) = true ∧ bt x (2 * k + 1) = true) := by
    constructor
    · intro e
      have h0 : bt ((x >>> (nI (2 * k) &&& 31)) &&& 3) 0 = bt 3 0 := by rw [e]
      have h1 : bt ((x >>> (nI (2 * k) &&& 31)) &&& 3) 1 = bt 3 1 := by rw [e]
      rw [b_and, b_sshr (2 * k) (by omega) x (by decide), if_pos (by omega), b_3 0 (by decide)] at h0
      rw [b_and, b_sshr (2 * k) (by omega) x (by decide), if_pos (by omega), b_3 1 (by decide)] at h1
      refine ⟨?_, ?_⟩
      · have : (bt x (2 * k + 0) && true) = true := h0
        rw [Bool.and_true] at this
        exact this
      · have : (bt x (2 * k + 1) && true) = true := h1
        rw [Bool.and_true] at this
        exact this
    · intro h
      refine b_ext (fun i hi => ?_)
      rw [b_and, b_3 i hi]
      by_cases h2 : i < 2
      · rw [decide_eq_true h2, Bool.and_true, b_sshr (2 * k) (by omega) x hi, if_pos (by omega)]
        rcases (show i = 0 ∨ i = 1 by omega) with rfl | rfl
        · exact h.1
        · exact h.2
      · rw [decide_eq_false h2, Bool.and_false]
  by_cases c : (x >>> (nI (2 * k) &&& 31)) &&& 3 = 3
  · rw [decide_eq_true c, (key.mp c).1, (key.mp c).2]; rfl
  · rw [decide_eq_false c]
    cases h1 : bt x (2 * k) with
    | false => rfl
    | true =>
      cases h2 : bt x (2 * k + 1) with
      | false => rfl
      | true => exact absurd (key.mpr ⟨h1, h2⟩) c
theorem qrF_qcF {x : Int32} : ∀ n, n ≤ 8 → qrF x n = qcF x n
  | 0, _ => rfl
  | n + 1, h => by
    show qrF x n ||| (if qr2 x n = true then one (nI n) else 0) = if qcB x n = true then qcF x n ||| one (nI n) else qcF x n
    rw [qrF_qcF n (by omega), qr_qc (by omega)]
    by_cases c : qcB x n = true
    · rw [if_pos c, if_pos c]
    · rw [if_neg c, if_neg c, or0]
theorem qcB_out {x : Int32} {th k : Nat} (h8 : th ≤ 8) (hs : sub x (nI (2 ^ (2 * th) - 1))) (h1 : th ≤ k) (h2 : k < 8) : qcB x k = false := by
  unfold qcB
  rw [(i2k k h2).1, hasB_bt (by omega)]
  cases hb : bt x (2 * k) with
  | false => rfl
  | true =>
    have := sub_iff.mp hs (2 * k) (by omega) hb
    rw [bt_mask (2 * th) (by omega) (2 * k) (by omega)] at this
    exact absurd (of_decide_eq_true this) (by omega)
theorem qcF_ext {x : Int32} {n : Nat} : ∀ m, (∀ k, n ≤ k → k < n + m → qcB x k = false) → qcF x (n + m) = qcF x n
  | 0, _ => rfl
  | m + 1, h => by
    have e : qcF x (n + m + 1) = qcF x (n + m) := if_neg (by rw [h (n + m) (by omega) (by omega)]; decide)
    show qcF x (n + m + 1) = _
    rw [e]
    exact qcF_ext m (fun k h1 h2 => h k h1 (by omega))
theorem qc_qr {x : Int32} {th : Nat} (h8 : th ≤ 8) (hs : sub x (nI (2 ^ (2 * th) - 1))) : qcF x th = qrF x 8 := by
  rw [qrF_qcF 8 (Nat.le_refl _)]
  have := qcF_ext (x := x) (n := th) (8 - th) (fun k h1 h2 => qcB_out h8 hs h1 (by omega))
  rw [show th + (8 - th) = 8 by omega] at this
  exact this.symm
theorem or_0 {x y : Int32} : x ||| y = 0 ↔ x = 0 ∧ y = 0 := by
  constructor
  · intro e
    have h : ∀ i, (bt x i || bt y i) = false := fun i => by rw [← b_or, e]; exact b_0 i
    exact ⟨b_ext (fun i _ => by rw [b_0]; exact (Bool.or_eq_false_iff.mp (h i)).1), b_ext (fun i _ => by rw [b_0]; exact (Bool.or_eq_false_iff.mp (h i)).2)⟩
  · intro h
    rw [h.1, h.2]
    rfl
theorem one_ne0 {n : Nat} (hn : n < 32) : ¬ one (nI n) = 0 := fun e => by
  have h := bt_one hn hn
  rw [e, b_0, decide_eq_true rfl] at h
  cases h
theorem qc_0 {x : Int32} : ∀ n, n ≤ 8 → (qcF x n = 0 ↔ ∀ k, k < n → qcB x k = false)
  | 0, _ => ⟨fun _ k h => absurd h (Nat.not_lt_zero k), fun _ => rfl⟩
  | n + 1, h => by
    have ih := qc_0 (x := x) n (by omega)
    by_cases c : qcB x n = true
    · rw [show qcF x (n + 1) = qcF x n ||| one (nI n) from if_pos c, or_0]
      exact ⟨fun e => absurd e.2 (one_ne0 (by omega)), fun e => absurd (e n (by omega)) (by rw [c]; decide)⟩
    · rw [show qcF x (n + 1) = qcF x n from if_neg c, ih]
      refine ⟨fun e k hk => ?_, fun e k hk => e k (by omega)⟩
      by_cases hk2 : k = n
      · rw [hk2]; simpa using c
      · exact e k (by omega)
theorem qcB_sub {x y : Int32} {k : Nat} (hk : k < 8) (h : sub x y) (hx : qcB x k = true) : qcB y k = true := by
  unfold qcB at hx ⊢
  rw [(i2k k hk).2, (i2k k hk).1] at hx ⊢
  rw [Bool.and_eq_true] at hx
  rw [has_sub (by omega) h hx.1, has_sub (by omega) h hx.2]
  rfl
theorem qc_sub {x y : Int32} {th : Nat} (h8 : th ≤ 8) (h : sub x y) (hy : qcF y th = 0) : qcF x th = 0 := by
  rw [qc_0 th h8] at hy ⊢
  intro k hk
  cases hx : qcB x k with
  | false => rfl
  | true => exact absurd (hy k hk) (by rw [qcB_sub (by omega) h hx]; decide)
/-! sayings, sets, rules that there are -/
theorem hs_in {n : Nat} (hn : n ≤ 100) (s : Int32) : hsB (nI n) s = inI s 0 (nI n - 1) := by
  unfold hsB inI
  rw [decide_eq_decide]
  have e : (nI n - 1).toInt = (n : Int) - 1 := by
    have : ∀ n, n ≤ 100 → (nI n - 1).toInt = (n : Int) - 1 := by decide +kernel
    exact this n hn
  have e2 : (nI n).toInt = (n : Int) := by
    have : ∀ n, n ≤ 100 → (nI n).toInt = (n : Int) := by decide +kernel
    exact this n hn
  rw [Int32.le_iff_toInt_le, Int32.lt_iff_toInt_lt, Int32.le_iff_toInt_le, e, e2]
  omega
theorem hs_say {th : Nat} (h8 : th ≤ 8) (s : Int32) : hsB (2 * nI th) s = sayB (nI th) s := by
  unfold sayB
  rw [two_nI th (by omega)]
  exact hs_in (by omega) s
theorem hs_rul {nr : Nat} (h : nr ≤ 10) (s : Int32) : hsB (nI nr) s = rulB (nI nr) s := hs_in (by omega) s
theorem say_in {th : Nat} {s : Int32} (h8 : th ≤ 8) (h : sayB (nI th) s = true) : ∃ j : Nat, j < 2 * th ∧ s = nI j := by
  rw [← hs_say h8, two_nI th (by omega)] at h
  exact hsB_in (by omega) h
theorem sub_set {m : Nat} (hm : m ≤ 16) (x : Int32) : subB x (one (nI m) - 1) = inI x 0 (one (nI m) - 1) := by
  have hp : 2 ^ m ≤ 65536 := Nat.pow_le_pow_right (n := 2) (i := m) (j := 16) (by decide) hm
  have hp1 := Nat.one_le_two_pow (n := m)
  have key : sub x (one (nI m) - 1) ↔ (0 ≤ x ∧ x ≤ one (nI m) - 1) := by
    rw [mask_nI m hm]
    constructor
    · intro s
      have h := low_nat (x := x) (n := m) (fun i h1 h2 => by
        cases hb : bt x i with
        | false => rfl
        | true =>
          have := sub_iff.mp s i h2 hb
          rw [bt_mask m hm i h2] at this
          exact absurd (of_decide_eq_true this) (by omega))
      generalize x.toBitVec.toNat = k at h
      rw [h.1]
      exact ⟨(nI_leI (a := 0) (b := k) (by decide) (by omega)).mpr (by omega), nI_le (by omega) (by omega)⟩
    · intro h
      obtain ⟨k, hk, e⟩ := nI_of (i_not_lt h.1)
      subst e
      have hk2 := n_ge (b := k) h.2 (by omega) (by omega)
      refine sub_iff.mpr (fun i hi hb => ?_)
      rw [bt_mask m hm i hi, decide_eq_true (nI_hi (k := k) (nr := m) (by omega) hi hb)]
  by_cases c : sub x (one (nI m) - 1)
  · rw [subB_iff.mpr c]; exact (decide_eq_true (key.mp c)).symm
  · cases hs : subB x (one (nI m) - 1) with
    | false => exact (decide_eq_false (fun z => c (key.mpr z))).symm
    | true => exact absurd (subB_iff.mp hs) c
theorem sub_setB {th : Nat} (h8 : th ≤ 8) (x : Int32) : subB x (one (2 * nI th) - 1) = setB (nI th) x := by
  unfold setB
  rw [two_nI th (by omega)]
  exact sub_set (by omega) x
