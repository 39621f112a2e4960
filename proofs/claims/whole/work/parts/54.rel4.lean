/-! what was asked -/
theorem fit_iff {nr : Nat} {cn nd aw as ai : Nat → Int32} {bb : Int32} : ∀ n k, (fitB nr cn nd aw as ai bb n k = true ↔ ∀ i, i < n → bI (hasB (clo nr cn nd bb (aw (k + i))) (as (k + i))) = ai (k + i))
  | 0, k => ⟨fun _ i hi => absurd hi (Nat.not_lt_zero i), fun _ => rfl⟩
  | n + 1, k => by
    have ih := fit_iff (nr := nr) (cn := cn) (nd := nd) (aw := aw) (as := as) (ai := ai) (bb := bb) n (k + 1)
    by_cases hc : bI (hasB (clo nr cn nd bb (aw k)) (as k)) = ai k
    · rw [show fitB nr cn nd aw as ai bb (n + 1) k = fitB nr cn nd aw as ai bb n (k + 1) from if_pos hc, ih]
      constructor
      · intro h i hi
        cases i with
        | zero => exact hc
        | succ i =>
          have := h i (by omega)
          rw [show k + 1 + i = k + (i + 1) by omega] at this
          exact this
      · intro h i hi
        have := h (i + 1) (by omega)
        rw [show k + (i + 1) = k + 1 + i by omega] at this
        exact this
    · rw [show fitB nr cn nd aw as ai bb (n + 1) k = false from if_neg hc]
      exact ⟨fun h => (by cases h), fun h => absurd (h 0 (by omega)) hc⟩
theorem ib_iff {S : Mem} {nr : Nat} {bb : Int32} : ∀ n, (ibF S nr bb n = true ↔ ∀ i, i < n → bI (hasB (clo nr (mA S 27) (mA S 28) bb (mA S 36 i)) (mA S 37 i)) = mA S 38 i)
  | 0 => ⟨fun _ i hi => absurd hi (Nat.not_lt_zero i), fun _ => rfl⟩
  | n + 1 => by
    have ih := ib_iff (S := S) (nr := nr) (bb := bb) n
    show (ibF S nr bb n && ibC S nr bb n) = true ↔ _
    rw [Bool.and_eq_true, ih]
    constructor
    · intro h i hi
      by_cases hin : i = n
      · rw [hin]; exact of_decide_eq_true h.2
      · exact h.1 i (by omega)
    · intro h
      exact ⟨fun i hi => h i (by omega), decide_eq_true (h n (by omega))⟩
theorem bv_eq {S : Mem} {nr an : Nat} {F : Nat → Bool} (hn : nr ≤ 10) : ∀ n, (∀ k, k < n → F k = ibF S nr (nI k) an) → bvG F (nI (2 ^ nr - 1)) n = bvF S nr an n
  | 0, _ => by
    show ((0, -1, nI (2 ^ nr - 1)) : Int32 × Int32 × Int32) = (0, -1, one (nI nr) - 1)
    rw [mask_nI nr (by omega)]
  | n + 1, h => by
    have ih := bv_eq (S := S) (nr := nr) (an := an) (F := F) hn n (fun k hk => h k (by omega))
    show (if F n = true then _ else bvG F (nI (2 ^ nr - 1)) n) = (if ibF S nr (nI n) an = true then _ else bvF S nr an n)
    rw [ih, h n (by omega)]
theorem an_eq {S : Mem} {nr an : Nat} {F : Nat → Bool} {cl : Nat → Int32} : ∀ n, (∀ k, k < n → F k = ibF S nr (nI k) an ∧ cl k = clo nr (mA S 27) (mA S 28) (nI k) (mA S 29 0)) → anG F cl n = anT S nr an n
  | 0, _ => rfl
  | n + 1, h => by
    have ih := an_eq (S := S) (nr := nr) (an := an) (F := F) (cl := cl) n (fun k hk => h k (by omega))
    show (if F n = true then ((anG F cl n).1 + 1, adF (anG F cl n).2 (cl n) 16) else anG F cl n) = (if ibF S nr (nI n) an = true then ((anT S nr an n).1 + 1, adF (anT S nr an n).2 (clo nr (mA S 27) (mA S 28) (nI n) (mA S 29 0)) 16) else anT S nr an n)
    rw [ih, (h n (by omega)).1, (h n (by omega)).2]
section R94
variable {S S1 : Mem} {t dr nw : Nat} {T : TT9} {q : Nat → Int32} {X : XX9} {sd : Int32} {H : HH9} {A : AA9} {B : BB9} {I : II9}
theorem eq_fit9 (h : F9 S t dr nw T q X sd H A B I) (d : D9 S1 T q X sd H A B I) (k : Nat) : ft7 S t T.2.1 A.1 k = ibF S1 T.2.1 (nI k) A.1 := by
  have key : ft7 S t T.2.1 A.1 k = true ↔ ibF S1 T.2.1 (nI k) A.1 = true := by
    unfold ft7
    rw [fit_iff, ib_iff]
    have e : ∀ i, i < A.1 → ((bI (hasB (clo T.2.1 (mA S (t + 2)) (mA S (t + 3)) (nI k) (mA S 6 (0 + i))) (mA S 7 (0 + i))) = mA S 8 (0 + i)) ↔ (bI (hasB (clo T.2.1 (mA S1 27) (mA S1 28) (nI k) (mA S1 36 i)) (mA S1 37 i)) = mA S1 38 i)) := fun i hi => by
      have h1 := h.2.2.2.2.2.2.1.2 i hi
      have h2 := d.2.2.2.2.2.1.2 i hi
      rw [Nat.zero_add, h.cl9, d.cl9, h1.1, h1.2.1, h1.2.2, h2.1, h2.2.1, h2.2.2]
    exact ⟨fun g i hi => (e i hi).mp (g i hi), fun g i hi => (e i hi).mpr (g i hi)⟩
  cases h1 : ft7 S t T.2.1 A.1 k with
  | true => exact (key.mp h1).symm
  | false =>
    cases h2 : ibF S1 T.2.1 (nI k) A.1 with
    | false => rfl
    | true => rw [key.mpr h2] at h1; cases h1
theorem eq_believed (h : F9 S t dr nw T q X sd H A B I) (d : D9 S1 T q X sd H A B I) (w : WT9 T) (wh : Int32) : bv7V S t T.2.1 A.1 wh = bvV S1 T.2.1 A.1 wh := by
  unfold bv7V bvV bv7
  rw [in02_i, bv_eq (S := S1) (an := A.1) w.2.1 (2 ^ T.2.1) (fun k _ => eq_fit9 h d k)]
theorem eq_askNext (h : F9 S t dr nw T q X sd H A B I) (d : D9 S1 T q X sd H A B I) : an7V S t nw T.1 T.2.1 A.1 = anV S1 T.2.1 A.1 T.1 := by
  unfold an7V anV an7
  rw [an_eq (S := S1) (nr := T.2.1) (an := A.1) (2 ^ T.2.1) (fun k _ => ⟨eq_fit9 h d k, by show clo T.2.1 (mA S (t + 2)) (mA S (t + 3)) (nI k) (mI S nw 0) = _; rw [h.cl9, d.cl9, h.nq (by decide), d.2.1 0 (by decide)]⟩)]
end R94
