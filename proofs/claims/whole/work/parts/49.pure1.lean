/-! what follows from a set: one thing, there is one, and how it grows -/
theorem clo_congr {nr : Nat} {cn nd cn' nd' : Nat → Int32} (h : ∀ r, r < nr → cn r = cn' r ∧ nd r = nd' r) (bb x : Int32) : clo nr cn nd bb x = clo nr cn' nd' bb x := by
  have e : cls9 nr cn nd bb = cls9 nr cn' nd' bb := by
    funext z
    apply propext
    constructor
    · intro k r hr hb hs
      rw [← (h r hr).1]
      rw [← (h r hr).2] at hs
      exact k r hr hb hs
    · intro k r hr hb hs
      rw [(h r hr).1]
      rw [(h r hr).2] at hs
      exact k r hr hb hs
  have e2 : IsClo nr cn nd bb x = IsClo nr cn' nd' bb x := by
    funext z
    unfold IsClo
    rw [e]
  unfold clo
  rw [e2]
theorem clo_ex {nr : Nat} {cn nd : Nat → Int32} {bb : Int32} (hT : Tn nr cn) : ∀ n x, ms9 x ≤ n → ∃ res, IsClo nr cn nd bb x res
  | n, x, hn => by
    by_cases hc : cls9 nr cn nd bb x
    · exact ⟨x, sub_refl x, hc, fun z hz _ => hz⟩
    · unfold cls9 at hc
      simp only [Classical.not_forall] at hc
      obtain ⟨r, hr, hb, hs, hn1⟩ := hc
      obtain ⟨c, hc16, ec⟩ := hT.2 r hr
      have hf : hasB x (nI c) = false := by
        cases hh : hasB x (nI c) with
        | false => rfl
        | true =>
          rw [ec] at hn1
          exact absurd ((sub_one (by omega)).mpr (by rw [← hasB_bt (by omega)]; exact hh)) hn1
      have hlt := ms9_lt (show c < 32 by omega) hf
      cases n with
      | zero => exact absurd hlt (by omega)
      | succ n =>
        obtain ⟨res, h1, h2, h3⟩ := clo_ex hT n (x ||| one (nI c)) (by omega)
        refine ⟨res, sub_trans (sub_or_left _ _) h1, h2, fun z hz hzc => h3 z (or_sub hz ?_) hzc⟩
        rw [← ec]
        exact hzc r hr hb (sub_trans hs hz)
theorem clo_is {nr : Nat} {cn nd : Nat → Int32} (hT : Tn nr cn) (bb x : Int32) : IsClo nr cn nd bb x (clo nr cn nd bb x) := by
  obtain ⟨res, h⟩ := clo_ex (nd := nd) (bb := bb) hT _ x (Nat.le_refl _)
  rw [clo_eq h]
  exact h
theorem clo_mono {nr : Nat} {cn nd : Nat → Int32} (hT : Tn nr cn) {b b' x : Int32} (h : sub b b') : sub (clo nr cn nd b x) (clo nr cn nd b' x) := by
  refine (clo_is hT b x).2.2 _ (clo_is hT b' x).1 (fun r hr hb hs => (clo_is hT b' x).2.1 r hr ?_ hs)
  have h10 := hT.1
  rw [hasB_bt (by omega)] at hb ⊢
  exact sub_iff.mp h r (by omega) hb
theorem clo_none {nr : Nat} {cn nd : Nat → Int32} {b x : Int32} (h : ∀ r, r < nr → hasB b (nI r) = false) : clo nr cn nd b x = x :=
  clo_eq ⟨sub_refl x, fun r hr hb => absurd hb (by rw [h r hr]; decide), fun z hz _ => hz⟩
theorem clo_mask {nr : Nat} {cn nd : Nat → Int32} (hT : Tn nr cn) {b x M : Int32} (hx : sub x M) (h : ∀ r, r < nr → sub (one (cn r)) M) : sub (clo nr cn nd b x) M := (clo_is hT b x).2.2 M hx (fun r hr _ _ => h r hr)
theorem has_sub {x y : Int32} {n : Nat} (hn : n < 32) (h : sub x y) (hx : hasB x (nI n) = true) : hasB y (nI n) = true := by
  rw [hasB_bt hn] at hx ⊢
  exact sub_iff.mp h n hn hx
/-! the best of many -/
theorem bst_congr {P P' : Nat → Bool} {wt wt' : Nat → Int32} : ∀ n, (∀ k, k < n → P k = P' k ∧ wt k = wt' k) → bstF P wt n = bstF P' wt' n
  | 0, _ => rfl
  | n + 1, h => by
    have e := bst_congr n (fun k hk => h k (by omega))
    rw [bstF_s, bstF_s, e]
    unfold bstS
    cases hb : bstF P' wt' n with
    | none => simp only [(h n (by omega)).1]
    | some b =>
      have hbn := bstF_lt hb
      simp only [(h n (by omega)).1, (h n (by omega)).2, (h b (by omega)).2]
theorem bst_ext {P : Nat → Bool} {wt : Nat → Int32} {n : Nat} : ∀ m, (∀ k, n ≤ k → k < n + m → P k = false) → bstF P wt (n + m) = bstF P wt n
  | 0, _ => rfl
  | m + 1, h => by
    rw [show n + (m + 1) = n + m + 1 by omega, bstF_s0 (h (n + m) (by omega) (by omega))]
    exact bst_ext m (fun k h1 h2 => h k h1 (by omega))
theorem bst_no {P : Nat → Bool} {wt : Nat → Int32} {n : Nat} (h : ∀ k, k < n → P k = false) : bstF P wt n = none := by
  have := bst_ext (P := P) (wt := wt) (n := 0) n (fun k _ h2 => h k (by omega))
  rw [Nat.zero_add] at this
  exact this
theorem bst_yes {P : Nat → Bool} {wt : Nat → Int32} : ∀ {n k : Nat}, k < n → P k = true → ∃ b, bstF P wt n = some b
  | 0, k, h, _ => absurd h (Nat.not_lt_zero k)
  | n + 1, k, h, hp => by
    by_cases hk : k = n
    · subst hk
      cases hb : bstF P wt k with
      | none => exact ⟨k, bstF_sn hp hb⟩
      | some b =>
        by_cases hw : wt k < wt b
        · exact ⟨k, bstF_sl hp hb hw⟩
        · exact ⟨b, bstF_sg hb hw⟩
    · obtain ⟨b, hb⟩ := bst_yes (n := n) (by omega) hp
      by_cases hw : wt n < wt b
      · by_cases hp2 : P n = true
        · exact ⟨n, bstF_sl hp2 hb hw⟩
        · exact ⟨b, by rw [bstF_s0 (by simpa using hp2)]; exact hb⟩
      · exact ⟨b, bstF_sg hb hw⟩
/-! sets of rules that are gone by -/
theorem bt_alw {nr : Nat} (h : nr ≤ 10) (fo : Int32) {i : Nat} (hi : i < 32) : bt (alw (nI nr) fo) i = (decide (i < nr) && !bt fo i) := by
  unfold alw
  rw [b_and, bt_low nr (by omega) i hi, b_xor, b_m1 i hi]
  cases bt fo i <;> rfl
theorem nI_hi {k nr : Nat} (hk : k < 2 ^ nr) {i : Nat} (hi : i < 32) (h : bt (nI k) i = true) : i < nr := by
  rw [b_nI k hi] at h
  exact Classical.byContradiction (fun z => by
    have h1 : k < 2 ^ i := Nat.lt_of_lt_of_le hk (Nat.pow_le_pow_right (by decide) (by omega))
    rw [Nat.testBit_lt_two_pow h1] at h
    cases h)
theorem al_sub {nr k : Nat} (h : nr ≤ 10) (hk : k < 2 ^ nr) (fo : Int32) : (nI k &&& fo = 0) ↔ sub (nI k) (alw (nI nr) fo) := by
  constructor
  · intro e
    refine sub_iff.mpr (fun i hi hb => ?_)
    rw [bt_alw h fo hi, decide_eq_true (nI_hi hk hi hb)]
    have h1 : bt (nI k &&& fo) i = false := by rw [e]; exact b_0 i
    rw [b_and, hb] at h1
    rw [show bt fo i = false from h1]
    rfl
  · intro s
    refine b_ext (fun i hi => ?_)
    rw [b_and, b_0]
    cases hb : bt (nI k) i with
    | false => rfl
    | true =>
      have h1 := sub_iff.mp s i hi hb
      rw [bt_alw h fo hi, Bool.and_eq_true] at h1
      cases hf : bt fo i with
      | false => rfl
      | true => rw [hf] at h1; exact absurd h1.2 (by decide)
theorem sub_le {a b : Nat} (ha : a < 1024) (hb : b < 1024) (h : sub (nI a) (nI b)) : a ≤ b := by
  have e : a &&& b = a := by
    apply Nat.eq_of_testBit_eq
    intro i
    rw [Nat.testBit_and]
    by_cases hi : i < 32
    · cases h1 : a.testBit i with
      | false => rfl
      | true =>
        have := sub_iff.mp h i hi (by rw [b_nI a hi]; exact h1)
        rw [b_nI b hi] at this
        rw [this]; rfl
    · have h1 : a.testBit i = false := Nat.testBit_lt_two_pow (Nat.lt_of_lt_of_le ha (Nat.pow_le_pow_right (n := 2) (i := 10) (by decide) (by omega)))
      rw [h1]; rfl
  rw [← e]
  exact Nat.and_le_right
theorem subB_iff {x y : Int32} : subB x y = true ↔ sub x y := by unfold subB; exact @decide_eq_true_iff (sub x y) (Classical.propDecidable _)
theorem dec_sub {nr k : Nat} (h : nr ≤ 10) (hk : k < 2 ^ nr) (fo : Int32) : decide (nI k &&& fo = 0) = subB (nI k) (alw (nI nr) fo) := by
  by_cases c : nI k &&& fo = 0
  · rw [decide_eq_true c, subB_iff.mpr ((al_sub h hk fo).mp c)]
  · rw [decide_eq_false c]
    cases hs : subB (nI k) (alw (nI nr) fo) with
    | false => rfl
    | true => exact absurd ((al_sub h hk fo).mpr (subB_iff.mp hs)) c
theorem sub_big {nr k : Nat} (h : nr ≤ 10) (hk : k < 2 ^ nr) (fo : Int32) (hA : aN nr fo < k) : subB (nI k) (alw (nI nr) fo) = false := by
  cases hs : subB (nI k) (alw (nI nr) fo) with
  | false => rfl
  | true =>
    have h1 := subB_iff.mp hs
    have h2 := aN_ok h fo
    have h3 := pw10 h
    rw [h2.1] at h1
    exact absurd (sub_le (by omega) (by omega) h1) (by omega)
theorem al_none {nr : Nat} (h : nr ≤ 10) (al : Int32) : ∀ r, r < nr → hasB (al &&& (al ^^^ (-1))) (nI r) = false := fun r hr => by
  rw [hasB_bt (by omega), b_and, b_xor, b_m1 r (by omega)]
  cases bt al r <;> rfl
theorem and_sub_l (x y : Int32) : sub (x &&& y) x := sub_iff.mpr (fun i _ h => by rw [b_and, Bool.and_eq_true] at h; exact h.1)
