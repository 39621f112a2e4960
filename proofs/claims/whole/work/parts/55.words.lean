/-! words: the least set of so many -/
def npN (k : Nat) : Nat → Nat
  | 0 => 0
  | n + 1 => npN k n + (k.testBit n).toNat
theorem cnt_np (k : Nat) : ∀ n, n ≤ 32 → cntI (nI k) n = nI (npN k n)
  | 0, _ => rfl
  | n + 1, h => by
    show cntI (nI k) n + bitI (nI k) (nI n) = nI (npN k n + (k.testBit n).toNat)
    rw [cnt_np k n (by omega), bitI_bt (by omega), b_nI k (by omega), ← nI_add]
    cases k.testBit n <;> rfl
theorem cw_np (k : Nat) : cw k = nI (npN k 16) := cnt_np k 16 (by decide)
theorem np_le (k : Nat) {c : Nat} (hk : k < 2 ^ c) : ∀ n, npN k n ≤ c ∧ npN k n ≤ n
  | 0 => ⟨Nat.zero_le _, Nat.le_refl _⟩
  | n + 1 => by
    have ih := np_le k hk n
    show npN k n + (k.testBit n).toNat ≤ c ∧ npN k n + (k.testBit n).toNat ≤ n + 1
    by_cases hn : n < c
    · have : (k.testBit n).toNat ≤ 1 := by cases k.testBit n <;> decide
      omega
    · rw [Nat.testBit_lt_two_pow (Nat.lt_of_lt_of_le hk (Nat.pow_le_pow_right (by decide) (by omega)))]
      show npN k n + 0 ≤ c ∧ npN k n + 0 ≤ n + 1
      omega
theorem np_0 (k : Nat) : ∀ n, npN k n = 0 → ∀ i, i < n → k.testBit i = false
  | 0, _, i, hi => absurd hi (Nat.not_lt_zero i)
  | n + 1, h, i, hi => by
    have h : npN k n + (k.testBit n).toNat = 0 := h
    by_cases hin : i = n
    · rw [hin]
      cases hb : k.testBit n with
      | false => rfl
      | true => rw [hb] at h; exact absurd h (by show ¬ (npN k n + 1 = 0); omega)
    · exact np_0 k n (by omega) i (by omega)
theorem np_00 {k : Nat} (hk : k < 65536) (h : npN k 16 = 0) : k = 0 := by
  apply Nat.eq_of_testBit_eq
  intro i
  rw [Nat.zero_testBit]
  by_cases hi : i < 16
  · exact np_0 k 16 h i hi
  · exact Nat.testBit_lt_two_pow (Nat.lt_of_lt_of_le hk (Nat.pow_le_pow_right (n := 2) (i := 16) (by decide) (by omega)))
theorem tb_add {w k : Nat} (hk : k < 2 ^ w) (i : Nat) : (2 ^ w + k).testBit i = (decide (w = i) || k.testBit i) := by
  have e := Nat.two_pow_add_eq_or_of_lt hk 1
  rw [Nat.mul_one] at e
  rw [e, Nat.testBit_or, Nat.testBit_two_pow]
theorem np_add {w k : Nat} (hk : k < 2 ^ w) : ∀ n, npN (2 ^ w + k) n = npN k n + (if w < n then 1 else 0)
  | 0 => rfl
  | n + 1 => by
    show npN (2 ^ w + k) n + ((2 ^ w + k).testBit n).toNat = npN k n + (k.testBit n).toNat + _
    rw [np_add hk n, tb_add hk]
    by_cases h1 : w = n
    · subst h1
      rw [if_neg (by omega), if_pos (by omega), decide_eq_true rfl, Nat.testBit_lt_two_pow hk]
      rfl
    · rw [decide_eq_false h1, Bool.false_or]
      by_cases h2 : w < n
      · rw [if_pos h2, if_pos (by omega)]; omega
      · rw [if_neg h2, if_neg (by omega)]; omega
theorem nI_pow {w k : Nat} (hw : w < 16) (hk : k < 2 ^ w) : nI (2 ^ w + k) = one (nI w) ||| nI k := b_ext (fun i hi => by
  rw [b_nI _ hi, tb_add hk, b_or, bt_one (by omega) hi, b_nI _ hi]
  by_cases h : w = i
  · rw [decide_eq_true h, decide_eq_true h.symm]
  · rw [decide_eq_false h, decide_eq_false (fun e => h e.symm)])
def AvN (j j' k : Nat) : Prop := k.testBit j = false ∧ k.testBit j' = false
theorem av_add {j j' w k : Nat} (hk : k < 2 ^ w) : AvN j j' (2 ^ w + k) ↔ ((¬ w = j ∧ ¬ w = j') ∧ AvN j j' k) := by
  unfold AvN
  rw [tb_add hk, tb_add hk, Bool.or_eq_false_iff, Bool.or_eq_false_iff, decide_eq_false_iff_not, decide_eq_false_iff_not]
  constructor
  · rintro ⟨⟨a, b⟩, c, d⟩; exact ⟨⟨a, c⟩, b, d⟩
  · rintro ⟨⟨a, c⟩, b, d⟩; exact ⟨⟨a, b⟩, c, d⟩
/-- the least below n of which P is so, beside what is chosen -/
def LvN (ch : Int32) (P : Nat → Prop) (n : Nat) (v : Int32) : Prop := (v = -1 ∧ ∀ k, k < n → ¬ P k) ∨ (∃ k, k < n ∧ v = ch ||| nI k ∧ P k ∧ ∀ i, i < k → ¬ P i)
def PwN (Q : Int32 → Bool) (j j' c : Nat) (ch : Int32) (k : Nat) : Prop := npN k 16 = c ∧ AvN j j' k ∧ Q (ch ||| nI k) = true
theorem n31b {k : Nat} (hk : k < 65536) : bt (nI k) 31 = false := by
  rw [b_nI k (by decide)]
  exact Nat.testBit_lt_two_pow (Nat.lt_of_lt_of_le hk (by decide))
theorem or31 {x y : Int32} (h1 : bt x 31 = false) (h2 : bt y 31 = false) : bt (x ||| y) 31 = false := by rw [b_or, h1, h2]; rfl
theorem or_as (x y z : Int32) : x ||| y ||| z = x ||| (y ||| z) := b_ext (fun i _ => by rw [b_or, b_or, b_or, b_or, Bool.or_assoc])
theorem pw_add {Q : Int32 → Bool} {j j' c w k : Nat} {ch : Int32} (hw : w < 16) (hk : k < 2 ^ w) : PwN Q j j' (c + 1) ch (2 ^ w + k) ↔ ((¬ w = j ∧ ¬ w = j') ∧ PwN Q j j' c (ch ||| one (nI w)) k) := by
  unfold PwN
  rw [np_add hk, if_pos hw, av_add hk, nI_pow hw hk, or_as]
  constructor
  · rintro ⟨a, ⟨b, c⟩, d⟩; exact ⟨b, by omega, c, d⟩
  · rintro ⟨b, a, c, d⟩; exact ⟨by omega, ⟨b, c⟩, d⟩
theorem p2s (w : Nat) : 2 ^ (w + 1) = 2 ^ w + 2 ^ w := by rw [Nat.pow_succ]; omega
theorem lw_loop {Q : Int32 → Bool} {j j' c : Nat} (hj : j < 16) (hj' : j' < 16) {s : Int32} (hs : s = nI j) (hs' : s ^^^ 1 = nI j') {ch : Int32} (hch : bt ch 31 = false) (IH : ∀ w, w < 16 → ∀ ch, bt ch 31 = false → LvN ch (PwN Q j j' c ch) (2 ^ w) (lwR Q s c w ch)) :
    ∀ n w, w + n ≤ 16 → (∀ k, k < 2 ^ w → ¬ PwN Q j j' (c + 1) ch k) → LvN ch (PwN Q j j' (c + 1) ch) (2 ^ (w + n)) (fstF (fun w => if nI w = s ∨ nI w = s ^^^ 1 then -1 else lwR Q s c w (ch ||| one (nI w))) n w)
  | 0, w, _, h => Or.inl ⟨rfl, h⟩
  | n + 1, w, hw, h => by
    have hw16 : w < 16 := by omega
    have hpw : 2 ^ w ≤ 32768 := Nat.pow_le_pow_right (n := 2) (i := w) (j := 15) (by decide) (by omega)
    have ho31 : bt (ch ||| one (nI w)) 31 = false := or_31 hch hw16
    have hav : (nI w = s ∨ nI w = s ^^^ 1) ↔ ¬ (¬ w = j ∧ ¬ w = j') := by
      rw [hs', hs]
      constructor
      · rintro (e | e) z
        · exact z.1 (n_eq e (by omega) (by omega))
        · exact z.2 (n_eq e (by omega) (by omega))
      · intro z
        by_cases e : w = j
        · exact Or.inl (by rw [e])
        · by_cases e2 : w = j'
          · exact Or.inr (by rw [e2])
          · exact absurd ⟨e, e2⟩ z
    have ih0 := IH w hw16 (ch ||| one (nI w)) ho31
    by_cases hf : (if nI w = s ∨ nI w = s ^^^ 1 then -1 else lwR Q s c w (ch ||| one (nI w))) = -1
    · have e : fstF (fun w => if nI w = s ∨ nI w = s ^^^ 1 then -1 else lwR Q s c w (ch ||| one (nI w))) (n + 1) w = fstF (fun w => if nI w = s ∨ nI w = s ^^^ 1 then -1 else lwR Q s c w (ch ||| one (nI w))) n (w + 1) := if_pos hf
      rw [e, show w + (n + 1) = (w + 1) + n by omega]
      refine lw_loop hj hj' hs hs' hch IH n (w + 1) (by omega) (fun k hk hP => ?_)
      by_cases hk2 : k < 2 ^ w
      · exact h k hk2 hP
      · obtain ⟨k', e9⟩ := Nat.exists_eq_add_of_le (show 2 ^ w ≤ k by omega)
        have hk3 : k' < 2 ^ w := by rw [p2s] at hk; omega
        rw [e9, pw_add hw16 hk3] at hP
        by_cases hc : nI w = s ∨ nI w = s ^^^ 1
        · exact hav.mp hc hP.1
        · rw [if_neg hc] at hf
          rcases ih0 with ⟨_, h2⟩ | ⟨k2, h1, h2, h3, h4⟩
          · exact h2 k' hk3 hP.2
          · rw [hf] at h2
            exact ne_m1 (or31 ho31 (n31b (k := k2) (by omega))) h2.symm
    · have e : fstF (fun w => if nI w = s ∨ nI w = s ^^^ 1 then -1 else lwR Q s c w (ch ||| one (nI w))) (n + 1) w = (if nI w = s ∨ nI w = s ^^^ 1 then -1 else lwR Q s c w (ch ||| one (nI w))) := if_neg hf
      rw [e]
      by_cases hc : nI w = s ∨ nI w = s ^^^ 1
      · exact absurd (if_pos hc) hf
      · rw [if_neg hc] at hf ⊢
        have hna : ¬ w = j ∧ ¬ w = j' := Classical.not_not.mp (fun z => hc (hav.mpr z))
        rcases ih0 with ⟨h1, _⟩ | ⟨k2, h1, h2, h3, h4⟩
        · exact absurd h1 hf
        · refine Or.inr ⟨2 ^ w + k2, ?_, ?_, (pw_add hw16 h1).mpr ⟨hna, h3⟩, fun i hi hP => ?_⟩
          · have : 2 ^ (w + 1) ≤ 2 ^ (w + (n + 1)) := Nat.pow_le_pow_right (by decide) (by omega)
            rw [p2s] at this
            omega
          · rw [h2, nI_pow hw16 h1, or_as]
          · by_cases hk2 : i < 2 ^ w
            · exact h i hk2 hP
            · obtain ⟨i', e9⟩ := Nat.exists_eq_add_of_le (show 2 ^ w ≤ i by omega)
              rw [e9, pw_add hw16 (by omega)] at hP
              exact h4 i' (by omega) hP.2
theorem lw_spec {Q : Int32 → Bool} {j j' : Nat} (hj : j < 16) (hj' : j' < 16) {s : Int32} (hs : s = nI j) (hs' : s ^^^ 1 = nI j') : ∀ c, ∀ b, b ≤ 16 → ∀ ch, bt ch 31 = false → LvN ch (PwN Q j j' c ch) (2 ^ b) (lwR Q s c b ch)
  | 0, b, hb, ch, hch => by
    have hp : 2 ^ b ≤ 65536 := Nat.pow_le_pow_right (n := 2) (i := b) (j := 16) (by decide) hb
    have hp1 := Nat.one_le_two_pow (n := b)
    show LvN ch _ (2 ^ b) (if Q ch = true then ch else -1)
    have e0 : ch ||| nI 0 = ch := or0 ch
    by_cases hq : Q ch = true
    · rw [if_pos hq]
      refine Or.inr ⟨0, by omega, e0.symm, ⟨by decide, ⟨Nat.zero_testBit _, Nat.zero_testBit _⟩, by rw [e0]; exact hq⟩, fun i hi => absurd hi (Nat.not_lt_zero i)⟩
    · rw [if_neg hq]
      refine Or.inl ⟨rfl, fun k hk hP => ?_⟩
      have := np_00 (k := k) (by omega) hP.1
      subst this
      have h2 := hP.2.2
      rw [e0] at h2
      exact hq h2
  | c + 1, b, hb, ch, hch => by
    show LvN ch _ (2 ^ b) (fstF _ (b - c) c)
    by_cases hcb : c ≤ b
    · have := lw_loop (Q := Q) hj hj' hs hs' hch (fun w hw ch hch => lw_spec hj hj' hs hs' c w (by omega) ch hch) (b - c) c (by omega) (fun k hk hP => by
        have h1 := (np_le k hk 16).1
        have h2 := hP.1
        omega)
      rw [show c + (b - c) = b by omega] at this
      exact this
    · rw [show b - c = 0 by omega]
      refine Or.inl ⟨rfl, fun k hk hP => ?_⟩
      have h1 := (np_le k hk 16).1
      have h2 := hP.1
      omega
theorem bst_min {P : Nat → Bool} {wt : Nat → Int32} : ∀ n b, bstF P wt n = some b → P b = true ∧ (∀ k, k < n → P k = true → ¬ wt k < wt b) ∧ (∀ k, k < b → P k = true → wt b < wt k)
  | 0, b, h => by cases h
  | n + 1, b, h => by
    cases ho : bstF P wt n with
    | none =>
      by_cases hp : P n = true
      · rw [bstF_sn hp ho] at h
        cases h
        have hno : ∀ k, k < n → ¬ P k = true := fun k hk hk2 => by
          obtain ⟨b, hb⟩ := bst_yes (wt := wt) hk hk2
          rw [ho] at hb; cases hb
        refine ⟨hp, fun k hk hk2 => ?_, fun k hk hk2 => absurd hk2 (hno k hk)⟩
        by_cases e : k = n
        · rw [e]; exact fun z => by rw [Int32.lt_iff_toInt_lt] at z; omega
        · exact absurd hk2 (hno k (by omega))
      · rw [bstF_s0 (by simpa using hp), ho] at h; cases h
    | some b0 =>
      have ih := bst_min n b0 ho
      have hlt := bstF_lt ho
      by_cases hp : P n = true
      · by_cases hw : wt n < wt b0
        · rw [bstF_sl hp ho hw] at h
          cases h
          refine ⟨hp, fun k hk hk2 => ?_, fun k hk hk2 => ?_⟩
          · by_cases e : k = n
            · rw [e]; exact fun z => by rw [Int32.lt_iff_toInt_lt] at z; omega
            · have h1 := ih.2.1 k (by omega) hk2
              rw [Int32.lt_iff_toInt_lt] at h1 hw ⊢
              omega
          · have h1 := ih.2.1 k hk hk2
            rw [Int32.lt_iff_toInt_lt] at h1 hw ⊢
            omega
        · rw [bstF_sg ho hw] at h
          cases h
          refine ⟨ih.1, fun k hk hk2 => ?_, ih.2.2⟩
          by_cases e : k = n
          · rw [e]; exact hw
          · exact ih.2.1 k (by omega) hk2
      · rw [bstF_s0 (by simpa using hp), ho] at h
        cases h
        refine ⟨ih.1, fun k hk hk2 => ?_, ih.2.2⟩
        by_cases e : k = n
        · rw [e] at hk2; exact absurd hk2 hp
        · exact ih.2.1 k (by omega) hk2
/-- the fewest, and of like ones the least, both ways -/
theorem wo_eq {Q : Int32 → Bool} {P : Nat → Bool} {j j' b : Nat} (hb : b ≤ 16) (hj : j < 16) (hj' : j' < 16) {s : Int32} (hs : s = nI j) (hs' : s ^^^ 1 = nI j') (hP : ∀ k, k < 2 ^ b → (P k = true ↔ (AvN j j' k ∧ npN k 16 < 4 ∧ Q (nI k) = true))) : fstF (fun c => lwR Q s c b 0) 4 0 = oI (bstF P cw (2 ^ b)) := by
  have hp : 2 ^ b ≤ 65536 := Nat.pow_le_pow_right (n := 2) (i := b) (j := 16) (by decide) hb
  have e0 : ∀ x : Int32, 0 ||| x = x := fun x => b_ext (fun i _ => by rw [b_or, b_0, Bool.false_or])
  have sp : ∀ c, LvN 0 (PwN Q j j' c 0) (2 ^ b) (lwR Q s c b 0) := fun c => lw_spec hj hj' hs hs' c b hb 0 (by decide)
  have cwlt : ∀ k i, cw k < cw i ↔ npN k 16 < npN i 16 := fun k i => by
    rw [cw_np, cw_np]
    have h1 : npN k 16 ≤ 16 := (np_le k (c := k) (Nat.lt_two_pow_self) 16).2
    have h2 : npN i 16 ≤ 16 := (np_le i (c := i) (Nat.lt_two_pow_self) 16).2
    exact nI_ltI (by omega) (by omega)
  cases ho : bstF P cw (2 ^ b) with
  | none =>
    have hno : ∀ k, k < 2 ^ b → ¬ P k = true := fun k hk hk2 => by
      obtain ⟨b0, hb0⟩ := bst_yes (wt := cw) hk hk2
      rw [ho] at hb0; cases hb0
    have hm : ∀ c, c < 4 → lwR Q s c b 0 = -1 := fun c hc => by
      rcases sp c with ⟨h, _⟩ | ⟨k, h1, h2, h3, h4⟩
      · exact h
      · refine absurd ((hP k h1).mpr ⟨h3.2.1, by rw [h3.1]; exact hc, ?_⟩) (hno k h1)
        have := h3.2.2
        rw [e0] at this
        exact this
    show (if lwR Q s 0 b 0 = -1 then (if lwR Q s 1 b 0 = -1 then (if lwR Q s 2 b 0 = -1 then (if lwR Q s 3 b 0 = -1 then -1 else _) else _) else _) else _) = (-1 : Int32)
    rw [if_pos (hm 0 (by decide)), if_pos (hm 1 (by decide)), if_pos (hm 2 (by decide)), if_pos (hm 3 (by decide))]
  | some b0 =>
    have mi := bst_min _ _ ho
    have hlt := bstF_lt ho
    have hPb := (hP b0 hlt).mp mi.1
    have lo : ∀ c, c < npN b0 16 → lwR Q s c b 0 = -1 := fun c hc => by
      rcases sp c with ⟨h, _⟩ | ⟨k, h1, h2, h3, h4⟩
      · exact h
      · have hk : P k = true := (hP k h1).mpr ⟨h3.2.1, by rw [h3.1]; omega, by have := h3.2.2; rw [e0] at this; exact this⟩
        exact absurd ((cwlt k b0).mpr (by rw [h3.1]; exact hc)) (mi.2.1 k h1 hk)
    have hi : lwR Q s (npN b0 16) b 0 = nI b0 := by
      rcases sp (npN b0 16) with ⟨_, h⟩ | ⟨k, h1, h2, h3, h4⟩
      · exact absurd (show PwN Q j j' (npN b0 16) 0 b0 from ⟨rfl, hPb.1, by rw [e0]; exact hPb.2.2⟩) (h b0 hlt)
      · rw [h2, e0]
        have hk : P k = true := (hP k h1).mpr ⟨h3.2.1, by rw [h3.1]; exact hPb.2.1, by have := h3.2.2; rw [e0] at this; exact this⟩
        have hle : k ≤ b0 := Classical.byContradiction (fun z => h4 b0 (by omega) ⟨rfl, hPb.1, by rw [e0]; exact hPb.2.2⟩)
        by_cases e : k = b0
        · rw [e]
        · have := (cwlt b0 k).mp (mi.2.2 k (by omega) hk)
          rw [h3.1] at this
          omega
    have hne : ¬ nI b0 = -1 := ne_m1 (n31b (by omega))
    show (if lwR Q s 0 b 0 = -1 then (if lwR Q s 1 b 0 = -1 then (if lwR Q s 2 b 0 = -1 then (if lwR Q s 3 b 0 = -1 then -1 else lwR Q s 3 b 0) else lwR Q s 2 b 0) else lwR Q s 1 b 0) else lwR Q s 0 b 0) = nI b0
    generalize npN b0 16 = c0 at hPb lo hi
    have h4 := hPb.2.1
    match c0, h4 with
    | 0, _ => rw [hi, if_neg hne]
    | 1, _ => rw [if_pos (lo 0 (by decide)), hi, if_neg hne]
    | 2, _ => rw [if_pos (lo 0 (by decide)), if_pos (lo 1 (by decide)), hi, if_neg hne]
    | 3, _ => rw [if_pos (lo 0 (by decide)), if_pos (lo 1 (by decide)), if_pos (lo 2 (by decide)), hi, if_neg hne]
    | c + 4, h => exact absurd h (by omega)
theorem den_x : ∀ j, j < 16 → (nI j ^^^ 1 = nI (if j % 2 = 0 then j + 1 else j - 1)) ∧ denI (nI j) = nI (if j % 2 = 0 then j + 1 else j - 1) := by decide +kernel
theorem av_iff {j j' k : Nat} (hj : j < 16) (hj' : j' < 16) : (nI k &&& (one (nI j) ||| one (nI j')) = 0) ↔ AvN j j' k := by
  unfold AvN
  constructor
  · intro e
    have h : ∀ i, i < 32 → bt (nI k &&& (one (nI j) ||| one (nI j'))) i = false := fun i _ => by rw [e]; exact b_0 i
    have h1 := h j (by omega)
    have h2 := h j' (by omega)
    rw [b_and, b_or, bt_one (by omega) (by omega), decide_eq_true rfl, Bool.true_or, Bool.and_true, b_nI _ (by omega)] at h1
    rw [b_and, b_or, bt_one (n := j') (by omega) (by omega), decide_eq_true rfl, Bool.or_true, Bool.and_true, b_nI _ (by omega)] at h2
    exact ⟨h1, h2⟩
  · intro h
    refine b_ext (fun i hi => ?_)
    rw [b_and, b_or, b_0, bt_one (by omega) hi, bt_one (by omega) hi, b_nI _ hi]
    by_cases e : i = j
    · rw [e, h.1]; rfl
    · by_cases e2 : i = j'
      · rw [e2, h.2]; rfl
      · rw [decide_eq_false e, decide_eq_false e2]; exact Bool.and_false _
section R95
variable {S S1 : Mem} {t dr nw : Nat} {T : TT9} {q : Nat → Int32} {X : XX9} {sd : Int32} {H : HH9} {A : AA9} {B : BB9} {I : II9}
theorem eq_words (h : F9 S t dr nw T q X sd H A B I) (d : D9 S1 T q X sd H A B I) (w : WT9 T) (hq : WN9 T.1 q) (s : Int32) : w7V S t nw T.1 T.2.1 s = woV S1 T.2.1 T.1 s := by
  unfold w7V woV
  rw [hs_say w.1, d.1.1]
  by_cases c1 : sayB (nI T.1) s = true
  · rw [if_pos c1, if_pos c1]
    have h8 := w.1
    obtain ⟨j, hj, e⟩ := say_in w.1 c1
    subst e
    have hdx := den_x j (by omega)
    generalize hj'e : (if j % 2 = 0 then j + 1 else j - 1) = j' at hdx
    have hj' : j' < 16 := by rw [← hj'e]; split <;> omega
    refine wo_eq (j := j) (j' := j') (by omega) (by omega) hj' rfl hdx.1 (fun k hk => ?_)
    have hsub : sub (q 0 ||| nI k) (mk9 T.1) := or_sub hq.1 (sub_iff.mpr (fun i hi hb => by
      unfold mk9
      rw [bt_mask (2 * T.1) (by omega) i hi, decide_eq_true (nI_hi hk hi hb)]))
    unfold woP dwB
    rw [Bool.and_eq_true, Bool.and_eq_true, decide_eq_true_iff, decide_eq_true_iff, hdx.2, av_iff (by omega) hj', cw_np]
    have e1 : btB (tS S t nw T.2.1) t (mN S) T.2.1 T.1 (nI j) (nI k) = (hasB (clo T.2.1 (mA S1 27) (mA S1 28) (alw (nI T.2.1) (mA S1 29 2)) (mA S1 29 0 ||| nI k)) (nI j) && decide (qrF (clo T.2.1 (mA S1 27) (mA S1 28) (alw (nI T.2.1) (mA S1 29 2)) (mA S1 29 0 ||| nI k)) 8 = 0)) := by
      unfold btB
      rw [h.al, h.se, h.tclo, d.2.1 2 (by decide), d.2.1 0 (by decide), d.cl9, qc_qr w.1 (w.cl9 hsub)]
    rw [e1]
    have hn : npN k 16 ≤ 16 := (np_le k (c := k) (Nat.lt_two_pow_self) 16).2
    have e2 : (nI (npN k 16) < 4) ↔ npN k 16 < 4 := nI_ltI (b := 4) (by omega) (by decide)
    rw [e2]
  · rw [if_neg c1, if_neg c1]
end R95
