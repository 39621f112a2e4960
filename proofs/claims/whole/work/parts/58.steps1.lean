/-! what each call does to both sides: the first's memory S1, the other's change f -/
def M99 (a : Nat) : Prop := 25 ≤ a ∧ a < 44
def St9 (T : TT9) (q : Nat → Int32) (X : XX9) (sd : Int32) (H : HH9) (A : AA9) (B : BB9) (I : II9) (S S1 : Mem) (f : Mem → Mem) : Prop := GX9 S S1 ∧ ∃ (t dr nw : Nat) (T2 : TT9) (q2 : Nat → Int32) (X2 : XX9) (sd2 : Int32) (H2 : HH9) (A2 : AA9) (B2 : BB9) (I2 : II9), F9 S1 t dr nw T2 q2 X2 sd2 H2 A2 B2 I2 ∧ W9 T2 q2 X2 sd2 H2 A2 B2 I2 ∧ ∀ M, D9 M T q X sd H A B I → D9 (f M) T2 q2 X2 sd2 H2 A2 B2 I2 ∧ HX9 M (f M) M99
section STP
variable {S S1 : Mem} {t dr nw : Nat} {T : TT9} {q : Nat → Int32} {X : XX9} {sd : Int32} {H : HH9} {A : AA9} {B : BB9} {I : II9}
/-- nothing is changed -/
theorem st_id (h : F9 S t dr nw T q X sd H A B I) (w : W9 T q X sd H A B I) : St9 T q X sd H A B I S S (fun M => M) := ⟨GX9.refl S, t, dr, nw, T, q, X, sd, H, A, B, I, h, w, fun M d => ⟨d, HX9.refl M _⟩⟩
/-- the first side makes something that it forgets -/
theorem st_ext (h : F9 S t dr nw T q X sd H A B I) (w : W9 T q X sd H A B I) (e : Ext S S1) : St9 T q X sd H A B I S S1 (fun M => M) := ⟨GX9.ext e h.1.1.2.1, t, dr, nw, T, q, X, sd, H, A, B, I, h.ext e, w, fun M d => ⟨d, HX9.refl M _⟩⟩
theorem upd_lt {f g : Nat → Int32} {n i : Nat} {x : Int32} (h : ∀ i, i < n → f i = g i) (hi : i < n + 1) : upd f n x i = upd g n x i := by
  by_cases e : i = n
  · rw [e, upd_at, upd_at]
  · rw [upd_ne _ _ e, upd_ne _ _ e]; exact h i (by omega)
/-- where a letter comes behind the text -/
theorem eq_feed (hX : X.1 ≤ 240) (c : Int32) : fe7V X.1 c = fdV X.1 c := by
  unfold fe7V fdV
  rw [show fdC c = inI c 0 255 from rfl]
  by_cases c1 : inI c 0 255 = true
  · rw [if_pos c1, if_pos c1]
    by_cases c2 : X.1 = 240
    · rw [if_neg (by omega), if_pos c2]
    · rw [if_pos (by omega), if_neg c2]
  · rw [if_neg c1, if_neg c1]
theorem st_feed (h : F9 S t dr nw T q X sd H A B I) (w : W9 T q X sd H A B I) (c : Int32) : St9 T q X sd H A B I S (fe7S S X.1 c) (fun M => fdS M X.1 c) := by
  have hX := w.2.2.1.1
  unfold fe7S fdS
  rw [show fdC c = inI c 0 255 from rfl]
  by_cases c1 : inI c 0 255 = true
  · simp only [if_pos c1]
    unfold apS
    by_cases c2 : X.1 = 240
    · rw [if_neg (by omega)]
      simp only [if_pos c2]
      exact st_id h w
    · rw [if_pos (show X.1 < 240 by omega)]
      simp only [if_neg c2]
      have hx : HX9 S (sI (sA S 2 X.1 c) 1 1 (nI (X.1 + 1))) (fun a => a = 1 ∨ a = 2) := (HX9.a S X.1 c (Or.inr rfl)).trans (HX9.i _ 1 _ (Or.inl rfl))
      have e2 : mA (sI (sA S 2 X.1 c) 1 1 (nI (X.1 + 1))) 2 = upd (mA S 2) X.1 c := by rw [qA_sI]; exact mA_sA_row
      have e1 : mI (sI (sA S 2 X.1 c) 1 1 (nI (X.1 + 1))) 1 1 = nI (X.1 + 1) := by rw [qI_sI, u2_self]
      have e5 : mI (sI (sA S 2 X.1 c) 1 1 (nI (X.1 + 1))) 1 5 = mI S 1 5 := rfl
      generalize sI (sA S 2 X.1 c) 1 1 (nI (X.1 + 1)) = S2 at hx e2 e1 e5
      refine ⟨GX9.hx hx (fun a h1 h2 => by omega), t, dr, nw, T, q, (X.1 + 1, upd X.2.1 X.1 c, X.2.2), sd, H, A, B, I, ⟨h.1.hx hx, h.2.1.hx hx h.1.t1 (fun a _ _ => by omega), h.2.2.1.hx hx (fun a _ => by omega), ⟨e1, by rw [e2, h.2.2.2.1.2.1], e5.trans h.2.2.2.1.2.2⟩, (congrFun (hx.2 0 (by omega)).1 11).trans h.2.2.2.2.1, h.2.2.2.2.2.1.hx hx (by omega) (fun a _ => by omega), h.2.2.2.2.2.2.1.hx hx (by omega) (by omega) (by omega) (by omega), h.2.2.2.2.2.2.2.1.hx hx (by omega) (by omega) (by omega), h.2.2.2.2.2.2.2.2.hx hx (by omega) (fun a _ => by omega)⟩, ⟨w.1, w.2.1, ⟨by show X.1 + 1 ≤ 240; omega, fun i hi => ?_⟩, w.2.2.2⟩, fun M d => ?_⟩
      · by_cases e : i = X.1
        · obtain ⟨k, hk, ek⟩ := inI_of (n := 255) rfl c1
          exact ⟨k, hk, by show upd X.2.1 X.1 c i = nI k; rw [e, upd_at]; exact ek⟩
        · obtain ⟨k, hk, ek⟩ := w.2.2.1.2 i (by have hi : i < X.1 + 1 := hi; omega)
          exact ⟨k, hk, by show upd X.2.1 X.1 c i = nI k; rw [upd_ne _ _ e]; exact ek⟩
      · show D9 (sI (sA M 30 X.1 c) 25 8 (nI (X.1 + 1))) _ _ _ _ _ _ _ _ ∧ HX9 M (sI (sA M 30 X.1 c) 25 8 (nI (X.1 + 1))) M99
        have kx : KX9 M (sI (sA M 30 X.1 c) 25 8 (nI (X.1 + 1))) (fun j => j = 8) (fun a => a = 30) := by refine KX9.trans (KX9.a M X.1 c ?_) (KX9.i _ _ ?_) <;> rfl
        have hm : HX9 M (sI (sA M 30 X.1 c) 25 8 (nI (X.1 + 1))) M99 := (HX9.a M X.1 c ⟨by omega, by omega⟩).trans (HX9.i _ 8 _ ⟨by omega, by omega⟩)
        have f2 : mA (sI (sA M 30 X.1 c) 25 8 (nI (X.1 + 1))) 30 = upd (mA M 30) X.1 c := by rw [qA_sI]; exact mA_sA_row
        have f1 : mI (sI (sA M 30 X.1 c) 25 8 (nI (X.1 + 1))) 25 8 = nI (X.1 + 1) := by rw [qI_sI, u2_self]
        generalize sI (sA M 30 X.1 c) 25 8 (nI (X.1 + 1)) = M2 at kx hm f2 f1 ⊢
        exact ⟨⟨d.1.kx kx (by omega) (by omega) (by omega) (by omega) (by omega), d.2.1.kx kx (by omega), ⟨f1, by rw [f2, d.2.2.1.2.1], (kx.1 9 (by omega)).trans d.2.2.1.2.2⟩, (kx.1 6 (by omega)).trans d.2.2.2.1, d.2.2.2.2.1.kx kx (by omega) (by omega), d.2.2.2.2.2.1.kx kx (by omega) (by omega) (by omega) (by omega), d.2.2.2.2.2.2.1.kx kx (by omega) (by omega) (by omega), d.2.2.2.2.2.2.2.kx kx (by omega) (by omega)⟩, hm⟩
  · simp only [if_neg c1]
    exact st_id h w
theorem eq_seed (h : F9 S t dr nw T q X sd H A B I) {M : Mem} (d : D9 M T q X sd H A B I) (v : Int32) : k7V S v = sdV M v := by
  unfold k7V sdV
  rw [h.2.2.2.2.1, d.2.2.2.1]
theorem st_seed (h : F9 S t dr nw T q X sd H A B I) (w : W9 T q X sd H A B I) (v : Int32) : St9 T q X sd H A B I S (k7S S v) (fun M => sdS M v) := by
  unfold k7S sdS
  by_cases c1 : 0 ≤ v
  · simp only [if_pos c1]
    have hx : HX9 S (sI S 0 11 v) (fun a => a = 0) := HX9.i S 11 v rfl
    have e1 : mI (sI S 0 11 v) 0 11 = v := by rw [qI_sI, u2_self]
    generalize sI S 0 11 v = S2 at hx e1
    refine ⟨GX9.hx hx (fun a h1 h2 => by omega), t, dr, nw, T, q, X, v, H, A, B, I, ⟨h.1.hx hx, h.2.1.hx hx h.1.t1 (fun a _ _ => by omega), h.2.2.1.hx hx (fun a _ => by omega), h.2.2.2.1.hx hx (by omega) (by omega), e1, h.2.2.2.2.2.1.hx hx (by omega) (fun a _ => by omega), h.2.2.2.2.2.2.1.hx hx (by omega) (by omega) (by omega) (by omega), h.2.2.2.2.2.2.2.1.hx hx (by omega) (by omega) (by omega), h.2.2.2.2.2.2.2.2.hx hx (by omega) (fun a _ => by omega)⟩, ⟨w.1, w.2.1, w.2.2.1, c1, w.2.2.2.2⟩, fun M d => ?_⟩
    show D9 (sI M 25 6 v) _ _ _ _ _ _ _ _ ∧ HX9 M (sI M 25 6 v) M99
    have kx : KX9 M (sI M 25 6 v) (fun j => j = 6) (fun _ => False) := KX9.i M v rfl
    have hm : HX9 M (sI M 25 6 v) M99 := HX9.i M 6 v ⟨by omega, by omega⟩
    have f1 : mI (sI M 25 6 v) 25 6 = v := by rw [qI_sI, u2_self]
    generalize sI M 25 6 v = M2 at kx hm f1 ⊢
    exact ⟨⟨d.1.kx kx (by omega) (by omega) (fun z => z) (fun z => z) (fun z => z), d.2.1.kx kx (fun z => z), d.2.2.1.kx kx (by omega) (by omega) (fun z => z), f1, d.2.2.2.2.1.kx kx (by omega) (fun z => z), d.2.2.2.2.2.1.kx kx (by omega) (fun z => z) (fun z => z) (fun z => z), d.2.2.2.2.2.2.1.kx kx (by omega) (fun z => z) (fun z => z), d.2.2.2.2.2.2.2.kx kx (fun z => z) (fun z => z)⟩, hm⟩
  · simp only [if_neg c1]
    exact st_id h w
theorem eq_tear (h : F9 S t dr nw T q X sd H A B I) {M : Mem} (d : D9 M T q X sd H A B I) : mI S 5 3 + mI S 9 2 = mI M 25 22 + mI M 25 27 := by
  rw [h.2.2.2.2.2.2.1.1, h.2.2.2.2.2.2.2.1.1, d.2.2.2.2.2.1.1, d.2.2.2.2.2.2.1.1]
theorem st_tear (h : F9 S t dr nw T q X sd H A B I) (w : W9 T q X sd H A B I) : St9 T q X sd H A B I S (sI (sI S 5 3 0) 9 2 0) (fun M => sI (sI M 25 22 0) 25 27 0) := by
  have hx : HX9 S (sI (sI S 5 3 0) 9 2 0) (fun a => a = 5 ∨ a = 9) := (HX9.i S 3 0 (Or.inl rfl)).trans (HX9.i _ 2 0 (Or.inr rfl))
  have e1 : mI (sI (sI S 5 3 0) 9 2 0) 5 3 = nI 0 := rfl
  have e2 : mI (sI (sI S 5 3 0) 9 2 0) 9 2 = nI 0 := rfl
  generalize sI (sI S 5 3 0) 9 2 0 = S2 at hx e1 e2
  refine ⟨GX9.hx hx (fun a h1 h2 => by omega), t, dr, nw, T, q, X, sd, H, (0, A.2), (0, B.2), I, ⟨h.1.hx hx, h.2.1.hx hx h.1.t1 (fun a _ _ => by omega), h.2.2.1.hx hx (fun a _ => by omega), h.2.2.2.1.hx hx (by omega) (by omega), (congrFun (hx.2 0 (by omega)).1 11).trans h.2.2.2.2.1, h.2.2.2.2.2.1.hx hx (by omega) (fun a _ => by omega), ⟨e1, fun i hi => absurd hi (Nat.not_lt_zero i)⟩, ⟨e2, fun i hi => absurd hi (Nat.not_lt_zero i)⟩, h.2.2.2.2.2.2.2.2.hx hx (by omega) (fun a _ => by omega)⟩, ⟨w.1, w.2.1, w.2.2.1, w.2.2.2.1, w.2.2.2.2.1, Nat.zero_le _, Nat.zero_le _, w.2.2.2.2.2.2.2⟩, fun M d => ?_⟩
  have kx : KX9 M (sI (sI M 25 22 0) 25 27 0) (fun j => j = 22 ∨ j = 27) (fun _ => False) := (KX9.i M 0 (Or.inl rfl)).trans (KX9.i _ 0 (Or.inr rfl))
  have hm : HX9 M (sI (sI M 25 22 0) 25 27 0) M99 := (HX9.i M 22 0 ⟨by omega, by omega⟩).trans (HX9.i _ 27 0 ⟨by omega, by omega⟩)
  have f1 : mI (sI (sI M 25 22 0) 25 27 0) 25 22 = nI 0 := rfl
  have f2 : mI (sI (sI M 25 22 0) 25 27 0) 25 27 = nI 0 := rfl
  show D9 (sI (sI M 25 22 0) 25 27 0) _ _ _ _ _ _ _ _ ∧ HX9 M (sI (sI M 25 22 0) 25 27 0) M99
  generalize sI (sI M 25 22 0) 25 27 0 = M2 at kx hm f1 f2 ⊢
  exact ⟨⟨d.1.kx kx (by omega) (by omega) (fun z => z) (fun z => z) (fun z => z), d.2.1.kx kx (fun z => z), d.2.2.1.kx kx (by omega) (by omega) (fun z => z), (kx.1 6 (by omega)).trans d.2.2.2.1, d.2.2.2.2.1.kx kx (by omega) (fun z => z), ⟨f1, fun i hi => absurd hi (Nat.not_lt_zero i)⟩, ⟨f2, fun i hi => absurd hi (Nat.not_lt_zero i)⟩, d.2.2.2.2.2.2.2.kx kx (fun z => z) (fun z => z)⟩, hm⟩
end STP
