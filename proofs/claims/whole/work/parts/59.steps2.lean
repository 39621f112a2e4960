/-! ask, write -/
section STQ
variable {S : Mem} {t dr nw : Nat} {T : TT9} {q : Nat → Int32} {X : XX9} {sd : Int32} {H : HH9} {A : AA9} {B : BB9} {I : II9}
theorem eq_ask (d : D9 S T q X sd H A B I) (w : W9 T q X sd H A B I) (x s : Int32) : as7V T.1 A.1 x s = asV S A.1 x s := by
  have hA := w.2.2.2.2.2.1
  unfold as7V asV
  rw [sub_setB w.1.1, hs_say w.1.1, d.1.1]
  by_cases c1 : setB (nI T.1) x = true ∧ sayB (nI T.1) s = true
  · rw [if_pos c1, if_pos c1]
    by_cases c2 : A.1 = 6
    · rw [if_neg (by omega), if_pos c2]
    · rw [if_pos (by omega), if_neg c2]
  · rw [if_neg c1, if_neg c1]
theorem st_ask (h : F9 S t dr nw T q X sd H A B I) (w : W9 T q X sd H A B I) (x s b : Int32) : St9 T q X sd H A B I S (as7S S T.1 A.1 x s b) (fun M => if setB (nI T.1) x = true ∧ sayB (nI T.1) s = true then (if A.1 = 6 then M else sI (sA (sA (sA M 36 A.1 x) 37 A.1 s) 38 A.1 b) 25 22 (nI (A.1 + 1))) else M) := by
  have hA := w.2.2.2.2.2.1
  unfold as7S
  rw [sub_setB w.1.1, hs_say w.1.1]
  by_cases c1 : setB (nI T.1) x = true ∧ sayB (nI T.1) s = true
  · simp only [if_pos c1]
    unfold qaS
    by_cases c2 : A.1 = 6
    · rw [if_neg (by omega)]
      simp only [if_pos c2]
      exact st_id h w
    · rw [if_pos (show A.1 < 6 by omega)]
      simp only [if_neg c2]
      have hx : HX9 S (sI (sA (sA (sA S 6 A.1 x) 7 A.1 s) 8 A.1 b) 5 3 (nI (A.1 + 1))) (fun a => a = 5 ∨ a = 6 ∨ a = 7 ∨ a = 8) := (((HX9.a S A.1 x (Or.inr (Or.inl rfl))).trans (HX9.a _ A.1 s (Or.inr (Or.inr (Or.inl rfl))))).trans (HX9.a _ A.1 b (Or.inr (Or.inr (Or.inr rfl))))).trans (HX9.i _ 3 _ (Or.inl rfl))
      have e1 : mI (sI (sA (sA (sA S 6 A.1 x) 7 A.1 s) 8 A.1 b) 5 3 (nI (A.1 + 1))) 5 3 = nI (A.1 + 1) := by rw [qI_sI, u2_self]
      have e6 : mA (sI (sA (sA (sA S 6 A.1 x) 7 A.1 s) 8 A.1 b) 5 3 (nI (A.1 + 1))) 6 = upd (mA S 6) A.1 x := by rw [qA_sI, mA_sAne _ _ _ _ (by decide), mA_sAne _ _ _ _ (by decide)]; exact mA_sA_row
      have e7 : mA (sI (sA (sA (sA S 6 A.1 x) 7 A.1 s) 8 A.1 b) 5 3 (nI (A.1 + 1))) 7 = upd (mA S 7) A.1 s := by rw [qA_sI, mA_sAne _ _ _ _ (by decide)]; exact mA_sA_row.trans (by rw [mA_sAne _ _ _ _ (by decide)])
      have e8 : mA (sI (sA (sA (sA S 6 A.1 x) 7 A.1 s) 8 A.1 b) 5 3 (nI (A.1 + 1))) 8 = upd (mA S 8) A.1 b := by rw [qA_sI]; exact mA_sA_row.trans (by rw [mA_sAne _ _ _ _ (by decide), mA_sAne _ _ _ _ (by decide)])
      generalize sI (sA (sA (sA S 6 A.1 x) 7 A.1 s) 8 A.1 b) 5 3 (nI (A.1 + 1)) = S2 at hx e1 e6 e7 e8
      refine ⟨GX9.hx hx (fun a h1 h2 => by omega), t, dr, nw, T, q, X, sd, H, (A.1 + 1, upd A.2.1 A.1 x, upd A.2.2.1 A.1 s, upd A.2.2.2 A.1 b), B, I, ⟨h.1.hx hx, h.2.1.hx hx h.1.t1 (fun a _ _ => by omega), h.2.2.1.hx hx (fun a _ => by omega), h.2.2.2.1.hx hx (by omega) (by omega), (congrFun (hx.2 0 (by omega)).1 11).trans h.2.2.2.2.1, h.2.2.2.2.2.1.hx hx (by omega) (fun a _ => by omega), ⟨e1, fun i hi => by rw [e6, e7, e8]; exact ⟨upd_lt (fun i hi => (h.2.2.2.2.2.2.1.2 i hi).1) hi, upd_lt (fun i hi => (h.2.2.2.2.2.2.1.2 i hi).2.1) hi, upd_lt (fun i hi => (h.2.2.2.2.2.2.1.2 i hi).2.2) hi⟩⟩, h.2.2.2.2.2.2.2.1.hx hx (by omega) (by omega) (by omega), h.2.2.2.2.2.2.2.2.hx hx (by omega) (fun a _ => by omega)⟩, ⟨w.1, w.2.1, w.2.2.1, w.2.2.2.1, w.2.2.2.2.1, by show A.1 + 1 ≤ 6; omega, w.2.2.2.2.2.2⟩, fun M d => ?_⟩
      show D9 (sI (sA (sA (sA M 36 A.1 x) 37 A.1 s) 38 A.1 b) 25 22 (nI (A.1 + 1))) _ _ _ _ _ _ _ _ ∧ HX9 M (sI (sA (sA (sA M 36 A.1 x) 37 A.1 s) 38 A.1 b) 25 22 (nI (A.1 + 1))) M99
      have kx : KX9 M (sI (sA (sA (sA M 36 A.1 x) 37 A.1 s) 38 A.1 b) 25 22 (nI (A.1 + 1))) (fun j => j = 22) (fun a => a = 36 ∨ a = 37 ∨ a = 38) := by
        refine KX9.trans (KX9.trans (KX9.trans (KX9.a M A.1 x ?_) (KX9.a _ A.1 s ?_)) (KX9.a _ A.1 b ?_)) (KX9.i _ _ ?_)
        · exact Or.inl rfl
        · exact Or.inr (Or.inl rfl)
        · exact Or.inr (Or.inr rfl)
        · rfl
      have hm : HX9 M (sI (sA (sA (sA M 36 A.1 x) 37 A.1 s) 38 A.1 b) 25 22 (nI (A.1 + 1))) M99 := (((HX9.a M A.1 x ⟨by omega, by omega⟩).trans (HX9.a _ A.1 s ⟨by omega, by omega⟩)).trans (HX9.a _ A.1 b ⟨by omega, by omega⟩)).trans (HX9.i _ 22 _ ⟨by omega, by omega⟩)
      have f1 : mI (sI (sA (sA (sA M 36 A.1 x) 37 A.1 s) 38 A.1 b) 25 22 (nI (A.1 + 1))) 25 22 = nI (A.1 + 1) := by rw [qI_sI, u2_self]
      have f6 : mA (sI (sA (sA (sA M 36 A.1 x) 37 A.1 s) 38 A.1 b) 25 22 (nI (A.1 + 1))) 36 = upd (mA M 36) A.1 x := by rw [qA_sI, mA_sAne _ _ _ _ (by decide), mA_sAne _ _ _ _ (by decide)]; exact mA_sA_row
      have f7 : mA (sI (sA (sA (sA M 36 A.1 x) 37 A.1 s) 38 A.1 b) 25 22 (nI (A.1 + 1))) 37 = upd (mA M 37) A.1 s := by rw [qA_sI, mA_sAne _ _ _ _ (by decide)]; exact mA_sA_row.trans (by rw [mA_sAne _ _ _ _ (by decide)])
      have f8 : mA (sI (sA (sA (sA M 36 A.1 x) 37 A.1 s) 38 A.1 b) 25 22 (nI (A.1 + 1))) 38 = upd (mA M 38) A.1 b := by rw [qA_sI]; exact mA_sA_row.trans (by rw [mA_sAne _ _ _ _ (by decide), mA_sAne _ _ _ _ (by decide)])
      generalize sI (sA (sA (sA M 36 A.1 x) 37 A.1 s) 38 A.1 b) 25 22 (nI (A.1 + 1)) = M2 at kx hm f1 f6 f7 f8 ⊢
      exact ⟨⟨d.1.kx kx (by omega) (by omega) (by omega) (by omega) (by omega), d.2.1.kx kx (by omega), d.2.2.1.kx kx (by omega) (by omega) (by omega), (kx.1 6 (by omega)).trans d.2.2.2.1, d.2.2.2.2.1.kx kx (by omega) (by omega), ⟨f1, fun i hi => by rw [f6, f7, f8]; exact ⟨upd_lt (fun i hi => (d.2.2.2.2.2.1.2 i hi).1) hi, upd_lt (fun i hi => (d.2.2.2.2.2.1.2 i hi).2.1) hi, upd_lt (fun i hi => (d.2.2.2.2.2.1.2 i hi).2.2) hi⟩⟩, d.2.2.2.2.2.2.1.kx kx (by omega) (by omega) (by omega), d.2.2.2.2.2.2.2.kx kx (by omega) (by omega)⟩, hm⟩
  · simp only [if_neg c1]
    exact st_id h w
theorem eq_write (d : D9 S T q X sd H A B I) (w : W9 T q X sd H A B I) (s x : Int32) : wr7V T.1 B.1 s x = wrV S B.1 s x := by
  have hB := w.2.2.2.2.2.2.1
  unfold wr7V wrV
  rw [hs_say w.1.1, d.1.1, in01_i]
  by_cases c1 : sayB (nI T.1) s = true
  · rw [if_pos c1, if_pos c1]
    by_cases c3 : inI x 0 1 = true
    · rw [if_pos c3, if_pos c3]
      by_cases c2 : B.1 = 15
      · rw [if_neg (by omega), if_pos c2]
      · rw [if_pos (by omega), if_neg c2]
    · rw [if_neg c3, if_neg c3]
  · rw [if_neg c1, if_neg c1]
theorem st_write (h : F9 S t dr nw T q X sd H A B I) (w : W9 T q X sd H A B I) (s x : Int32) : St9 T q X sd H A B I S (wr7S S T.1 B.1 s x) (fun M => if sayB (nI T.1) s = true then (if inI x 0 1 = true then (if B.1 = 15 then M else sI (sA (sA M 40 B.1 s) 41 B.1 x) 25 27 (nI (B.1 + 1))) else M) else M) := by
  have hB := w.2.2.2.2.2.2.1
  unfold wr7S
  rw [hs_say w.1.1, in01_i]
  by_cases c1 : sayB (nI T.1) s = true
  · simp only [if_pos c1]
    by_cases c3 : inI x 0 1 = true
    · simp only [if_pos c3]
      have ex : bI (decide (x = 1)) = x := by rcases inI_01 c3 with e | e <;> rw [e] <;> decide
      rw [ex]
      unfold baS
      by_cases c2 : B.1 = 15
      · rw [if_neg (by omega)]
        simp only [if_pos c2]
        exact st_id h w
      · rw [if_pos (show B.1 < 15 by omega)]
        simp only [if_neg c2]
        have hx : HX9 S (sI (sA (sA S 10 B.1 s) 11 B.1 x) 9 2 (nI (B.1 + 1))) (fun a => a = 9 ∨ a = 10 ∨ a = 11) := ((HX9.a S B.1 s (Or.inr (Or.inl rfl))).trans (HX9.a _ B.1 x (Or.inr (Or.inr rfl)))).trans (HX9.i _ 2 _ (Or.inl rfl))
        have e1 : mI (sI (sA (sA S 10 B.1 s) 11 B.1 x) 9 2 (nI (B.1 + 1))) 9 2 = nI (B.1 + 1) := by rw [qI_sI, u2_self]
        have e6 : mA (sI (sA (sA S 10 B.1 s) 11 B.1 x) 9 2 (nI (B.1 + 1))) 10 = upd (mA S 10) B.1 s := by rw [qA_sI, mA_sAne _ _ _ _ (by decide)]; exact mA_sA_row
        have e7 : mA (sI (sA (sA S 10 B.1 s) 11 B.1 x) 9 2 (nI (B.1 + 1))) 11 = upd (mA S 11) B.1 x := by rw [qA_sI]; exact mA_sA_row.trans (by rw [mA_sAne _ _ _ _ (by decide)])
        generalize sI (sA (sA S 10 B.1 s) 11 B.1 x) 9 2 (nI (B.1 + 1)) = S2 at hx e1 e6 e7
        refine ⟨GX9.hx hx (fun a h1 h2 => by omega), t, dr, nw, T, q, X, sd, H, A, (B.1 + 1, upd B.2.1 B.1 s, upd B.2.2 B.1 x), I, ⟨h.1.hx hx, h.2.1.hx hx h.1.t1 (fun a _ _ => by omega), h.2.2.1.hx hx (fun a _ => by omega), h.2.2.2.1.hx hx (by omega) (by omega), (congrFun (hx.2 0 (by omega)).1 11).trans h.2.2.2.2.1, h.2.2.2.2.2.1.hx hx (by omega) (fun a _ => by omega), h.2.2.2.2.2.2.1.hx hx (by omega) (by omega) (by omega) (by omega), ⟨e1, fun i hi => by rw [e6, e7]; exact ⟨upd_lt (fun i hi => (h.2.2.2.2.2.2.2.1.2 i hi).1) hi, upd_lt (fun i hi => (h.2.2.2.2.2.2.2.1.2 i hi).2) hi⟩⟩, h.2.2.2.2.2.2.2.2.hx hx (by omega) (fun a _ => by omega)⟩, ⟨w.1, w.2.1, w.2.2.1, w.2.2.2.1, w.2.2.2.2.1, w.2.2.2.2.2.1, by show B.1 + 1 ≤ 15; omega, w.2.2.2.2.2.2.2⟩, fun M d => ?_⟩
        show D9 (sI (sA (sA M 40 B.1 s) 41 B.1 x) 25 27 (nI (B.1 + 1))) _ _ _ _ _ _ _ _ ∧ HX9 M (sI (sA (sA M 40 B.1 s) 41 B.1 x) 25 27 (nI (B.1 + 1))) M99
        have kx : KX9 M (sI (sA (sA M 40 B.1 s) 41 B.1 x) 25 27 (nI (B.1 + 1))) (fun j => j = 27) (fun a => a = 40 ∨ a = 41) := by
          refine KX9.trans (KX9.trans (KX9.a M B.1 s ?_) (KX9.a _ B.1 x ?_)) (KX9.i _ _ ?_)
          · exact Or.inl rfl
          · exact Or.inr rfl
          · rfl
        have hm : HX9 M (sI (sA (sA M 40 B.1 s) 41 B.1 x) 25 27 (nI (B.1 + 1))) M99 := ((HX9.a M B.1 s ⟨by omega, by omega⟩).trans (HX9.a _ B.1 x ⟨by omega, by omega⟩)).trans (HX9.i _ 27 _ ⟨by omega, by omega⟩)
        have f1 : mI (sI (sA (sA M 40 B.1 s) 41 B.1 x) 25 27 (nI (B.1 + 1))) 25 27 = nI (B.1 + 1) := by rw [qI_sI, u2_self]
        have f6 : mA (sI (sA (sA M 40 B.1 s) 41 B.1 x) 25 27 (nI (B.1 + 1))) 40 = upd (mA M 40) B.1 s := by rw [qA_sI, mA_sAne _ _ _ _ (by decide)]; exact mA_sA_row
        have f7 : mA (sI (sA (sA M 40 B.1 s) 41 B.1 x) 25 27 (nI (B.1 + 1))) 41 = upd (mA M 41) B.1 x := by rw [qA_sI]; exact mA_sA_row.trans (by rw [mA_sAne _ _ _ _ (by decide)])
        generalize sI (sA (sA M 40 B.1 s) 41 B.1 x) 25 27 (nI (B.1 + 1)) = M2 at kx hm f1 f6 f7 ⊢
        exact ⟨⟨d.1.kx kx (by omega) (by omega) (by omega) (by omega) (by omega), d.2.1.kx kx (by omega), d.2.2.1.kx kx (by omega) (by omega) (by omega), (kx.1 6 (by omega)).trans d.2.2.2.1, d.2.2.2.2.1.kx kx (by omega) (by omega), d.2.2.2.2.2.1.kx kx (by omega) (by omega) (by omega) (by omega), ⟨f1, fun i hi => by rw [f6, f7]; exact ⟨upd_lt (fun i hi => (d.2.2.2.2.2.2.1.2 i hi).1) hi, upd_lt (fun i hi => (d.2.2.2.2.2.2.1.2 i hi).2) hi⟩⟩, d.2.2.2.2.2.2.2.kx kx (by omega) (by omega)⟩, hm⟩
    · simp only [if_neg c3]
      exact st_id h w
  · simp only [if_neg c1]
    exact st_id h w
end STQ
