/-! THE RELATION: a state of the town as both sides hold it. T = (things, rules, costs, conclusions, needs); q = what is so now; X = (letters, text, fault's place); H = (how many can be undone, they); A = asked; B = the book; I = images -/
abbrev TT9 : Type := Nat × Nat × (Nat → Int32) × (Nat → Int32) × (Nat → Int32)
abbrev XX9 : Type := Nat × (Nat → Int32) × Int32
abbrev HH9 : Type := Nat × (Nat → Nat → Int32)
abbrev AA9 : Type := Nat × (Nat → Int32) × (Nat → Int32) × (Nat → Int32)
abbrev BB9 : Type := Nat × (Nat → Int32) × (Nat → Int32)
abbrev II9 : Type := Nat → Option (Nat → Int32)
def Mo9 (S : Mem) (z : Nat) (f : Nat → Int32) : Prop := (z < mN S ∧ mK S z = 2 ∧ (z = 24 ∨ 44 ≤ z)) ∧ ∀ j, j < 4 → mI S z j = f j
def FB9 (S : Mem) (t dr nw : Nat) : Prop := (Rs S ∧ 44 ≤ mN S ∧ ∀ p, p < 44 → mK S p = K0 p) ∧ ((t = 16 ∧ dr = 20) ∨ (t = 20 ∧ dr = 16)) ∧ mR S 0 8 = some t ∧ mR S 0 9 = some dr ∧ mR S 0 10 = some nw
def FT9 (S : Mem) (t : Nat) (T : TT9) : Prop := mI S t 3 = nI T.1 ∧ mI S t 4 = nI T.2.1 ∧ ∀ r, r < T.2.1 → mA S (t + 1) r = T.2.2.1 r ∧ mA S (t + 2) r = T.2.2.2.1 r ∧ mA S (t + 3) r = T.2.2.2.2 r
def FX9 (S : Mem) (X : XX9) : Prop := mI S 1 1 = nI X.1 ∧ mA S 2 = X.2.1 ∧ mI S 1 5 = X.2.2
def FH9 (S : Mem) (H : HH9) : Prop := mI S 3 1 = nI H.1 ∧ QN S ∧ ∀ i, i < H.1 → ∃ z, mQ S 4 i = some z ∧ Mo9 S z (H.2 i)
def FA9 (S : Mem) (A : AA9) : Prop := mI S 5 3 = nI A.1 ∧ ∀ i, i < A.1 → mA S 6 i = A.2.1 i ∧ mA S 7 i = A.2.2.1 i ∧ mA S 8 i = A.2.2.2 i
def FK9 (S : Mem) (B : BB9) : Prop := mI S 9 2 = nI B.1 ∧ ∀ i, i < B.1 → mA S 10 i = B.2.1 i ∧ mA S 11 i = B.2.2 i
def FI9 (S : Mem) (I : II9) : Prop := ∀ i, i < 2 → (I i = none ∧ mQ S 12 i = none) ∨ (∃ f z, I i = some f ∧ mQ S 12 i = some z ∧ Mo9 S z f ∧ mA S 13 i = f 4)
/-- the first side -/
def F9 (S : Mem) (t dr nw : Nat) (T : TT9) (q : Nat → Int32) (X : XX9) (sd : Int32) (H : HH9) (A : AA9) (B : BB9) (I : II9) : Prop := FB9 S t dr nw ∧ FT9 S t T ∧ Mo9 S nw q ∧ FX9 S X ∧ mI S 0 11 = sd ∧ FH9 S H ∧ FA9 S A ∧ FK9 S B ∧ FI9 S I
def DT9 (S : Mem) (T : TT9) : Prop := mI S 25 0 = nI T.1 ∧ mI S 25 1 = nI T.2.1 ∧ ∀ r, r < T.2.1 → mA S 26 r = T.2.2.1 r ∧ mA S 27 r = T.2.2.2.1 r ∧ mA S 28 r = T.2.2.2.2 r
def DN9 (S : Mem) (q : Nat → Int32) : Prop := ∀ j, j < 4 → mA S 29 j = q j
def DX9 (S : Mem) (X : XX9) : Prop := mI S 25 8 = nI X.1 ∧ mA S 30 = X.2.1 ∧ mI S 25 9 = X.2.2
def DH9 (S : Mem) (H : HH9) : Prop := mI S 25 19 = nI H.1 ∧ ∀ i, i < H.1 → ∀ j, j < 4 → mA S 34 (4 * i + j) = H.2 i j
def DA9 (S : Mem) (A : AA9) : Prop := mI S 25 22 = nI A.1 ∧ ∀ i, i < A.1 → mA S 36 i = A.2.1 i ∧ mA S 37 i = A.2.2.1 i ∧ mA S 38 i = A.2.2.2 i
def DK9 (S : Mem) (B : BB9) : Prop := mI S 25 27 = nI B.1 ∧ ∀ i, i < B.1 → mA S 40 i = B.2.1 i ∧ mA S 41 i = B.2.2 i
def DI9 (S : Mem) (I : II9) : Prop := ∀ i, i < 2 → (I i = none ∧ mA S 43 i = 0) ∨ (∃ f, I i = some f ∧ mA S 43 i = 1 ∧ ∀ j, j < 5 → mA S 42 (5 * i + j) = f j)
/-- the other side -/
def D9 (S : Mem) (T : TT9) (q : Nat → Int32) (X : XX9) (sd : Int32) (H : HH9) (A : AA9) (B : BB9) (I : II9) : Prop := DT9 S T ∧ DN9 S q ∧ DX9 S X ∧ mI S 25 6 = sd ∧ DH9 S H ∧ DA9 S A ∧ DK9 S B ∧ DI9 S I
def mk9 (th : Nat) : Int32 := nI (2 ^ (2 * th) - 1)
def WT9 (T : TT9) : Prop := T.1 ≤ 8 ∧ T.2.1 ≤ 10 ∧ ∀ r, r < T.2.1 → (∃ c, c ≤ 99 ∧ T.2.2.1 r = nI c) ∧ (∃ c, c < 2 * T.1 ∧ T.2.2.2.1 r = nI c)
def WN9 (th : Nat) (f : Nat → Int32) : Prop := sub (f 0) (mk9 th) ∧ sub (f 1) (mk9 th)
/-- bounds -/
def W9 (T : TT9) (q : Nat → Int32) (X : XX9) (sd : Int32) (H : HH9) (A : AA9) (B : BB9) (I : II9) : Prop := WT9 T ∧ WN9 T.1 q ∧ Tx X.2.1 X.1 ∧ 0 ≤ sd ∧ (H.1 ≤ 20 ∧ ∀ i, i < H.1 → WN9 T.1 (H.2 i)) ∧ A.1 ≤ 6 ∧ B.1 ≤ 15 ∧ ∀ i f, I i = some f → WN9 T.1 f ∧ 0 ≤ f 4
def Rel9 (S : Mem) : Prop := ∃ (t dr nw : Nat) (T : TT9) (q : Nat → Int32) (X : XX9) (sd : Int32) (H : HH9) (A : AA9) (B : BB9) (I : II9), F9 S t dr nw T q X sd H A B I ∧ D9 S T q X sd H A B I ∧ W9 T q X sd H A B I
theorem Tn_of {T : TT9} (h : WT9 T) {f : Nat → Int32} (hf : ∀ r, r < T.2.1 → f r = T.2.2.2.1 r) : Tn T.2.1 f := ⟨h.2.1, fun r hr => by
  obtain ⟨c, hc, e⟩ := (h.2.2 r hr).2
  exact ⟨c, by have := h.1; omega, (hf r hr).trans e⟩⟩
theorem Cs_of {T : TT9} (h : WT9 T) {f : Nat → Int32} (hf : ∀ r, r < T.2.1 → f r = T.2.2.1 r) : Cs T.2.1 f := fun r hr => by
  obtain ⟨c, hc, e⟩ := (h.2.2 r hr).1
  exact ⟨c, hc, (hf r hr).trans e⟩
theorem TwK_of {S : Mem} {t : Nat} (hR : Rs S) (hK : ∀ p, p < 44 → mK S p = K0 p) (ht : t = 16 ∨ t = 20) : TwK S t := by
  rcases ht with rfl | rfl
  · exact ⟨hK 16 (by decide), hR 16 0 17 rfl, hR 16 1 18 rfl, hR 16 2 19 rfl, hK 17 (by decide), hK 18 (by decide), hK 19 (by decide)⟩
  · exact ⟨hK 20 (by decide), hR 20 0 21 rfl, hR 20 1 22 rfl, hR 20 2 23 rfl, hK 21 (by decide), hK 22 (by decide), hK 23 (by decide)⟩
section R9
variable {S : Mem} {t dr nw : Nat} {T : TT9} {q : Nat → Int32} {X : XX9} {sd : Int32} {H : HH9} {A : AA9} {B : BB9} {I : II9}
theorem FB9.t1 (h : FB9 S t dr nw) : t = 16 ∨ t = 20 := h.2.1.elim (fun e => Or.inl e.1) (fun e => Or.inr e.1)
theorem FB9.t2 (h : FB9 S t dr nw) : dr = 16 ∨ dr = 20 := h.2.1.elim (fun e => Or.inr e.2) (fun e => Or.inl e.2)
theorem F9.cw (h : F9 S t dr nw T q X sd H A B I) (w : WT9 T) : CW S t nw T.1 T.2.1 :=
  ⟨⟨h.1.1.1, h.1.1.2.1, by rcases h.1.t1 with e | e <;> omega, h.2.2.1.1.1⟩, ⟨h.1.2.2.1, h.1.2.2.2.2⟩, TwK_of h.1.1.1 h.1.1.2.2 h.1.t1, h.2.2.1.1.2.1, ⟨h.2.1.1, w.1⟩, h.2.1.2.1, Tn_of w (fun r hr => (h.2.1.2.2 r hr).2.1), Cs_of w (fun r hr => (h.2.1.2.2 r hr).1)⟩
theorem F9.hb (h : F9 S t dr nw T q X sd H A B I) (hu : H.1 ≤ 20) : HB S H.1 := ⟨h.2.2.2.2.2.1.2.1, h.2.2.2.2.2.1.1, hu⟩
theorem F9.nq (h : F9 S t dr nw T q X sd H A B I) {j : Nat} (hj : j < 4) : mI S nw j = q j := h.2.2.1.2 j hj
theorem D9.tn (h : D9 S T q X sd H A B I) (w : WT9 T) : Tn T.2.1 (mA S 27) := Tn_of w (fun r hr => (h.1.2.2 r hr).2.1)
theorem D9.cs (h : D9 S T q X sd H A B I) (w : WT9 T) : Cs T.2.1 (mA S 26) := Cs_of w (fun r hr => (h.1.2.2 r hr).1)
theorem F9.cl9 (h : F9 S t dr nw T q X sd H A B I) (bb x : Int32) : clo T.2.1 (mA S (t + 2)) (mA S (t + 3)) bb x = clo T.2.1 T.2.2.2.1 T.2.2.2.2 bb x := clo_congr (fun r hr => (h.2.1.2.2 r hr).2) bb x
theorem D9.cl9 (h : D9 S T q X sd H A B I) (bb x : Int32) : clo T.2.1 (mA S 27) (mA S 28) bb x = clo T.2.1 T.2.2.2.1 T.2.2.2.2 bb x := clo_congr (fun r hr => (h.1.2.2 r hr).2) bb x
theorem WT9.tn (w : WT9 T) : Tn T.2.1 T.2.2.2.1 := Tn_of w (fun _ _ => rfl)
theorem WT9.on9 (w : WT9 T) {r : Nat} (hr : r < T.2.1) : sub (one (T.2.2.2.1 r)) (mk9 T.1) := by
  obtain ⟨c, hc, e⟩ := (w.2.2 r hr).2
  rw [e]
  exact sub_mask hc w.1
theorem WT9.cl9 (w : WT9 T) {bb x : Int32} (hx : sub x (mk9 T.1)) : sub (clo T.2.1 T.2.2.2.1 T.2.2.2.2 bb x) (mk9 T.1) := clo_mask w.tn hx (fun r hr => w.on9 hr)
theorem cst_congr {f g : Nat → Int32} {x : Int32} : ∀ n, (∀ r, r < n → f r = g r) → cstF f x n = cstF g x n
  | 0, _ => rfl
  | n + 1, h => by
    show cstF f x n + (if hasB x (nI n) = true then f n else 0) = cstF g x n + (if hasB x (nI n) = true then g n else 0)
    rw [cst_congr n (fun r hr => h r (by omega)), h n (by omega)]
theorem F9.cst (h : F9 S t dr nw T q X sd H A B I) (x : Int32) : cstF (mA S (t + 1)) x T.2.1 = cstF T.2.2.1 x T.2.1 := cst_congr _ (fun r hr => (h.2.1.2.2 r hr).1)
theorem D9.cst (h : D9 S T q X sd H A B I) (x : Int32) : cstF (mA S 26) x T.2.1 = cstF T.2.2.1 x T.2.1 := cst_congr _ (fun r hr => (h.1.2.2 r hr).1)
/-- reads of the trial that is made anew -/
theorem tS_1 (S : Mem) (t nw nr : Nat) : mI (tS S t nw nr) (mN S) 1 = mI S nw 0 := trS_1 _ _ _ _
theorem tS_2 (S : Mem) (t nw nr : Nat) : mI (tS S t nw nr) (mN S) 2 = alw (nI nr) (mI S nw 2) := trS_2 _ _ _ _
theorem tS_ext (S : Mem) (t nw nr : Nat) : Ext S (tS S t nw nr) := trS_ext _ _ _ _
theorem tS_A (S : Mem) (t nw nr : Nat) {p : Nat} (hp : p < mN S) : mA (tS S t nw nr) p = mA S p := ((tS_ext S t nw nr).2 p hp).2.2.2.1
end R9
