/-! frames of the relation -/
def HX9 (S S2 : Mem) (ex : Nat → Prop) : Prop := (mN S2 = mN S ∧ mK S2 = mK S ∧ mR S2 = mR S ∧ mQ S2 = mQ S) ∧ ∀ a, ¬ ex a → mI S2 a = mI S a ∧ mA S2 a = mA S a
def GX9 (S S2 : Mem) : Prop := ∀ a, 25 ≤ a → a < 44 → mI S2 a = mI S a ∧ mA S2 a = mA S a
def KX9 (S S2 : Mem) (ei ea : Nat → Prop) : Prop := (∀ j, ¬ ei j → mI S2 25 j = mI S 25 j) ∧ ∀ a, 26 ≤ a → a < 44 → ¬ ea a → mA S2 a = mA S a
section FRM
variable {S S2 : Mem} {t dr nw : Nat} {T : TT9} {q : Nat → Int32} {X : XX9} {sd : Int32} {H : HH9} {A : AA9} {B : BB9} {I : II9} {ex ei ea : Nat → Prop}
theorem FB9.same (h : FB9 S t dr nw) (hN : mN S2 = mN S) (hK : mK S2 = mK S) (hR : mR S2 = mR S) : FB9 S2 t dr nw := by
  unfold FB9 Rs at *
  rw [hN, hK, hR]
  exact h
theorem Mo9.same {z : Nat} {f : Nat → Int32} (h : Mo9 S z f) (hN : mN S2 = mN S) (hK : mK S2 = mK S) (hI : mI S2 z = mI S z) : Mo9 S2 z f := by
  unfold Mo9 at *
  rw [hN, hK, hI]
  exact h
theorem FT9.same (h : FT9 S t T) (hI : mI S2 t = mI S t) (h1 : mA S2 (t + 1) = mA S (t + 1)) (h2 : mA S2 (t + 2) = mA S (t + 2)) (h3 : mA S2 (t + 3) = mA S (t + 3)) : FT9 S2 t T := by
  unfold FT9 at *
  rw [hI, h1, h2, h3]
  exact h
theorem FX9.same (h : FX9 S X) (hI : mI S2 1 = mI S 1) (hA : mA S2 2 = mA S 2) : FX9 S2 X := by
  unfold FX9 at *
  rw [hI, hA]
  exact h
theorem FH9.same (h : FH9 S H) (hN : mN S2 = mN S) (hK : mK S2 = mK S) (hI : mI S2 3 = mI S 3) (hQ : mQ S2 4 = mQ S 4) (hm : ∀ z, z = 24 ∨ 44 ≤ z → mI S2 z = mI S z) : FH9 S2 H := by
  unfold FH9 QN at *
  rw [hI, hQ, hN, hK]
  refine ⟨h.1, h.2.1, fun i hi => ?_⟩
  obtain ⟨z, e, k⟩ := h.2.2 i hi
  exact ⟨z, e, k.same hN hK (hm z k.1.2.2)⟩
theorem FA9.same (h : FA9 S A) (hI : mI S2 5 = mI S 5) (h1 : mA S2 6 = mA S 6) (h2 : mA S2 7 = mA S 7) (h3 : mA S2 8 = mA S 8) : FA9 S2 A := by
  unfold FA9 at *
  rw [hI, h1, h2, h3]
  exact h
theorem FK9.same (h : FK9 S B) (hI : mI S2 9 = mI S 9) (h1 : mA S2 10 = mA S 10) (h2 : mA S2 11 = mA S 11) : FK9 S2 B := by
  unfold FK9 at *
  rw [hI, h1, h2]
  exact h
theorem FI9.same (h : FI9 S I) (hN : mN S2 = mN S) (hK : mK S2 = mK S) (hQ : mQ S2 12 = mQ S 12) (hA : mA S2 13 = mA S 13) (hm : ∀ z, z = 24 ∨ 44 ≤ z → mI S2 z = mI S z) : FI9 S2 I := fun i hi => by
  rw [hQ, hA]
  rcases h i hi with k | ⟨f, z, e1, e2, k, e3⟩
  · exact Or.inl k
  · exact Or.inr ⟨f, z, e1, e2, k.same hN hK (hm z k.1.2.2), e3⟩
theorem FB9.hx (h : FB9 S t dr nw) (e : HX9 S S2 ex) : FB9 S2 t dr nw := h.same e.1.1 e.1.2.1 e.1.2.2.1
theorem FT9.hx (h : FT9 S t T) (e : HX9 S S2 ex) (ht : t = 16 ∨ t = 20) (c : ∀ a, 16 ≤ a → a ≤ 23 → ¬ ex a) : FT9 S2 t T := by
  have hb : 16 ≤ t ∧ t + 3 ≤ 23 := by rcases ht with e | e <;> omega
  exact h.same (e.2 t (c t (by omega) (by omega))).1 (e.2 _ (c _ (by omega) (by omega))).2 (e.2 _ (c _ (by omega) (by omega))).2 (e.2 _ (c _ (by omega) (by omega))).2
theorem Mo9.hx {z : Nat} {f : Nat → Int32} (h : Mo9 S z f) (e : HX9 S S2 ex) (c : ∀ a, a = 24 ∨ 44 ≤ a → ¬ ex a) : Mo9 S2 z f := h.same e.1.1 e.1.2.1 (e.2 z (c z h.1.2.2)).1
theorem FX9.hx (h : FX9 S X) (e : HX9 S S2 ex) (c1 : ¬ ex 1) (c2 : ¬ ex 2) : FX9 S2 X := h.same (e.2 _ c1).1 (e.2 _ c2).2
theorem FH9.hx (h : FH9 S H) (e : HX9 S S2 ex) (c1 : ¬ ex 3) (c : ∀ a, a = 24 ∨ 44 ≤ a → ¬ ex a) : FH9 S2 H := h.same e.1.1 e.1.2.1 (e.2 _ c1).1 (by rw [e.1.2.2.2]) (fun z hz => (e.2 z (c z hz)).1)
theorem FA9.hx (h : FA9 S A) (e : HX9 S S2 ex) (c5 : ¬ ex 5) (c6 : ¬ ex 6) (c7 : ¬ ex 7) (c8 : ¬ ex 8) : FA9 S2 A := h.same (e.2 _ c5).1 (e.2 _ c6).2 (e.2 _ c7).2 (e.2 _ c8).2
theorem FK9.hx (h : FK9 S B) (e : HX9 S S2 ex) (c5 : ¬ ex 9) (c6 : ¬ ex 10) (c7 : ¬ ex 11) : FK9 S2 B := h.same (e.2 _ c5).1 (e.2 _ c6).2 (e.2 _ c7).2
theorem FI9.hx (h : FI9 S I) (e : HX9 S S2 ex) (c1 : ¬ ex 13) (c : ∀ a, a = 24 ∨ 44 ≤ a → ¬ ex a) : FI9 S2 I := h.same e.1.1 e.1.2.1 (by rw [e.1.2.2.2]) (e.2 _ c1).2 (fun z hz => (e.2 z (c z hz)).1)
/-- a change of the other side leaves the first as it is -/
theorem F9.hx (h : F9 S t dr nw T q X sd H A B I) (e : HX9 S S2 ex) (c : ∀ a, a < 25 ∨ 44 ≤ a → ¬ ex a) : F9 S2 t dr nw T q X sd H A B I :=
  ⟨h.1.hx e, h.2.1.hx e h.1.t1 (fun a h1 h2 => c a (by omega)), h.2.2.1.hx e (fun a ha => c a (by omega)), h.2.2.2.1.hx e (c 1 (by omega)) (c 2 (by omega)), (congrFun (e.2 0 (c 0 (by omega))).1 11).trans h.2.2.2.2.1, h.2.2.2.2.2.1.hx e (c 3 (by omega)) (fun a ha => c a (by omega)), h.2.2.2.2.2.2.1.hx e (c 5 (by omega)) (c 6 (by omega)) (c 7 (by omega)) (c 8 (by omega)), h.2.2.2.2.2.2.2.1.hx e (c 9 (by omega)) (c 10 (by omega)) (c 11 (by omega)), h.2.2.2.2.2.2.2.2.hx e (c 13 (by omega)) (fun a ha => c a (by omega))⟩
theorem D9.gx (h : D9 S T q X sd H A B I) (e : GX9 S S2) : D9 S2 T q X sd H A B I := by
  unfold D9 DT9 DN9 DX9 DH9 DA9 DK9 DI9 at *
  rw [(e 25 (by omega) (by omega)).1, (e 26 (by omega) (by omega)).2, (e 27 (by omega) (by omega)).2, (e 28 (by omega) (by omega)).2, (e 29 (by omega) (by omega)).2, (e 30 (by omega) (by omega)).2, (e 34 (by omega) (by omega)).2, (e 36 (by omega) (by omega)).2, (e 37 (by omega) (by omega)).2, (e 38 (by omega) (by omega)).2, (e 40 (by omega) (by omega)).2, (e 41 (by omega) (by omega)).2, (e 42 (by omega) (by omega)).2, (e 43 (by omega) (by omega)).2]
  exact h
theorem GX9.refl (S : Mem) : GX9 S S := fun _ _ _ => ⟨rfl, rfl⟩
theorem GX9.trans {S3 : Mem} (h : GX9 S S2) (k : GX9 S2 S3) : GX9 S S3 := fun a h1 h2 => ⟨(k a h1 h2).1.trans (h a h1 h2).1, (k a h1 h2).2.trans (h a h1 h2).2⟩
theorem GX9.ext (h : Ext S S2) (h44 : 44 ≤ mN S) : GX9 S S2 := fun a _ h2 => ⟨(h.2 a (by omega)).2.1, (h.2 a (by omega)).2.2.2.1⟩
theorem GX9.hx (h : HX9 S S2 ex) (c : ∀ a, 25 ≤ a → a < 44 → ¬ ex a) : GX9 S S2 := fun a h1 h2 => h.2 a (c a h1 h2)
theorem HX9.refl (S : Mem) (ex : Nat → Prop) : HX9 S S ex := ⟨⟨rfl, rfl, rfl, rfl⟩, fun _ _ => ⟨rfl, rfl⟩⟩
theorem HX9.trans {S3 : Mem} (h : HX9 S S2 ex) (k : HX9 S2 S3 ex) : HX9 S S3 ex := ⟨⟨k.1.1.trans h.1.1, k.1.2.1.trans h.1.2.1, k.1.2.2.1.trans h.1.2.2.1, k.1.2.2.2.trans h.1.2.2.2⟩, fun a ha => ⟨(k.2 a ha).1.trans (h.2 a ha).1, (k.2 a ha).2.trans (h.2 a ha).2⟩⟩
theorem HX9.i (S : Mem) {p : Nat} (j : Nat) (v : Int32) (hp : ex p) : HX9 S (sI S p j v) ex := ⟨⟨rfl, rfl, rfl, rfl⟩, fun a ha => ⟨u2_nep _ _ _ _ (fun e => ha (by rw [e]; exact hp)), rfl⟩⟩
theorem HX9.a (S : Mem) {p : Nat} (j : Nat) (v : Int32) (hp : ex p) : HX9 S (sA S p j v) ex := ⟨⟨rfl, rfl, rfl, rfl⟩, fun a ha => ⟨rfl, mA_sAne _ _ _ _ (fun e => ha (by rw [e]; exact hp))⟩⟩
theorem HX9.w (S : Mem) {p : Nat} (f : Nat → Int32) (hp : ex p) : HX9 S (sW S p f) ex := ⟨⟨rfl, rfl, rfl, rfl⟩, fun a ha => ⟨rfl, mA_sW_ne _ _ (fun e => ha (by rw [e]; exact hp))⟩⟩
theorem HX9.v (S : Mem) (p : Nat) (f : Nat → Int64) : HX9 S (sV S p f) ex := ⟨⟨rfl, rfl, rfl, rfl⟩, fun a ha => ⟨rfl, rfl⟩⟩
theorem HX9.fx (h : FX S S2) : HX9 S S2 (fun a => 25 ≤ a ∧ a < 44) := ⟨⟨h.1, h.2.1, h.2.2.1, h.2.2.2.1⟩, fun a ha => ⟨(h.2.2.2.2 a (by omega)).1, (h.2.2.2.2 a (by omega)).2.1⟩⟩
/-- a memory with more places -/
theorem Mo9.ext {z : Nat} {f : Nat → Int32} (h : Mo9 S z f) (e : Ext S S2) : Mo9 S2 z f := by
  have e1 := e.2 z h.1.1
  unfold Mo9 at *
  rw [e1.1, e1.2.1]
  exact ⟨⟨by have := e.1; omega, h.1.2⟩, h.2⟩
theorem F9.ext (h : F9 S t dr nw T q X sd H A B I) (e : Ext S S2) : F9 S2 t dr nw T q X sd H A B I := by
  have h44 := h.1.1.2.1
  have ht := h.tlt
  have g : ∀ p, p < 44 → mK S2 p = mK S p ∧ mI S2 p = mI S p ∧ mR S2 p = mR S p ∧ mA S2 p = mA S p ∧ mL S2 p = mL S p ∧ mQ S2 p = mQ S p := fun p hp => e.2 p (by omega)
  have hb : t + 3 < 44 := by rcases h.1.t1 with e | e <;> omega
  refine ⟨⟨⟨h.1.1.1.ext h44 e, by have := e.1; omega, fun p hp => (g p hp).1.trans (h.1.1.2.2 p hp)⟩, h.1.2.1, by rw [(g 0 (by omega)).2.2.1]; exact h.1.2.2.1, by rw [(g 0 (by omega)).2.2.1]; exact h.1.2.2.2.1, by rw [(g 0 (by omega)).2.2.1]; exact h.1.2.2.2.2⟩, h.2.1.same (g t (by omega)).2.1 (g _ (by omega)).2.2.2.1 (g _ (by omega)).2.2.2.1 (g _ (by omega)).2.2.2.1, h.2.2.1.ext e, h.2.2.2.1.same (g 1 (by omega)).2.1 (g 2 (by omega)).2.2.2.1, by rw [(g 0 (by omega)).2.1]; exact h.2.2.2.2.1, ?_, h.2.2.2.2.2.2.1.same (g 5 (by omega)).2.1 (g 6 (by omega)).2.2.2.1 (g 7 (by omega)).2.2.2.1 (g 8 (by omega)).2.2.2.1, h.2.2.2.2.2.2.2.1.same (g 9 (by omega)).2.1 (g 10 (by omega)).2.2.2.1 (g 11 (by omega)).2.2.2.1, fun i hi => ?_⟩
  · have k := h.2.2.2.2.2.1
    refine ⟨by rw [(g 3 (by omega)).2.1]; exact k.1, k.2.1.ext h44 e, fun i hi => ?_⟩
    obtain ⟨z, e1, k2⟩ := k.2.2 i hi
    exact ⟨z, by rw [(g 4 (by omega)).2.2.2.2.2]; exact e1, k2.ext e⟩
  · rw [(g 12 (by omega)).2.2.2.2.2, (g 13 (by omega)).2.2.2.1]
    rcases h.2.2.2.2.2.2.2.2 i hi with k | ⟨f, z, e1, e2, k, e3⟩
    · exact Or.inl k
    · exact Or.inr ⟨f, z, e1, e2, k.ext e, e3⟩
theorem DT9.kx (h : DT9 S T) (e : KX9 S S2 ei ea) (c0 : ¬ ei 0) (c1 : ¬ ei 1) (c2 : ¬ ea 26) (c3 : ¬ ea 27) (c4 : ¬ ea 28) : DT9 S2 T := by
  unfold DT9 at *
  rw [e.1 0 c0, e.1 1 c1, e.2 26 (by omega) (by omega) c2, e.2 27 (by omega) (by omega) c3, e.2 28 (by omega) (by omega) c4]
  exact h
theorem DN9.kx (h : DN9 S q) (e : KX9 S S2 ei ea) (c2 : ¬ ea 29) : DN9 S2 q := by
  unfold DN9 at *
  rw [e.2 29 (by omega) (by omega) c2]
  exact h
theorem DX9.kx (h : DX9 S X) (e : KX9 S S2 ei ea) (c0 : ¬ ei 8) (c1 : ¬ ei 9) (c2 : ¬ ea 30) : DX9 S2 X := by
  unfold DX9 at *
  rw [e.1 8 c0, e.1 9 c1, e.2 30 (by omega) (by omega) c2]
  exact h
theorem DH9.kx (h : DH9 S H) (e : KX9 S S2 ei ea) (c0 : ¬ ei 19) (c2 : ¬ ea 34) : DH9 S2 H := by
  unfold DH9 at *
  rw [e.1 19 c0, e.2 34 (by omega) (by omega) c2]
  exact h
theorem DA9.kx (h : DA9 S A) (e : KX9 S S2 ei ea) (c0 : ¬ ei 22) (c2 : ¬ ea 36) (c3 : ¬ ea 37) (c4 : ¬ ea 38) : DA9 S2 A := by
  unfold DA9 at *
  rw [e.1 22 c0, e.2 36 (by omega) (by omega) c2, e.2 37 (by omega) (by omega) c3, e.2 38 (by omega) (by omega) c4]
  exact h
theorem DK9.kx (h : DK9 S B) (e : KX9 S S2 ei ea) (c0 : ¬ ei 27) (c2 : ¬ ea 40) (c3 : ¬ ea 41) : DK9 S2 B := by
  unfold DK9 at *
  rw [e.1 27 c0, e.2 40 (by omega) (by omega) c2, e.2 41 (by omega) (by omega) c3]
  exact h
theorem DI9.kx (h : DI9 S I) (e : KX9 S S2 ei ea) (c2 : ¬ ea 42) (c3 : ¬ ea 43) : DI9 S2 I := by
  unfold DI9 at *
  rw [e.2 42 (by omega) (by omega) c2, e.2 43 (by omega) (by omega) c3]
  exact h
theorem KX9.refl (S : Mem) (ei ea : Nat → Prop) : KX9 S S ei ea := ⟨fun _ _ => rfl, fun _ _ _ _ => rfl⟩
theorem KX9.trans {S3 : Mem} (h : KX9 S S2 ei ea) (k : KX9 S2 S3 ei ea) : KX9 S S3 ei ea := ⟨fun j hj => (k.1 j hj).trans (h.1 j hj), fun a h1 h2 h3 => (k.2 a h1 h2 h3).trans (h.2 a h1 h2 h3)⟩
theorem KX9.i (S : Mem) {j : Nat} (v : Int32) (hj : ei j) : KX9 S (sI S 25 j v) ei ea := ⟨fun b hb => by rw [qI_sI, u2_nej _ _ _ _ (fun e => hb (by rw [e]; exact hj))], fun _ _ _ _ => rfl⟩
theorem KX9.a (S : Mem) {p : Nat} (j : Nat) (v : Int32) (hp : ea p) : KX9 S (sA S p j v) ei ea := ⟨fun _ _ => rfl, fun a _ _ ha => mA_sAne _ _ _ _ (fun e => ha (by rw [e]; exact hp))⟩
theorem KX9.w (S : Mem) {p : Nat} (f : Nat → Int32) (hp : ea p) : KX9 S (sW S p f) ei ea := ⟨fun _ _ => rfl, fun a _ _ ha => mA_sW_ne _ _ (fun e => ha (by rw [e]; exact hp))⟩
end FRM
