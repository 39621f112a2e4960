/-! the memory at the law's beginning -/
def S09 : Mem := (0, fun _ => 0, fun _ _ => 0, fun _ _ => none, fun _ _ => 0, fun _ _ => 0, fun _ _ => none)
def Z19 : Mem := i7S (sN S09 7)
def Z29 : Mem := i8S (sN Z19 8)
def ZA9 (S : Mem) : Prop := ∀ p i, mA S p i = 0 ∧ mQ S p i = none
section ZAS
variable {M : Mem}
theorem ZA9.i (h : ZA9 M) (p j : Nat) (v : Int32) : ZA9 (sI M p j v) := h
theorem ZA9.r (h : ZA9 M) (p j : Nat) (v : Option Nat) : ZA9 (sR M p j v) := h
theorem ZA9.n (h : ZA9 M) (k : Nat) : ZA9 (sN M k) := fun p i => by
  show u1 (mA M) (mN M) (fun _ => 0) p i = 0 ∧ u1 (mQ M) (mN M) (fun _ => none) p i = none
  unfold u1
  by_cases c : p = mN M
  · rw [if_pos c, if_pos c]; exact ⟨rfl, rfl⟩
  · rw [if_neg c, if_neg c]; exact h p i
theorem za_i5 (h : ZA9 M) : ZA9 (i5S M) := by unfold i5S i5S0; repeat (first | with_reducible exact h | with_reducible apply ZA9.i | with_reducible apply ZA9.r | with_reducible apply ZA9.n)
theorem za_i1 (h : ZA9 M) : ZA9 (i1S M) := by unfold i1S i1S0; repeat (first | with_reducible exact h | with_reducible apply ZA9.i | with_reducible apply ZA9.r | with_reducible apply ZA9.n)
theorem za_i3 (h : ZA9 M) : ZA9 (i3S M) := by unfold i3S i3S2 i3S1 i3S0; repeat (first | with_reducible exact h | with_reducible apply ZA9.i | with_reducible apply ZA9.r | with_reducible apply ZA9.n)
theorem za_i0 (h : ZA9 M) : ZA9 (i0S M) := by unfold i0S i0S1 i0S0; repeat (first | with_reducible exact h | with_reducible apply ZA9.i | with_reducible apply ZA9.r | with_reducible apply ZA9.n)
theorem za_i4 (h : ZA9 M) (t : Nat) : ZA9 (i4S M t) := by unfold i4S i4S2 i4S1 i4S0; repeat (first | with_reducible exact h | with_reducible apply ZA9.i | with_reducible apply ZA9.r | with_reducible apply ZA9.n)
theorem za_i7 (h : ZA9 M) : ZA9 (i7S M) := by
  unfold i7S i7S10 i7S9 i7S8 i7S7 i7S6 i7S5 i7S4 i7S3 i7S2 i7S1 i7S0
  repeat (first | with_reducible exact h | with_reducible apply ZA9.i | with_reducible apply ZA9.r | with_reducible apply ZA9.n | with_reducible apply za_i5 | with_reducible apply za_i1 | with_reducible apply za_i3 | with_reducible apply za_i0 | with_reducible apply za_i4)
theorem za_i8 (h : ZA9 M) : ZA9 (i8S M) := by
  unfold i8S i8S17 i8S16 i8S15 i8S14 i8S13 i8S12 i8S11 i8S10 i8S9 i8S8 i8S7 i8S6 i8S5 i8S4 i8S3 i8S2 i8S1 i8S0
  repeat (first | with_reducible exact h | with_reducible apply ZA9.i | with_reducible apply ZA9.r | with_reducible apply ZA9.n)
end ZAS
theorem za_2 : ZA9 Z29 := za_i8 (ZA9.n (za_i7 (ZA9.n (fun _ _ => ⟨rfl, rfl⟩) 7)) 8)
