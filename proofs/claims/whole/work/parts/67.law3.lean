/-! what holds at the law's beginning -/
theorem z1_N : mN Z19 = 25 := by decide +kernel
theorem z_N : mN Z29 = 44 := by decide +kernel
theorem z_K : ∀ p, p < 44 → mK Z29 p = K0 p := by decide +kernel
theorem z_R : ∀ p, p < 44 → ∀ j, j < 32 → (R0 p j = none ∨ mR Z29 p j = R0 p j) := by decide +kernel
theorem z_R2 : mR Z29 0 8 = some 16 ∧ mR Z29 0 9 = some 20 ∧ mR Z29 0 10 = some 24 := by decide +kernel
theorem z_I : ∀ p, p < 44 → ∀ j, j < 32 → mI Z29 p j = if (p = 1 ∧ j = 5) ∨ (p = 25 ∧ j = 9) then -1 else 0 := by decide +kernel
theorem z_I0 {p j : Nat} (hp : p < 44) (hj : j < 32) (h : ¬ ((p = 1 ∧ j = 5) ∨ (p = 25 ∧ j = 9))) : mI Z29 p j = 0 := (z_I p hp j hj).trans (if_neg h)
theorem R0_hi : ∀ p, p < 44 → ∀ n, R0 p (n + 32) = none := fun p hp n => by
  match p, hp with
  | 0, _ => rfl
  | 1, _ => rfl
  | 2, _ => rfl
  | 3, _ => rfl
  | 4, _ => rfl
  | 5, _ => rfl
  | 6, _ => rfl
  | 7, _ => rfl
  | 8, _ => rfl
  | 9, _ => rfl
  | 10, _ => rfl
  | 11, _ => rfl
  | 12, _ => rfl
  | 13, _ => rfl
  | 14, _ => rfl
  | 15, _ => rfl
  | 16, _ => rfl
  | 17, _ => rfl
  | 18, _ => rfl
  | 19, _ => rfl
  | 20, _ => rfl
  | 21, _ => rfl
  | 22, _ => rfl
  | 23, _ => rfl
  | 24, _ => rfl
  | 25, _ => rfl
  | 26, _ => rfl
  | 27, _ => rfl
  | 28, _ => rfl
  | 29, _ => rfl
  | 30, _ => rfl
  | 31, _ => rfl
  | 32, _ => rfl
  | 33, _ => rfl
  | 34, _ => rfl
  | 35, _ => rfl
  | 36, _ => rfl
  | 37, _ => rfl
  | 38, _ => rfl
  | 39, _ => rfl
  | 40, _ => rfl
  | 41, _ => rfl
  | 42, _ => rfl
  | 43, _ => rfl
  | k + 44, h => exact absurd h (by omega)
theorem R0_j {p j r : Nat} (h : R0 p j = some r) : j < 32 := by
  have hp := R0_lt h
  rcases Nat.lt_or_ge j 32 with h2 | h2
  · exact h2
  · obtain ⟨n, e⟩ := Nat.exists_eq_add_of_le h2
    rw [e, Nat.add_comm, R0_hi p hp n] at h
    cases h
theorem z_Rs : Rs Z29 := fun p j r h => by
  rcases z_R p (R0_lt h) j (R0_j h) with e | e
  · rw [e] at h; cases h
  · rw [e]; exact h
theorem z_rel : Rel9 Z29 := by
  have zA : ∀ p, mA Z29 p = fun _ => 0 := fun p => funext (fun i => (za_2 p i).1)
  have zQ : ∀ p i, mQ Z29 p i = none := fun p i => (za_2 p i).2
  have zN := z_N
  refine ⟨16, 20, 24, (0, 0, fun _ => 0, fun _ => 0, fun _ => 0), fun _ => 0, (0, fun _ => 0, -1), 0, (0, fun _ _ => 0), (0, fun _ => 0, fun _ => 0, fun _ => 0), (0, fun _ => 0, fun _ => 0), fun _ => none, ⟨⟨⟨z_Rs, by omega, z_K⟩, Or.inl ⟨rfl, rfl⟩, z_R2⟩, ⟨z_I0 (by decide) (by decide) (by decide), z_I0 (by decide) (by decide) (by decide), fun r hr => absurd hr (Nat.not_lt_zero r)⟩, ⟨⟨by omega, z_K 24 (by decide), Or.inl rfl⟩, fun j hj => z_I0 (by decide) (by omega) (by omega)⟩, ⟨z_I0 (by decide) (by decide) (by decide), zA 2, (z_I 1 (by decide) 5 (by decide)).trans (if_pos (Or.inl ⟨rfl, rfl⟩))⟩, z_I0 (by decide) (by decide) (by decide), ⟨z_I0 (by decide) (by decide) (by decide), (show QN Z29 from fun i z e => (by rw [zQ] at e; cases e)), fun i hi => absurd hi (Nat.not_lt_zero i)⟩, ⟨z_I0 (by decide) (by decide) (by decide), fun i hi => absurd hi (Nat.not_lt_zero i)⟩, ⟨z_I0 (by decide) (by decide) (by decide), fun i hi => absurd hi (Nat.not_lt_zero i)⟩, fun i hi => Or.inl ⟨rfl, zQ 12 i⟩⟩, ⟨⟨z_I0 (by decide) (by decide) (by decide), z_I0 (by decide) (by decide) (by decide), fun r hr => absurd hr (Nat.not_lt_zero r)⟩, fun j hj => by rw [zA], ⟨z_I0 (by decide) (by decide) (by decide), zA 30, (z_I 25 (by decide) 9 (by decide)).trans (if_pos (Or.inr ⟨rfl, rfl⟩))⟩, z_I0 (by decide) (by decide) (by decide), ⟨z_I0 (by decide) (by decide) (by decide), fun i hi => absurd hi (Nat.not_lt_zero i)⟩, ⟨z_I0 (by decide) (by decide) (by decide), fun i hi => absurd hi (Nat.not_lt_zero i)⟩, ⟨z_I0 (by decide) (by decide) (by decide), fun i hi => absurd hi (Nat.not_lt_zero i)⟩, fun i hi => Or.inl ⟨rfl, by rw [zA]⟩⟩, ⟨⟨by decide, by decide, fun r hr => absurd hr (Nat.not_lt_zero r)⟩, ⟨sub_0 _, sub_0 _⟩, ⟨Nat.zero_le _, fun i hi => absurd hi (Nat.not_lt_zero i)⟩, by decide, ⟨Nat.zero_le _, fun i hi => absurd hi (Nat.not_lt_zero i)⟩, Nat.zero_le _, Nat.zero_le _, fun i f e => by cases e⟩⟩
