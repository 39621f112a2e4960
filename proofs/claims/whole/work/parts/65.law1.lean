/-! THE LAW: its script, its beginning -/
def Sc9 (κ : Kx) (b L : Nat) (xs : Nat → Int32) : Prop := kx κ = some b ∧ va_X b L xs (ks κ) (ks κ).heap ∧ b < (ks κ).heap.size ∧ ¬ kA κ b
section LAWR
variable {own : String} {cc : ByteArray} {nL : Nat} {ret : Option FieldType} {d : Nat} {ini : Bool} {Φ : Option Value → Mem → Prop} {κ : Kx} {rc rs : Nat} {S : Mem} {pc q : Nat} {ls st : List Value} {b L : Nat} {xs : Nat → Int32}
theorem g_slen (C : Cx own cc nL ret d ini Φ κ) (hsc : Sc9 κ b L xs) (h0 : decode cc pc = .ok (.aload_n 0, 1)) (h1 : decode cc (pc + 1) = .ok (.arraylength, 1)) (hq : pc + 1 + 1 = q) (k : G κ rc rs S q ls (.int (nI L) :: st)) : G κ rc rs S pc ls st := by
  subst hq
  intro ad H locs lsA cells slots hw hl hs
  refine lv_aload_n C.1.1 C.1.2.1 h0 rfl (hl.2.2 b hsc.1) ?_
  exact va_slen C.1.1 C.1.2.1 hsc.2.1 hsc.2.2.1 hsc.2.2.2 hw.2.2.1 h1 (k ad H locs lsA cells slots hw hl (rb_i hs))
theorem g_scr0 (C : Cx own cc nL ret d ini Φ κ) (hsc : Sc9 κ b L xs) {i : Nat} {v0 v1 v2 : Value} (h0 : decode cc pc = .ok (.aload_n 0, 1)) (h1 : decode cc (pc + 1) = .ok (.iload_n 3, 1)) (h4 : decode cc (pc + 1 + 1) = .ok (.iaload, 1)) (hi : i < L) (hL : L ≤ 256) (hq : pc + 1 + 1 + 1 = q) (k : G κ rc rs S q (v0 :: v1 :: v2 :: .int (nI i) :: ls) (.int (xs i) :: st)) : G κ rc rs S pc (v0 :: v1 :: v2 :: .int (nI i) :: ls) st := by
  subst hq
  intro ad H locs lsA cells slots hw hl hs
  refine lv_aload_n C.1.1 C.1.2.1 h0 rfl (hl.2.2 b hsc.1) ?_
  refine lv_iload_n C.1.1 C.1.2.1 h1 rfl (lo_at hl (i := 3) (v := .int (nI i)) rfl rfl) ?_
  refine va_sld C.1.1 C.1.2.1 hsc.2.1 hsc.2.2.1 hsc.2.2.2 hw.2.2.1 (n_in hi (by omega)) h4 ?_
  rw [nI_clamp (by omega)]
  exact k ad H locs lsA cells slots hw hl (rb_i hs)
theorem g_scrK (C : Cx own cc nL ret d ini Φ κ) (hsc : Sc9 κ b L xs) {i k : Nat} {n : Int} {v0 v1 v2 : Value} (h0 : decode cc pc = .ok (.aload_n 0, 1)) (h1 : decode cc (pc + 1) = .ok (.iload_n 3, 1)) (h2 : decode cc (pc + 1 + 1) = .ok (.iconst n, 1)) (hn : Int32.ofInt n = nI k) (h3 : decode cc (pc + 1 + 1 + 1) = .ok (.iadd, 1)) (h4 : decode cc (pc + 1 + 1 + 1 + 1) = .ok (.iaload, 1)) (hi : i + k < L) (hL : L ≤ 256) (hq : pc + 1 + 1 + 1 + 1 + 1 = q) (kk : G κ rc rs S q (v0 :: v1 :: v2 :: .int (nI i) :: ls) (.int (xs (i + k)) :: st)) : G κ rc rs S pc (v0 :: v1 :: v2 :: .int (nI i) :: ls) st := by
  subst hq
  intro ad H locs lsA cells slots hw hl hs
  refine lv_aload_n C.1.1 C.1.2.1 h0 rfl (hl.2.2 b hsc.1) ?_
  refine lv_iload_n C.1.1 C.1.2.1 h1 rfl (lo_at hl (i := 3) (v := .int (nI i)) rfl rfl) ?_
  refine lv_iconst C.1.1 C.1.2.1 h2 hn ?_
  refine lv_iadd C.1.1 C.1.2.1 h3 ?_
  rw [nI_add]
  refine va_sld C.1.1 C.1.2.1 hsc.2.1 hsc.2.2.1 hsc.2.2.2 hw.2.2.1 (n_in hi (by omega)) h4 ?_
  rw [nI_clamp (by omega)]
  exact kk ad H locs lsA cells slots hw hl (rb_i hs)
theorem g_mono {rc2 rs2 : Nat} (h1 : rc ≤ rc2) (h2 : rs ≤ rs2) (k : G κ rc rs S pc ls st) : G κ rc2 rs2 S pc ls st := fun ad H locs lsA cells slots hw hl hs =>
  k ad H locs lsA cells slots ⟨hw.1, hw.2.1, hw.2.2.1, hw.2.2.2.1, hw.2.2.2.2.1, hw.2.2.2.2.2.1, hw.2.2.2.2.2.2.1, by have := hw.2.2.2.2.2.2.2.1; omega, by have := hw.2.2.2.2.2.2.2.2; omega⟩ hl hs
end LAWR
theorem ut_tbl {w : Cond} (h : w ∈ UT) : w ∈ lw_tbl := (List.mem_filter.mp h).1
theorem inst_ok : ∀ ci, ci < 9 → Cond.instantiable (CN ci) (FN ci) ∈ UT := nine (P := fun ci => Cond.instantiable (CN ci) (FN ci) ∈ UT) ic_X0 ic_X1 ic_X2 ic_X3 ic_X4 ic_X5 ic_X6 ic_X7 ic_X8
theorem cl_get {ci : Nat} {q : vw_C} (h : CL[ci]? = some q) : ci < 9 ∧ q = (CN ci, FT ci, FN ci) := by
  have hl : ci < 9 := by
    have := (List.getElem?_eq_some_iff.mp h).1
    unfold CL at this
    simpa using this
  rw [CL_at hl] at h
  exact ⟨hl, (Option.some.inj h).symm⟩
theorem start_K {s : State} {args : Array Value} (hts : ∀ w ∈ lw_tbl, w.before args s = true) : ∃ (D : va_G) (c4 : Nat → ClassId), va_K D CL (tys4 c4) s := by
  have hu : ∀ w ∈ UT, w.before args s = true := fun w hw => hts w (ut_tbl hw)
  have h9 : ∀ ci, ci < 9 → ∃ (x : ClassId × (Nat → Nat)), u_Kn s (CN ci) (FT ci) (FN ci) x.1 x.2 := fun ci hc => by
    obtain ⟨cC, iS, h⟩ := u_known (C := CN ci) (T := FT ci) (N := FN ci) (n := FN ci) hu (lay_ok ci hc) (hu _ (inst_ok ci hc))
    exact ⟨(cC, iS), h⟩
  have hA : ∀ ci : Nat, ∃ (x : ClassId × (Nat → Nat)), ci < 9 → u_Kn s (CN ci) (FT ci) (FN ci) x.1 x.2 := fun ci => by
    by_cases hc : ci < 9
    · obtain ⟨x, h⟩ := h9 ci hc
      exact ⟨x, fun _ => h⟩
    · obtain ⟨x, _⟩ := h9 0 (by decide)
      exact ⟨x, fun z => absurd z hc⟩
  obtain ⟨f, hf⟩ := Classical.axiomOfChoice hA
  obtain ⟨a0, k0, p0, n0, e0, g0⟩ := Cond.arrayClass_spec (hu _ ac_int)
  obtain ⟨a1, k1, p1, n1, e1, g1⟩ := Cond.arrayClass_spec (hu _ ac_boolean)
  obtain ⟨a2, k2, p2, n2, e2, g2⟩ := Cond.arrayClass_spec (hu _ ac_long)
  obtain ⟨p3, a3, k3, n3, _, e3, g3, j3⟩ := Cond.arrayOver_spec (hts _ ao_word)
  refine ⟨(fun ci => (f ci).1, fun ci => (f ci).2), fun k => if k = 0 then a0 else if k = 1 then a1 else if k = 2 then a2 else a3, fun ci q hq => ?_, fun k q hq => ?_⟩
  · obtain ⟨hc, e⟩ := cl_get hq
    subst e
    exact hf ci hc
  · match k, hq with
    | 0, hq => cases hq; exact ⟨fun n z => ⟨fun k h => (by cases h), k0, e0, p0, g0⟩, n0⟩
    | 1, hq => cases hq; exact ⟨fun n z => ⟨fun k h => (by cases h), k1, e1, p1, g1⟩, n1⟩
    | 2, hq => cases hq; exact ⟨fun n z => ⟨fun k h => (by cases h), k2, e2, p2, g2⟩, n2⟩
    | 3, hq => cases hq; exact ⟨fun n z => ⟨fun k h => (by cases h), k3, e3, p3, g3⟩, k3, p3, e3, g3, n3, j3⟩
    | k + 4, hq => cases hq
