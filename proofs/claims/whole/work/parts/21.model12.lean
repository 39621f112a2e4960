/-! what the reader's answers are -/
theorem numR_inl {tx : Nat → Int32} {tn lo hi p k pl : Nat} (h : numR tx tn lo hi p = .inl (k, pl)) : 1 ≤ k ∧ k ≤ 4 ∧ (p ≤ tn → pl ≤ tn) := by
  have hs : p ≤ tn → skp tx tn p ≤ tn := fun q => (skp_le q).2
  unfold numR at h
  by_cases h1 : dig tx tn (skp tx tn p) = true
  · rw [if_pos h1] at h
    by_cases h2 : 3 < dgE tx tn (skp tx tn p) - skp tx tn p ∨ dvl tx (skp tx tn p) (dgE tx tn (skp tx tn p) - skp tx tn p) < lo ∨ hi < dvl tx (skp tx tn p) (dgE tx tn (skp tx tn p) - skp tx tn p)
    · rw [if_pos h2] at h
      cases h
      exact ⟨by decide, by decide, hs⟩
    · rw [if_neg h2] at h
      cases h
  · rw [if_neg h1] at h
    cases h
    exact ⟨by decide, by decide, hs⟩
theorem numR_inr {tx : Nat → Int32} {tn lo hi p a e v : Nat} (hp : p ≤ tn) (h : numR tx tn lo hi p = .inr (a, e, v)) : p ≤ a ∧ a < e ∧ e ≤ tn ∧ lo ≤ v ∧ v ≤ hi := by
  have hs := skp_le (tx := tx) hp
  unfold numR at h
  by_cases h1 : dig tx tn (skp tx tn p) = true
  · rw [if_pos h1] at h
    by_cases h2 : 3 < dgE tx tn (skp tx tn p) - skp tx tn p ∨ dvl tx (skp tx tn p) (dgE tx tn (skp tx tn p) - skp tx tn p) < lo ∨ hi < dvl tx (skp tx tn p) (dgE tx tn (skp tx tn p) - skp tx tn p)
    · rw [if_pos h2] at h
      cases h
    · rw [if_neg h2] at h
      cases h
      exact ⟨hs.1, dgE_lt h1, (dgE_le hs.2).2, by omega, by omega⟩
  · rw [if_neg h1] at h
    cases h
theorem sayR_inl {tx : Nat → Int32} {tn th p k pl : Nat} {x : Int32} (h : sayR tx tn th x p = .inl (k, pl)) : 1 ≤ k ∧ k ≤ 4 := by
  unfold sayR at h
  cases hn : numR tx tn 0 (2 * th - 1) p with
  | inl f =>
    rw [hn] at h
    cases h
    exact ⟨(numR_inl hn).1, (numR_inl hn).2.1⟩
  | inr f =>
    obtain ⟨a, e, v⟩ := f
    rw [hn] at h
    by_cases hb : hasB x (nI v) = true
    · have h : (if hasB x (nI v) = true then Sum.inl (4, a) else Sum.inr (a, e, v)) = (Sum.inl (k, pl) : (Nat × Nat) ⊕ (Nat × Nat × Nat)) := h
      rw [if_pos hb] at h
      cases h
      exact ⟨by decide, by decide⟩
    · have h : (if hasB x (nI v) = true then Sum.inl (4, a) else Sum.inr (a, e, v)) = (Sum.inl (k, pl) : (Nat × Nat) ⊕ (Nat × Nat × Nat)) := h
      rw [if_neg hb] at h
      cases h
theorem sayR_inr {tx : Nat → Int32} {tn th p a e v : Nat} {x : Int32} (hp : p ≤ tn) (hth : 1 ≤ th) (h : sayR tx tn th x p = .inr (a, e, v)) : p ≤ a ∧ a < e ∧ e ≤ tn ∧ v < 2 * th ∧ hasB x (nI v) = false ∧ numR tx tn 0 (2 * th - 1) p = .inr (a, e, v) := by
  unfold sayR at h
  cases hn : numR tx tn 0 (2 * th - 1) p with
  | inl f =>
    rw [hn] at h
    cases h
  | inr f =>
    obtain ⟨a', e', v'⟩ := f
    rw [hn] at h
    have h : (if hasB x (nI v') = true then Sum.inl (4, a') else Sum.inr (a', e', v')) = (Sum.inr (a, e, v) : (Nat × Nat) ⊕ (Nat × Nat × Nat)) := h
    by_cases hb : hasB x (nI v') = true
    · rw [if_pos hb] at h
      cases h
    · rw [if_neg hb] at h
      cases h
      have := numR_inr hp hn
      exact ⟨this.1, this.2.1, this.2.2.1, by omega, by simpa using hb, rfl⟩
theorem numQ_ne {tx : Nat → Int32} {tn lo hi p : Nat} {g g2 : Nat → Int32} {v : Int32} (h : numQ tx tn lo hi p g g2 v) (hv : ¬ v = 0) : ∃ k pl, numR tx tn lo hi p = .inl (k, pl) ∧ v = nI k ∧ g2 9 = nI pl := by
  unfold numQ at h
  cases hn : numR tx tn lo hi p with
  | inl f =>
    obtain ⟨k, pl⟩ := f
    rw [hn] at h
    exact ⟨k, pl, rfl, h.1, h.2⟩
  | inr f =>
    obtain ⟨a, e, x⟩ := f
    rw [hn] at h
    exact absurd h.1 hv
theorem nI_k0 {k : Nat} (h1 : 1 ≤ k) (h4 : k ≤ 4) : ¬ nI k = 0 := nI_ne0 (by omega) (by omega)
theorem numQ_0 {tx : Nat → Int32} {tn lo hi p : Nat} {g g2 : Nat → Int32} {v : Int32} (h : numQ tx tn lo hi p g g2 v) (hv : v = 0) : ∃ at9 e x, numR tx tn lo hi p = .inr (at9, e, x) ∧ g2 9 = g 9 ∧ g2 10 = nI e ∧ g2 11 = nI x ∧ g2 12 = nI at9 := by
  unfold numQ at h
  cases hn : numR tx tn lo hi p with
  | inl f =>
    obtain ⟨k, pl⟩ := f
    rw [hn] at h
    have := numR_inl hn
    exact absurd (h.1.symm.trans hv) (nI_k0 this.1 this.2.1)
  | inr f =>
    obtain ⟨a, e, x⟩ := f
    rw [hn] at h
    exact ⟨a, e, x, rfl, h.2⟩
def sayQ (tx : Nat → Int32) (tn th : Nat) (x : Int32) (p : Nat) (g g2 : Nat → Int32) (v : Int32) : Prop := match sayR tx tn th x p with
  | .inl (k, pl) => v = nI k ∧ g2 9 = nI pl
  | .inr (at9, e, n) => v = 0 ∧ g2 9 = g 9 ∧ g2 10 = nI e ∧ g2 11 = nI n ∧ g2 12 = nI at9
theorem sayQ_ne {tx : Nat → Int32} {tn th p : Nat} {x : Int32} {g g2 : Nat → Int32} {v : Int32} (h : sayQ tx tn th x p g g2 v) (hv : ¬ v = 0) : ∃ k pl, sayR tx tn th x p = .inl (k, pl) ∧ v = nI k ∧ g2 9 = nI pl := by
  unfold sayQ at h
  cases hn : sayR tx tn th x p with
  | inl f =>
    obtain ⟨k, pl⟩ := f
    rw [hn] at h
    exact ⟨k, pl, rfl, h.1, h.2⟩
  | inr f =>
    obtain ⟨a, e, n⟩ := f
    rw [hn] at h
    exact absurd h.1 hv
theorem sayQ_0 {tx : Nat → Int32} {tn th p : Nat} {x : Int32} {g g2 : Nat → Int32} {v : Int32} (h : sayQ tx tn th x p g g2 v) (hv : v = 0) : ∃ at9 e n, sayR tx tn th x p = .inr (at9, e, n) ∧ g2 9 = g 9 ∧ g2 10 = nI e ∧ g2 11 = nI n ∧ g2 12 = nI at9 := by
  unfold sayQ at h
  cases hn : sayR tx tn th x p with
  | inl f =>
    obtain ⟨k, pl⟩ := f
    rw [hn] at h
    have := sayR_inl hn
    exact absurd (h.1.symm.trans hv) (nI_k0 this.1 this.2)
  | inr f =>
    obtain ⟨a, e, n⟩ := f
    rw [hn] at h
    exact ⟨a, e, n, rfl, h.2⟩
theorem fr4_t {f g h : Nat → Int32} (h1 : fr4 f g) (h2 : fr4 g h) : fr4 f h := fun j a b c d => (h2 j a b c d).trans (h1 j a b c d)
theorem sayR_0 {tx : Nat → Int32} {tn th p : Nat} : sayR tx tn th 0 p = numR tx tn 0 (2 * th - 1) p := by
  unfold sayR
  cases hn : numR tx tn 0 (2 * th - 1) p with
  | inl f => rfl
  | inr f =>
    obtain ⟨a, e, v⟩ := f
    refine if_neg ?_
    have : bitI 0 (nI v) = 0 := by
      unfold bitI
      apply b_ext
      intro i hi
      rw [b_and, b_1 i hi, b_0]
      by_cases h0 : i = 0
      · subst h0
        have : bt ((0 : Int32) >>> (nI v &&& 31)) 0 = false := by
          have e0 : (0 : Int32) >>> (nI v &&& 31) = 0 := by
            apply Int32.toBitVec_inj.mp
            rw [Int32.toBitVec_shiftRight]
            simp
          rw [e0, b_0]
        rw [this]; rfl
      · simp [h0]
    unfold hasB
    rw [this]
    decide

def frS (g g2 : Nat → Int32) : Prop := ∀ j, j ≠ 9 → j ≠ 10 → j ≠ 11 → j ≠ 12 → j ≠ 13 → j ≠ 14 → j ≠ 18 → g2 j = g j
theorem frS_4 {g g2 : Nat → Int32} (h : fr4 g g2) : frS g g2 := fun j a b c d _ _ _ => h j a b c d
theorem frS_s {g g2 : Nat → Int32} (h : frS g g2) {i : Nat} (x : Int32) (hi : i = 9 ∨ i = 10 ∨ i = 11 ∨ i = 12 ∨ i = 13 ∨ i = 14 ∨ i = 18) : frS g (upd g2 i x) := fun j h1 h2 h3 h4 h5 h6 h7 => by
  rw [upd_ne _ _ (by rcases hi with e | e | e | e | e | e | e <;> rw [e] <;> assumption)]
  exact h j h1 h2 h3 h4 h5 h6 h7
theorem frS_t {f g h : Nat → Int32} (h1 : frS f g) (h2 : frS g h) : frS f h := fun j a b c d e k l => (h2 j a b c d e k l).trans (h1 j a b c d e k l)
theorem frS_r (g : Nat → Int32) : frS g g := fun _ _ _ _ _ _ _ _ => rfl
def ttP (S : Mem) (tn p : Nat) (g a b c : Nat → Int32) : Int32 → Mem → Prop := fun v S2 => ∃ g2, S2 = zS S g2 a b c ∧ frS g g2 ∧ (match numR (mA S 30) tn 1 8 p with
  | .inl (k, pl) => v = nI k ∧ g2 9 = nI pl
  | .inr (_, e, n) => v = 0 ∧ g2 9 = g 9 ∧ g2 10 = nI e ∧ g2 13 = nI n ∧ g2 14 = g 14 ∧ g2 18 = g 18)
set_option maxHeartbeats 4000000 in
set_option maxRecDepth 20000 in
theorem ok_X8_takeThings (S : Mem) (hR : Rs S) (tn : Nat) (hX : Tx (mA S 30) tn) (g a b c : Nat → Int32) (h8 : g 8 = nI tn) (p : Nat) (hp : g 10 = nI p) (hpt : p ≤ tn) : Ok yX8_takeThings cX8_takeThings 2 (some .int) 2 0 0 [.ref 25] (zS S g a b c) (RX (ttP S tn p g a b c)) := by
  refine Ok.of (by decide) (Nat.le_of_ble_eq_true rfl) rfl (fun κ C hx => ?_)
  have C : Cx RX8 cX8_takeThings 2 (some .int) 2 false _ κ := C
  refine g_aload_0 C dX8_takeThings_0 rfl ?_
  refine g_iconst (v := 1) C dX8_takeThings_1 rfl (by decide) ?_
  refine g_bipush (v := 8) C dX8_takeThings_2 rfl (by decide) ?_
  refine g_cV2x C dX8_takeThings_4 rfl ml_X8_108 mz_X8_takeNumber (ok_X8_takeNumber 1 8 (by decide) (by decide) S hR tn hX g a b c h8 p hp hpt) (by decide) rfl rfl rfl rfl (Nat.le_of_ble_eq_true rfl) (fun v4 S4 hp4 hn4 => ?_)
  obtain ⟨g2, rfl, hf, hq⟩ := hp4
  refine g_istore_1 C rfl dX8_takeThings_7 rfl ?_
  refine g_aload_0 C dX8_takeThings_8 rfl ?_
  refine g_aload_0 C dX8_takeThings_9 rfl ?_
  refine g_geti C 11 dX8_takeThings_10 rfl rfl rfl fl_X8_105 ?_
  rw [show mI (zS S g2 a b c) 25 11 = g2 11 from rfl]
  refine g_puti C 13 dX8_takeThings_13 rfl rfl rfl (Or.inl rfl) fl_X8_111 ?_
  rw [zS_sI]
  refine g_iload_1 C dX8_takeThings_16 rfl ?_
  exact g_iret C rfl dX8_takeThings_17 ⟨v4, rfl, _, rfl, frS_s (frS_4 hf) _ (by simp), by
    by_cases hv : v4 = 0
    · obtain ⟨at9, e, x, hn, q9, q10, q11, q12⟩ := numQ_0 hq hv
      rw [hn]
      exact ⟨hv, q9, q10, by rw [upd_at]; exact q11, hf 14 (by decide) (by decide) (by decide) (by decide), hf 18 (by decide) (by decide) (by decide) (by decide)⟩
    · obtain ⟨k, pl, hn, e1, e2⟩ := numQ_ne hq hv
      rw [hn]
      exact ⟨e1, e2⟩⟩

def tsP (S : Mem) (tn th : Nat) (x : Int32) (p : Nat) (g a b c : Nat → Int32) : Int32 → Mem → Prop := fun v S2 => ∃ g2, S2 = zS S g2 a b c ∧ fr4 g g2 ∧ sayQ (mA S 30) tn th x p g g2 v
theorem i_2th1 {th : Nat} (h : 1 ≤ th) : 2 * nI th - 1 = nI (2 * th - 1) := by
  rw [show (2 : Int32) * nI th = nI (2 * th) from pk_mul 2 th]
  exact pk_sub (b := 1) (by omega)
set_option maxHeartbeats 4000000 in
set_option maxRecDepth 20000 in
theorem ok_X8_takeSaying (x : Int32) (S : Mem) (hR : Rs S) (tn : Nat) (hX : Tx (mA S 30) tn) (g a b c : Nat → Int32) (h8 : g 8 = nI tn) (p : Nat) (hp : g 10 = nI p) (hpt : p ≤ tn) (th : Nat) (h13 : g 13 = nI th) (hth : 1 ≤ th) (hth8 : th ≤ 8) : Ok yX8_takeSaying cX8_takeSaying 3 (some .int) 2 0 0 [.ref 25, .int x] (zS S g a b c) (RX (tsP S tn th x p g a b c)) := by
  refine Ok.of (by decide) (Nat.le_of_ble_eq_true rfl) rfl (fun κ C hx => ?_)
  have C : Cx RX8 cX8_takeSaying 3 (some .int) 2 false _ κ := C
  refine g_aload_0 C dX8_takeSaying_0 rfl ?_
  refine g_iconst (v := 0) C dX8_takeSaying_1 rfl (by decide) ?_
  refine g_iconst (v := 2) C dX8_takeSaying_2 rfl (by decide) ?_
  refine g_aload_0 C dX8_takeSaying_3 rfl ?_
  refine g_geti C 13 dX8_takeSaying_4 rfl rfl rfl fl_X8_111 ?_
  rw [show mI (zS S g a b c) 25 13 = nI th from h13]
  refine g_imul C dX8_takeSaying_7 rfl ?_
  refine g_iconst (v := 1) C dX8_takeSaying_8 rfl (by decide) ?_
  refine g_isub C dX8_takeSaying_9 rfl ?_
  rw [i_2th1 hth]
  refine g_cV2x C dX8_takeSaying_10 rfl ml_X8_108 mz_X8_takeNumber (ok_X8_takeNumber 0 (2 * th - 1) (by decide) (by omega) S hR tn hX g a b c h8 p hp hpt) (by decide) rfl rfl rfl rfl (Nat.le_of_ble_eq_true rfl) (fun v10 S10 hp10 hn10 => ?_)
  obtain ⟨g2, rfl, hf, hq⟩ := hp10
  refine g_istore_2 C rfl dX8_takeSaying_13 rfl ?_
  refine g_iload_2 C dX8_takeSaying_14 rfl ?_
  refine g_if_ne (tgt := 39) C dX8_takeSaying_15 rfl (by decide) (fun h15 => ?_) (fun h15 => ?_)
  · skip
    refine g_iload_2 C dX8_takeSaying_39 rfl ?_
    exact g_iret C rfl dX8_takeSaying_40 ⟨v10, rfl, g2, rfl, hf, by
    obtain ⟨k, pl, hn, e1, e2⟩ := numQ_ne hq h15
    unfold sayQ sayR
    rw [hn]
    exact ⟨e1, e2⟩⟩
  · skip
    refine g_iload_1 C dX8_takeSaying_18 rfl ?_
    refine g_aload_0 C dX8_takeSaying_19 rfl ?_
    refine g_geti C 11 dX8_takeSaying_20 rfl rfl rfl fl_X8_105 ?_
    obtain ⟨at9, e, n, hn, q9, q10, q11, q12⟩ := numQ_0 hq h15
    rw [show mI (zS S g2 a b c) 25 11 = nI n from q11]
    refine g_cS2i C dX8_takeSaying_23 rfl ml_X8_114 mz_X8_has (ok_X8_has _ _ _) (by decide) rfl rfl (Nat.le_of_ble_eq_true rfl) (fun hn23 => ?_)
    refine g_if_eq (tgt := 39) C dX8_takeSaying_26 rfl (by decide) (fun h26 => ?_) (fun h26 => ?_)
    · skip
      refine g_iload_2 C dX8_takeSaying_39 rfl ?_
      exact g_iret C rfl dX8_takeSaying_40 ⟨v10, rfl, g2, rfl, hf, by
    unfold sayQ sayR
    rw [hn]
    show (match (if hasB x (nI n) = true then Sum.inl (4, at9) else Sum.inr (at9, e, n) : (Nat × Nat) ⊕ (Nat × Nat × Nat)) with | .inl (k, pl) => _ | .inr (at9, e, n) => _)
    rw [if_neg (by rw [(bI_0 _).mp h26]; decide)]
    exact ⟨h15, q9, q10, q11, q12⟩⟩
    · skip
      refine g_aload_0 C dX8_takeSaying_29 rfl ?_
      refine g_iconst (v := 4) C dX8_takeSaying_30 rfl (by decide) ?_
      refine g_aload_0 C dX8_takeSaying_31 rfl ?_
      refine g_geti C 12 dX8_takeSaying_32 rfl rfl rfl fl_X8_102 ?_
      rw [show mI (zS S g2 a b c) 25 12 = nI at9 from q12]
      refine g_cV2i C dX8_takeSaying_35 rfl ml_X8_98 mz_X8_fails (ok_X8_fails _ _ _) (by decide) rfl rfl rfl rfl (Nat.le_of_ble_eq_true rfl) (fun hn35 => ?_)
      rw [zS_sI]
      exact g_iret C rfl dX8_takeSaying_38 ⟨4, rfl, _, rfl, fr4_s hf _ (Or.inl rfl), by
    unfold sayQ sayR
    rw [hn]
    show (match (if hasB x (nI n) = true then Sum.inl (4, at9) else Sum.inr (at9, e, n) : (Nat × Nat) ⊕ (Nat × Nat × Nat)) with | .inl (k, pl) => _ | .inr (at9, e, n) => _)
    rw [if_pos (nf_t (fun z => h26 ((bI_0 _).mpr z)))]
    exact ⟨rfl, upd_at _ _ _⟩⟩

def seP (S : Mem) (tn th : Nat) (x : Int32) (p : Nat) (g a b c : Nat → Int32) : Int32 → Mem → Prop := fun v S2 => ∃ g2, S2 = zS S g2 a b c ∧ frS g g2 ∧ (match sayR (mA S 30) tn th x p with
  | .inl (k, pl) => v = nI k ∧ g2 9 = nI pl
  | .inr (_, e, n) => v = 0 ∧ g2 9 = g 9 ∧ g2 10 = nI e ∧ g2 13 = g 13 ∧ g2 14 = g 14 ∧ g2 18 = x ||| one (nI n))
set_option maxHeartbeats 4000000 in
set_option maxRecDepth 20000 in
theorem ok_X8_takeSeen (S : Mem) (hR : Rs S) (tn : Nat) (hX : Tx (mA S 30) tn) (g a b c : Nat → Int32) (h8 : g 8 = nI tn) (p : Nat) (hp : g 10 = nI p) (hpt : p ≤ tn) (th : Nat) (h13 : g 13 = nI th) (hth : 1 ≤ th) (hth8 : th ≤ 8) (x : Int32) (h18 : g 18 = x) : Ok yX8_takeSeen cX8_takeSeen 2 (some .int) 3 0 0 [.ref 25] (zS S g a b c) (RX (seP S tn th x p g a b c)) := by
  refine Ok.of (by decide) (Nat.le_of_ble_eq_true rfl) rfl (fun κ C hx => ?_)
  have C : Cx RX8 cX8_takeSeen 2 (some .int) 3 false _ κ := C
  refine g_aload_0 C dX8_takeSeen_0 rfl ?_
  refine g_aload_0 C dX8_takeSeen_1 rfl ?_
  refine g_geti C 18 dX8_takeSeen_2 rfl rfl rfl fl_X8_125 ?_
  rw [show mI (zS S g a b c) 25 18 = x from h18]
  refine g_cV1x C dX8_takeSeen_5 rfl ml_X8_121 mz_X8_takeSaying (ok_X8_takeSaying x S hR tn hX g a b c h8 p hp hpt th h13 hth hth8) (by decide) rfl rfl rfl rfl (Nat.le_of_ble_eq_true rfl) (fun v5 S5 hp5 hn5 => ?_)
  obtain ⟨g2, rfl, hf, hq⟩ := hp5
  refine g_istore_1 C rfl dX8_takeSeen_8 rfl ?_
  refine g_iload_1 C dX8_takeSeen_9 rfl ?_
  refine g_if_ne (tgt := 28) C dX8_takeSeen_10 rfl (by decide) (fun h10 => ?_) (fun h10 => ?_)
  · skip
    refine g_iload_1 C dX8_takeSeen_28 rfl ?_
    exact g_iret C rfl dX8_takeSeen_29 ⟨v5, rfl, g2, rfl, frS_4 hf, by
    obtain ⟨k, pl, hn, e1, e2⟩ := sayQ_ne hq h10
    rw [hn]
    exact ⟨e1, e2⟩⟩
  · skip
    refine g_aload_0 C dX8_takeSeen_13 rfl ?_
    refine g_dup C dX8_takeSeen_14 rfl rfl ?_
    refine g_geti C 18 dX8_takeSeen_15 rfl rfl rfl fl_X8_125 ?_
    obtain ⟨at9, e, n, hn, q9, q10, q11, q12⟩ := sayQ_0 hq h10
    rw [show mI (zS S g2 a b c) 25 18 = x from (hf 18 (by decide) (by decide) (by decide) (by decide)).trans h18]
    refine g_iconst (v := 1) C dX8_takeSeen_18 rfl (by decide) ?_
    refine g_aload_0 C dX8_takeSeen_19 rfl ?_
    refine g_geti C 11 dX8_takeSeen_20 rfl rfl rfl fl_X8_105 ?_
    rw [show mI (zS S g2 a b c) 25 11 = nI n from q11]
    refine g_ishl C dX8_takeSeen_23 rfl ?_
    refine g_ior C dX8_takeSeen_24 rfl ?_
    refine g_puti C 18 dX8_takeSeen_25 rfl rfl rfl (Or.inl rfl) fl_X8_125 ?_
    rw [zS_sI]
    refine g_iload_1 C dX8_takeSeen_28 rfl ?_
    exact g_iret C rfl dX8_takeSeen_29 ⟨v5, rfl, _, rfl, frS_s (frS_4 hf) _ (by simp), by
    rw [hn]
    exact ⟨h10, q9, q10, hf 13 (by decide) (by decide) (by decide) (by decide), hf 14 (by decide) (by decide) (by decide) (by decide), upd_at _ _ _⟩⟩

