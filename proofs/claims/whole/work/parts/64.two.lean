/-! each call on both sides: the same answer, and the relation again -/
section TWO
variable {S : Mem} {t dr nw : Nat} {T : TT9} {q : Nat → Int32} {X : XX9} {sd : Int32} {H : HH9} {A : AA9} {B : BB9} {I : II9}
theorem rel_st {S1 : Mem} {f : Mem → Mem} (d : D9 S T q X sd H A B I) (st : St9 T q X sd H A B I S S1 f) : Rs S1 ∧ D9 S1 T q X sd H A B I ∧ Rel9 (f S1) := by
  obtain ⟨gx, t2, dr2, nw2, T2, q2, X2, sd2, H2, A2, B2, I2, hF, hW, hD⟩ := st
  have d1 := d.gx gx
  obtain ⟨d2, hx⟩ := hD S1 d1
  exact ⟨hF.1.1.1, d1, t2, dr2, nw2, T2, q2, X2, sd2, H2, A2, B2, I2, hF.hx hx (fun a ha => by unfold M99; omega), d2, hW⟩
theorem to7_ext (h : F9 S t dr nw T q X sd H A B I) (x : Int32) : Ext S (to7S S t nw T.2.1 x) := by
  unfold to7S
  by_cases c : inI x 0 12 = true
  · rw [if_pos c]
    unfold tl7M
    split
    · exact tS_ext _ _ _ _
    · exact tS_ext _ _ _ _
    · exact Ext.refl S
  · rw [if_neg c]; exact Ext.refl S
theorem if_ext {S : Mem} {c : Prop} [Decidable c] {S1 : Mem} (h : Ext S S1) : Ext S (if c then S1 else S) := by
  by_cases k : c
  · rw [if_pos k]; exact h
  · rw [if_neg k]; exact Ext.refl S
theorem st_hx {S1 : Mem} {f : Mem → Mem} (h : F9 S t dr nw T q X sd H A B I) (w : W9 T q X sd H A B I) {ex : Nat → Prop} (hx : HX9 S S1 ex) (c : ∀ a, a ≠ 14 → a ≠ 15 → ¬ ex a) (hf : ∀ M, KX9 M (f M) (fun _ => False) (fun a => a = 35 ∨ a = 39) ∧ HX9 M (f M) M99) : St9 T q X sd H A B I S S1 f :=
  ⟨GX9.hx hx (fun a h1 h2 => c a (by omega) (by omega)), t, dr, nw, T, q, X, sd, H, A, B, I, ⟨h.1.hx hx, h.2.1.hx hx h.1.t1 (fun a _ _ => c a (by omega) (by omega)), h.2.2.1.hx hx (fun a _ => c a (by omega) (by omega)), h.2.2.2.1.hx hx (c 1 (by omega) (by omega)) (c 2 (by omega) (by omega)), (congrFun (hx.2 0 (c 0 (by omega) (by omega))).1 11).trans h.2.2.2.2.1, h.2.2.2.2.2.1.hx hx (c 3 (by omega) (by omega)) (fun a _ => c a (by omega) (by omega)), h.2.2.2.2.2.2.1.hx hx (c 5 (by omega) (by omega)) (c 6 (by omega) (by omega)) (c 7 (by omega) (by omega)) (c 8 (by omega) (by omega)), h.2.2.2.2.2.2.2.1.hx hx (c 9 (by omega) (by omega)) (c 10 (by omega) (by omega)) (c 11 (by omega) (by omega)), h.2.2.2.2.2.2.2.2.hx hx (c 13 (by omega) (by omega)) (fun a _ => c a (by omega) (by omega))⟩, w, fun M d => by
    have kx := (hf M).1
    exact ⟨⟨d.1.kx kx (fun z => z) (fun z => z) (by omega) (by omega) (by omega), d.2.1.kx kx (by omega), d.2.2.1.kx kx (fun z => z) (fun z => z) (by omega), (kx.1 6 (fun z => z)).trans d.2.2.2.1, d.2.2.2.2.1.kx kx (fun z => z) (by omega), d.2.2.2.2.2.1.kx kx (fun z => z) (by omega) (by omega) (by omega), d.2.2.2.2.2.2.1.kx kx (fun z => z) (by omega) (by omega), d.2.2.2.2.2.2.2.kx kx (by omega) (by omega)⟩, (hf M).2⟩⟩
theorem vt_kx (M : Mem) (n q : Int32) : KX9 M (vtS M n q) (fun _ => False) (fun a => a = 35 ∨ a = 39) ∧ HX9 M (vtS M n q) M99 := by
  unfold vtS
  by_cases c : inI n 1 9 = true ∧ inI q 0 100 = true
  · rw [if_pos c]; exact ⟨⟨fun _ _ => rfl, fun _ _ _ _ => rfl⟩, HX9.v M _ _⟩
  · rw [if_neg c]; exact ⟨KX9.refl M _ _, HX9.refl M _⟩
theorem vt7_hx (S : Mem) (n q : Int32) : HX9 S (vt7S S n q) (fun _ => False) := by
  unfold vt7S
  by_cases c : inI n 1 9 = true ∧ inI q 0 100 = true
  · rw [if_pos c]; exact HX9.v S _ _
  · rw [if_neg c]; exact HX9.refl S _
theorem an_kx (M : Mem) (nr an : Nat) : KX9 M (anS M nr an) (fun _ => False) (fun a => a = 35 ∨ a = 39) ∧ HX9 M (anS M nr an) M99 := ⟨by unfold anS; exact KX9.w M _ (Or.inr rfl), by unfold anS; exact HX9.w M _ ⟨by omega, by omega⟩⟩
theorem two_feed (a : Int32) (h : F9 S t dr nw T q X sd H A B I) (d : D9 S T q X sd H A B I) (w : W9 T q X sd H A B I) : ∃ (v : Int32) (S1 : Mem), Ok yX7_feed cX7_feed 2 (some .int) 1 0 0 [.ref 0, .int a] S (RI v S1) ∧ ∃ S2, Ok yX8_feed cX8_feed 2 (some .int) 1 0 0 [.ref 25, .int a] S1 (RI v S2) ∧ Rel9 S2 := by
  have h1 := ok_X7_feed a S h.1.1.1 X.1 h.2.2.2.1.1 w.2.2.1.1
  have st := st_feed h w a
  obtain ⟨r1, d1, rl⟩ := rel_st d st
  have h2 := ok_X8_feed a _ r1 X.1 d1.2.2.1.1 w.2.2.1.1
  rw [← eq_feed w.2.2.1.1 a] at h2
  exact ⟨_, _, h1, _, h2, rl⟩

theorem two_fault (h : F9 S t dr nw T q X sd H A B I) (d : D9 S T q X sd H A B I) (w : W9 T q X sd H A B I) : ∃ (v : Int32) (S1 : Mem), Ok yX7_fault cX7_fault 1 (some .int) 1 0 0 [.ref 0] S (RI v S1) ∧ ∃ S2, Ok yX8_fault cX8_fault 1 (some .int) 0 0 0 [.ref 25] S1 (RI v S2) ∧ Rel9 S2 := by
  have h1 := ok_X7_fault S h.1.1.1
  have st := st_id h w
  obtain ⟨r1, d1, rl⟩ := rel_st d st
  have h2 := ok_X8_fault S
  rw [← h.2.2.2.1.2.2.trans d1.2.2.1.2.2.symm] at h2
  exact ⟨_, _, h1, _, h2, rl⟩

theorem two_told (a : Int32) (h : F9 S t dr nw T q X sd H A B I) (d : D9 S T q X sd H A B I) (w : W9 T q X sd H A B I) : ∃ (v : Int32) (S1 : Mem), Ok yX7_told cX7_told 2 (some .int) 3 1 3 [.ref 0, .int a] S (RI v S1) ∧ ∃ S2, Ok yX8_told cX8_told 2 (some .int) 3 0 0 [.ref 25, .int a] S1 (RI v S2) ∧ Rel9 S2 := by
  have h1 := ok_X7_told a S t nw T.1 T.2.1 (h.cw w.1)
  have st := st_ext h w (to7_ext h a)
  obtain ⟨r1, d1, rl⟩ := rel_st d st
  have h2 := ok_X8_told a _ r1 T.2.1 d1.1.2.1 (d1.tn w.1)
  rw [← eq_told h d1 w.1 w.2.1 a] at h2
  exact ⟨_, _, h1, _, h2, rl⟩

theorem two_rule (a b : Int32) (h : F9 S t dr nw T q X sd H A B I) (d : D9 S T q X sd H A B I) (w : W9 T q X sd H A B I) : ∃ (v : Int32) (S1 : Mem), Ok yX7_rule cX7_rule 3 (some .int) 1 0 0 [.ref 0, .int a, .int b] S (RI v S1) ∧ ∃ S2, Ok yX8_rule cX8_rule 3 (some .int) 2 0 0 [.ref 25, .int a, .int b] S1 (RI v S2) ∧ Rel9 S2 := by
  have h1 := ok_X7_rule a b S t nw T.1 T.2.1 (h.cw w.1)
  have st := st_id h w
  obtain ⟨r1, d1, rl⟩ := rel_st d st
  have h2 := ok_X8_rule a b _ r1 T.2.1 d1.1.2.1 (d1.tn w.1)
  rw [← eq_rule h d1 w.1 a b] at h2
  exact ⟨_, _, h1, _, h2, rl⟩

theorem two_see (a b : Int32) (h : F9 S t dr nw T q X sd H A B I) (d : D9 S T q X sd H A B I) (w : W9 T q X sd H A B I) : ∃ (v : Int32) (S1 : Mem), Ok yX7_see cX7_see 4 (some .int) 3 1 4 [.ref 0, .int a, .int b] S (RI v S1) ∧ ∃ S2, Ok yX8_see cX8_see 4 (some .int) 2 0 0 [.ref 25, .int a, .int b] S1 (RI v S2) ∧ Rel9 S2 := by
  have h1 := ok_X7_see a b S t nw T.1 T.2.1 (h.cw w.1) H.1 (h.hb w.2.2.2.2.1.1)
  have st := st_see h w a b
  obtain ⟨r1, d1, rl⟩ := rel_st d st
  have h2 := ok_X8_see a b _ r1 H.1 d1.2.2.2.2.1.1 w.2.2.2.2.1.1
  rw [← eq_see h d1 w.1 a] at h2
  exact ⟨_, _, h1, _, h2, rl⟩

theorem two_forbid (a b : Int32) (h : F9 S t dr nw T q X sd H A B I) (d : D9 S T q X sd H A B I) (w : W9 T q X sd H A B I) : ∃ (v : Int32) (S1 : Mem), Ok yX7_forbid cX7_forbid 4 (some .int) 3 1 4 [.ref 0, .int a, .int b] S (RI v S1) ∧ ∃ S2, Ok yX8_forbid cX8_forbid 4 (some .int) 2 0 0 [.ref 25, .int a, .int b] S1 (RI v S2) ∧ Rel9 S2 := by
  have h1 := ok_X7_forbid a b S t nw T.1 T.2.1 (h.cw w.1) H.1 (h.hb w.2.2.2.2.1.1)
  have st := st_forbid h w a b
  obtain ⟨r1, d1, rl⟩ := rel_st d st
  have h2 := ok_X8_forbid a b _ r1 H.1 d1.2.2.2.2.1.1 w.2.2.2.2.1.1
  rw [← eq_forbid h d1 w.1 a] at h2
  exact ⟨_, _, h1, _, h2, rl⟩

theorem two_debate (h : F9 S t dr nw T q X sd H A B I) (d : D9 S T q X sd H A B I) (w : W9 T q X sd H A B I) : ∃ (v : Int32) (S1 : Mem), Ok yX7_debate cX7_debate 2 (some .int) 3 1 4 [.ref 0] S (RI v S1) ∧ ∃ S2, Ok yX8_debate cX8_debate 1 (some .int) 3 0 0 [.ref 25] S1 (RI v S2) ∧ Rel9 S2 := by
  have h1 := ok_X7_debate S t nw T.1 T.2.1 (h.cw w.1) H.1 (h.hb w.2.2.2.2.1.1)
  have st := st_debate h w
  obtain ⟨r1, d1, rl⟩ := rel_st d st
  have h2 := ok_X8_debate _ r1 T.2.1 d1.1.2.1 (d1.tn w.1) H.1 d1.2.2.2.2.1.1 w.2.2.2.2.1.1
  rw [← eq_debate h d1] at h2
  exact ⟨_, _, h1, _, h2, rl⟩

theorem two_drop (h : F9 S t dr nw T q X sd H A B I) (d : D9 S T q X sd H A B I) (w : W9 T q X sd H A B I) : ∃ (v : Int32) (S1 : Mem), Ok yX7_drop cX7_drop 2 (some .int) 3 1 4 [.ref 0] S (RI v S1) ∧ ∃ S2, Ok yX8_drop cX8_drop 2 (some .int) 1 0 0 [.ref 25] S1 (RI v S2) ∧ Rel9 S2 := by
  have h1 := ok_X7_drop S t nw T.1 T.2.1 (h.cw w.1) H.1 (h.hb w.2.2.2.2.1.1)
  have st := st_drop h w
  obtain ⟨r1, d1, rl⟩ := rel_st d st
  have h2 := ok_X8_drop _ r1 H.1 d1.2.2.2.2.1.1 w.2.2.2.2.1.1
  rw [← eq_drop h d1] at h2
  exact ⟨_, _, h1, _, h2, rl⟩

theorem two_drift (a : Int32) (h : F9 S t dr nw T q X sd H A B I) (d : D9 S T q X sd H A B I) (w : W9 T q X sd H A B I) : ∃ (v : Int32) (S1 : Mem), Ok yX7_drift cX7_drift 7 (some .int) 3 1 4 [.ref 0, .int a] S (RI v S1) ∧ ∃ S2, Ok yX8_drift cX8_drift 4 (some .int) 3 0 0 [.ref 25, .int a] S1 (RI v S2) ∧ Rel9 S2 := by
  have h1 := ok_X7_drift a S t nw T.1 T.2.1 (h.cw w.1) H.1 (h.hb w.2.2.2.2.1.1)
  have st := st_drift h d w a
  obtain ⟨r1, d1, rl⟩ := rel_st d st
  have h2 := ok_X8_drift a _ r1 T.2.1 d1.1.2.1 (d1.tn w.1) H.1 d1.2.2.2.2.1.1 w.2.2.2.2.1.1 T.1 d1.1.1 w.1.1
  rw [← eq_drift h d1 w a] at h2
  exact ⟨_, _, h1, _, h2, rl⟩

theorem two_undo (h : F9 S t dr nw T q X sd H A B I) (d : D9 S T q X sd H A B I) (w : W9 T q X sd H A B I) : ∃ (v : Int32) (S1 : Mem), Ok yX7_undo cX7_undo 2 (some .int) 1 0 0 [.ref 0] S (RI v S1) ∧ ∃ S2, Ok yX8_undo cX8_undo 2 (some .int) 0 0 0 [.ref 25] S1 (RI v S2) ∧ Rel9 S2 := by
  obtain ⟨z, hz⟩ : ∃ z, H.1 ≠ 0 → mQ S 4 (H.1 - 1) = some z := by
    by_cases c : H.1 = 0
    · exact ⟨0, fun z => absurd c z⟩
    · obtain ⟨z, e, _⟩ := h.2.2.2.2.2.1.2.2 (H.1 - 1) (by omega)
      exact ⟨z, fun _ => e⟩
  have h1 := ok_X7_undo S h.1.1.1 H.1 z h.2.2.2.2.2.1.1 w.2.2.2.2.1.1 hz
  have st := st_undo h w hz
  obtain ⟨r1, d1, rl⟩ := rel_st d st
  have h2 := ok_X8_undo _ r1 H.1 d1.2.2.2.2.1.1 w.2.2.2.2.1.1
  exact ⟨_, _, h1, _, h2, rl⟩

theorem two_follows (a : Int32) (h : F9 S t dr nw T q X sd H A B I) (d : D9 S T q X sd H A B I) (w : W9 T q X sd H A B I) : ∃ (v : Int32) (S1 : Mem), Ok yX7_follows cX7_follows 2 (some .int) 3 0 0 [.ref 0, .int a] S (RI v S1) ∧ ∃ S2, Ok yX8_follows cX8_follows 2 (some .int) 2 0 0 [.ref 25, .int a] S1 (RI v S2) ∧ Rel9 S2 := by
  have h1 := ok_X7_follows a S t nw T.1 T.2.1 (h.cw w.1)
  have st := st_id h w
  obtain ⟨r1, d1, rl⟩ := rel_st d st
  have h2 := ok_X8_follows a _ r1 T.2.1 d1.1.2.1 (d1.tn w.1)
  rw [← eq_follows h d1 w.1 a] at h2
  exact ⟨_, _, h1, _, h2, rl⟩

theorem two_proof (a b : Int32) (h : F9 S t dr nw T q X sd H A B I) (d : D9 S T q X sd H A B I) (w : W9 T q X sd H A B I) : ∃ (v : Int32) (S1 : Mem), Ok yX7_proof cX7_proof 4 (some .int) 4 1 3 [.ref 0, .int a, .int b] S (RI v S1) ∧ ∃ S2, Ok yX8_proof cX8_proof 6 (some .int) 2 0 0 [.ref 25, .int a, .int b] S1 (RI v S2) ∧ Rel9 S2 := by
  have h1 := ok_X7_proof a b S t nw T.1 T.2.1 (h.cw w.1)
  have st := st_ext (S1 := p7S S t nw T.1 T.2.1 a b) h w (by unfold p7S; exact if_ext (if_ext (tS_ext _ _ _ _)))
  obtain ⟨r1, d1, rl⟩ := rel_st d st
  have h2 := ok_X8_proof a b _ r1 T.2.1 d1.1.2.1 (d1.tn w.1)
  rw [← eq_proof h d1 w.1 a b] at h2
  exact ⟨_, _, h1, _, h2, rl⟩

theorem two_giveUp (a : Int32) (h : F9 S t dr nw T q X sd H A B I) (d : D9 S T q X sd H A B I) (w : W9 T q X sd H A B I) : ∃ (v : Int32) (S1 : Mem), Ok yX7_giveUp cX7_giveUp 3 (some .int) 4 1 3 [.ref 0, .int a] S (RI v S1) ∧ ∃ S2, Ok yX8_giveUp cX8_giveUp 6 (some .int) 2 0 0 [.ref 25, .int a] S1 (RI v S2) ∧ Rel9 S2 := by
  have h1 := ok_X7_giveUp a S t nw T.1 T.2.1 (h.cw w.1)
  have st := st_ext (S1 := g7S S t nw T.2.1 a) h w (by unfold g7S; exact (if_ext (tS_ext _ _ _ _)))
  obtain ⟨r1, d1, rl⟩ := rel_st d st
  have h2 := ok_X8_giveUp a _ r1 T.2.1 d1.1.2.1 (d1.tn w.1) (d1.cs w.1)
  rw [← eq_giveUp h d1 w.1 w.2.1 a] at h2
  exact ⟨_, _, h1, _, h2, rl⟩

theorem two_words (a : Int32) (h : F9 S t dr nw T q X sd H A B I) (d : D9 S T q X sd H A B I) (w : W9 T q X sd H A B I) : ∃ (v : Int32) (S1 : Mem), Ok yX7_words cX7_words 2 (some .int) 8 1 3 [.ref 0, .int a] S (RI v S1) ∧ ∃ S2, Ok yX8_words cX8_words 7 (some .int) 3 0 0 [.ref 25, .int a] S1 (RI v S2) ∧ Rel9 S2 := by
  have h1 := ok_X7_words a S t nw T.1 T.2.1 (h.cw w.1)
  have st := st_ext (S1 := w7S S t nw T.1 T.2.1 a) h w (by unfold w7S; exact (if_ext (tS_ext _ _ _ _)))
  obtain ⟨r1, d1, rl⟩ := rel_st d st
  have h2 := ok_X8_words a _ r1 T.2.1 d1.1.2.1 (d1.tn w.1) T.1 d1.1.1 w.1.1
  rw [← eq_words h d1 w.1 w.2.1 a] at h2
  exact ⟨_, _, h1, _, h2, rl⟩

theorem two_step (a : Int32) (h : F9 S t dr nw T q X sd H A B I) (d : D9 S T q X sd H A B I) (w : W9 T q X sd H A B I) : ∃ (v : Int32) (S1 : Mem), Ok yX7_step cX7_step 2 (some .int) 4 1 3 [.ref 0, .int a] S (RI v S1) ∧ ∃ S2, Ok yX8_step cX8_step 5 (some .int) 3 0 0 [.ref 25, .int a] S1 (RI v S2) ∧ Rel9 S2 := by
  have h1 := ok_X7_step a S t nw T.1 T.2.1 (h.cw w.1)
  have st := st_ext (S1 := n7S S t nw T.1 T.2.1 a) h w (by unfold n7S; exact (if_ext (tS_ext _ _ _ _)))
  obtain ⟨r1, d1, rl⟩ := rel_st d st
  have h2 := ok_X8_step a _ r1 T.2.1 d1.1.2.1 (d1.tn w.1)
  rw [← eq_step h d1 w.1 a] at h2
  exact ⟨_, _, h1, _, h2, rl⟩

theorem two_barred (a : Int32) (h : F9 S t dr nw T q X sd H A B I) (d : D9 S T q X sd H A B I) (w : W9 T q X sd H A B I) : ∃ (v : Int32) (S1 : Mem), Ok yX7_barred cX7_barred 2 (some .int) 4 1 3 [.ref 0, .int a] S (RI v S1) ∧ ∃ S2, Ok yX8_barred cX8_barred 5 (some .int) 2 0 0 [.ref 25, .int a] S1 (RI v S2) ∧ Rel9 S2 := by
  have h1 := ok_X7_barred a S t nw T.1 T.2.1 (h.cw w.1)
  have st := st_ext (S1 := b7S S t nw T.1 T.2.1 a) h w (by unfold b7S; exact (if_ext (tS_ext _ _ _ _)))
  obtain ⟨r1, d1, rl⟩ := rel_st d st
  have h2 := ok_X8_barred a _ r1 T.2.1 d1.1.2.1 (d1.tn w.1)
  rw [← eq_barred h d1 w.1 a] at h2
  exact ⟨_, _, h1, _, h2, rl⟩

theorem two_never (h : F9 S t dr nw T q X sd H A B I) (d : D9 S T q X sd H A B I) (w : W9 T q X sd H A B I) : ∃ (v : Int32) (S1 : Mem), Ok yX7_never cX7_never 1 (some .int) 2 0 0 [.ref 0] S (RI v S1) ∧ ∃ S2, Ok yX8_never cX8_never 3 (some .int) 1 0 0 [.ref 25] S1 (RI v S2) ∧ Rel9 S2 := by
  have h1 := ok_X7_never S t nw T.1 T.2.1 (h.cw w.1)
  have st := st_id h w
  obtain ⟨r1, d1, rl⟩ := rel_st d st
  have h2 := ok_X8_never _ r1 T.2.1 d1.1.2.1 (d1.tn w.1)
  rw [← eq_never h d1 w.1] at h2
  exact ⟨_, _, h1, _, h2, rl⟩

theorem two_round (h : F9 S t dr nw T q X sd H A B I) (d : D9 S T q X sd H A B I) (w : W9 T q X sd H A B I) : ∃ (v : Int32) (S1 : Mem), Ok yX7_round cX7_round 1 (some .int) 4 1 3 [.ref 0] S (RI v S1) ∧ ∃ S2, Ok yX8_round cX8_round 4 (some .int) 2 0 0 [.ref 25] S1 (RI v S2) ∧ Rel9 S2 := by
  have h1 := ok_X7_round S t nw T.1 T.2.1 (h.cw w.1)
  have st := st_ext (S1 := tS S t nw T.2.1) h w (tS_ext _ _ _ _)
  obtain ⟨r1, d1, rl⟩ := rel_st d st
  have h2 := ok_X8_round _ r1 T.2.1 d1.1.2.1 (d1.tn w.1)
  rw [← eq_round h d1 w.1] at h2
  exact ⟨_, _, h1, _, h2, rl⟩

theorem two_vote (a b : Int32) (h : F9 S t dr nw T q X sd H A B I) (d : D9 S T q X sd H A B I) (w : W9 T q X sd H A B I) : ∃ (v : Int32) (S1 : Mem), Ok yX7_vote cX7_vote 6 (some .int) 1 0 0 [.ref 0, .int a, .int b] S (RI v S1) ∧ ∃ S2, Ok yX8_vote cX8_vote 7 (some .int) 1 0 0 [.ref 25, .int a, .int b] S1 (RI v S2) ∧ Rel9 S2 := by
  have h1 := ok_X7_vote a b S h.1.1.1
  have st := st_hx h w (vt7_hx S a b) (fun _ _ _ z => z) (fun M => vt_kx M a b)
  obtain ⟨r1, d1, rl⟩ := rel_st d st
  have h2 := ok_X8_vote a b _ r1
  exact ⟨_, _, h1, _, h2, rl⟩

theorem two_ask (a b c : Int32) (h01 : c = 0 ∨ c = 1) (h : F9 S t dr nw T q X sd H A B I) (d : D9 S T q X sd H A B I) (w : W9 T q X sd H A B I) : ∃ (v : Int32) (S1 : Mem), Ok yX7_ask cX7_ask 4 (some .int) 3 0 0 [.ref 0, .int a, .int b, .int c] S (RI v S1) ∧ ∃ S2, Ok yX8_ask cX8_ask 4 (some .int) 2 0 0 [.ref 25, .int a, .int b, .int c] S1 (RI v S2) ∧ Rel9 S2 := by
  have h1 := ok_X7_ask a b c h01 S t nw T.1 T.2.1 (h.cw w.1) A.1 h.2.2.2.2.2.2.1.1 w.2.2.2.2.2.1
  have st := st_ask h w a b c
  obtain ⟨r1, d1, rl⟩ := rel_st d st
  have h2 := ok_X8_ask a b c h01 _ r1 A.1 d1.2.2.2.2.2.1.1 w.2.2.2.2.2.1
  unfold asS at h2; rw [d1.1.1] at h2
  rw [← eq_ask d1 w a b] at h2
  exact ⟨_, _, h1, _, h2, rl⟩

theorem two_believed (a : Int32) (h : F9 S t dr nw T q X sd H A B I) (d : D9 S T q X sd H A B I) (w : W9 T q X sd H A B I) : ∃ (v : Int32) (S1 : Mem), Ok yX7_believed cX7_believed 6 (some .int) 3 0 0 [.ref 0, .int a] S (RI v S1) ∧ ∃ S2, Ok yX8_believed cX8_believed 6 (some .int) 3 0 0 [.ref 25, .int a] S1 (RI v S2) ∧ Rel9 S2 := by
  have h1 := ok_X7_believed a S t nw T.1 T.2.1 (h.cw w.1) A.1 h.2.2.2.2.2.2.1.1 w.2.2.2.2.2.1
  have st := st_id h w
  obtain ⟨r1, d1, rl⟩ := rel_st d st
  have h2 := ok_X8_believed a _ r1 T.2.1 d1.1.2.1 (d1.tn w.1) A.1 d1.2.2.2.2.2.1.1 w.2.2.2.2.2.1
  rw [← eq_believed h d1 w.1 a] at h2
  exact ⟨_, _, h1, _, h2, rl⟩

theorem two_askNext (h : F9 S t dr nw T q X sd H A B I) (d : D9 S T q X sd H A B I) (w : W9 T q X sd H A B I) : ∃ (v : Int32) (S1 : Mem), Ok yX7_askNext cX7_askNext 6 (some .int) 4 0 0 [.ref 0] S (RI v S1) ∧ ∃ S2, Ok yX8_askNext cX8_askNext 6 (some .int) 3 0 0 [.ref 25] S1 (RI v S2) ∧ Rel9 S2 := by
  have h1 := ok_X7_askNext S t nw T.1 T.2.1 (h.cw w.1) (by rcases h.1.t1 with e | e <;> omega) A.1 h.2.2.2.2.2.2.1.1 w.2.2.2.2.2.1
  have st := st_hx h w (show HX9 S (an7S S t nw T.2.1 A.1) (fun a => a = 15) from HX9.w S _ rfl) (fun _ _ z e => z e) (fun M => an_kx M T.2.1 A.1)
  obtain ⟨r1, d1, rl⟩ := rel_st d st
  have h2 := ok_X8_askNext _ r1 T.2.1 d1.1.2.1 (d1.tn w.1) A.1 d1.2.2.2.2.2.1.1 w.2.2.2.2.2.1 T.1 d1.1.1 w.1.1
  rw [← eq_askNext h d1] at h2
  exact ⟨_, _, h1, _, h2, rl⟩

theorem two_write (a b : Int32) (h : F9 S t dr nw T q X sd H A B I) (d : D9 S T q X sd H A B I) (w : W9 T q X sd H A B I) : ∃ (v : Int32) (S1 : Mem), Ok yX7_write cX7_write 3 (some .int) 2 0 0 [.ref 0, .int a, .int b] S (RI v S1) ∧ ∃ S2, Ok yX8_write cX8_write 3 (some .int) 2 0 0 [.ref 25, .int a, .int b] S1 (RI v S2) ∧ Rel9 S2 := by
  have h1 := ok_X7_write a b S t nw T.1 T.2.1 (h.cw w.1) B.1 h.2.2.2.2.2.2.2.1.1 w.2.2.2.2.2.2.1
  have st := st_write h w a b
  obtain ⟨r1, d1, rl⟩ := rel_st d st
  have h2 := ok_X8_write a b _ r1 B.1 d1.2.2.2.2.2.2.1.1 w.2.2.2.2.2.2.1
  unfold wrS at h2; rw [d1.1.1] at h2
  rw [← eq_write d1 w a b] at h2
  exact ⟨_, _, h1, _, h2, rl⟩

theorem two_tear (h : F9 S t dr nw T q X sd H A B I) (d : D9 S T q X sd H A B I) (w : W9 T q X sd H A B I) : ∃ (v : Int32) (S1 : Mem), Ok yX7_tear cX7_tear 2 (some .int) 1 0 0 [.ref 0] S (RI v S1) ∧ ∃ S2, Ok yX8_tear cX8_tear 2 (some .int) 0 0 0 [.ref 25] S1 (RI v S2) ∧ Rel9 S2 := by
  have h1 := ok_X7_tear S h.1.1.1
  have st := st_tear h w
  obtain ⟨r1, d1, rl⟩ := rel_st d st
  have h2 := ok_X8_tear (sI (sI S 5 3 0) 9 2 0)
  rw [← eq_tear h d1] at h2
  exact ⟨_, _, h1, _, h2, rl⟩

theorem two_judge (h : F9 S t dr nw T q X sd H A B I) (d : D9 S T q X sd H A B I) (w : W9 T q X sd H A B I) : ∃ (v : Int32) (S1 : Mem), Ok yX7_judge cX7_judge 1 (some .int) 3 1 3 [.ref 0] S (RI v S1) ∧ ∃ S2, Ok yX8_judge cX8_judge 3 (some .int) 3 0 0 [.ref 25] S1 (RI v S2) ∧ Rel9 S2 := by
  have h1 := ok_X7_judge S t nw T.1 T.2.1 (h.cw w.1) B.1 h.2.2.2.2.2.2.2.1.1 w.2.2.2.2.2.2.1
  have st := st_ext (S1 := tS S t nw T.2.1) h w (tS_ext _ _ _ _)
  obtain ⟨r1, d1, rl⟩ := rel_st d st
  have h2 := ok_X8_judge _ r1 T.2.1 d1.1.2.1 (d1.tn w.1) B.1 d1.2.2.2.2.2.2.1.1 w.2.2.2.2.2.2.1
  rw [← eq_judge h d1] at h2
  exact ⟨_, _, h1, _, h2, rl⟩

theorem two_seed (a : Int32) (h : F9 S t dr nw T q X sd H A B I) (d : D9 S T q X sd H A B I) (w : W9 T q X sd H A B I) : ∃ (v : Int32) (S1 : Mem), Ok yX7_seed cX7_seed 3 (some .int) 0 0 0 [.ref 0, .int a] S (RI v S1) ∧ ∃ S2, Ok yX8_seed cX8_seed 3 (some .int) 0 0 0 [.ref 25, .int a] S1 (RI v S2) ∧ Rel9 S2 := by
  have h1 := ok_X7_seed a S
  have st := st_seed h w a
  obtain ⟨r1, d1, rl⟩ := rel_st d st
  have h2 := ok_X8_seed a (k7S S a)
  rw [← eq_seed h d1 a] at h2
  exact ⟨_, _, h1, _, h2, rl⟩

theorem two_keep (a : Int32) (h : F9 S t dr nw T q X sd H A B I) (d : D9 S T q X sd H A B I) (w : W9 T q X sd H A B I) : ∃ (v : Int32) (S1 : Mem), Ok yX7_keep cX7_keep 2 (some .int) 1 0 0 [.ref 0, .int a] S (RI v S1) ∧ ∃ S2, Ok yX8_keep cX8_keep 3 (some .int) 1 0 0 [.ref 25, .int a] S1 (RI v S2) ∧ Rel9 S2 := by
  have h1 := ok_X7_keep a S t nw T.1 T.2.1 (h.cw w.1)
  have st := st_keep h w a
  obtain ⟨r1, d1, rl⟩ := rel_st d st
  have h2 := ok_X8_keep a _ r1
  rw [← eq_keep a] at h2
  exact ⟨_, _, h1, _, h2, rl⟩

theorem two_goBack (a : Int32) (h : F9 S t dr nw T q X sd H A B I) (d : D9 S T q X sd H A B I) (w : W9 T q X sd H A B I) : ∃ (v : Int32) (S1 : Mem), Ok yX7_goBack cX7_goBack 3 (some .int) 1 0 0 [.ref 0, .int a] S (RI v S1) ∧ ∃ S2, Ok yX8_goBack cX8_goBack 3 (some .int) 1 0 0 [.ref 25, .int a] S1 (RI v S2) ∧ Rel9 S2 := by
  have h1 := ok_X7_goBack a S h.1.1.1
  have st := st_goBack h d w a
  obtain ⟨r1, d1, rl⟩ := rel_st d st
  have h2 := ok_X8_goBack a _ r1
  rw [← eq_goBack h d1 a] at h2
  exact ⟨_, _, h1, _, h2, rl⟩

end TWO
