/-! the answers that change nothing -/
theorem tr_eq {nr : Nat} {fo : Int32} (h10 : nr ≤ 10) {wt : Nat → Int32} {P : Nat → Bool} {c : Bool} (h1 : c = true → P (aN nr fo) = true) (h2 : c = false → ∀ k, k < 2 ^ nr → sub (nI k) (alw (nI nr) fo) → P k = false) :
    (if c = true then stB (nI (aN nr fo)) (bstF (fun k => subB (nI k) (alw (nI nr) fo) && P k) wt (aN nr fo + 1)) else -1) = oI (bstF (fun k => decide (nI k &&& fo = 0) && P k) wt (2 ^ nr)) := by
  have hA := aN_ok h10 fo
  rw [bst_congr (P' := fun k => subB (nI k) (alw (nI nr) fo) && P k) (wt' := wt) (2 ^ nr) (fun k hk => ⟨by rw [dec_sub h10 hk fo], rfl⟩)]
  have e := bst_ext (P := fun k => subB (nI k) (alw (nI nr) fo) && P k) (wt := wt) (n := aN nr fo + 1) (2 ^ nr - (aN nr fo + 1)) (fun k h1 h2 => by
    rw [sub_big h10 (by omega) fo (by omega)]; rfl)
  rw [show aN nr fo + 1 + (2 ^ nr - (aN nr fo + 1)) = 2 ^ nr by omega] at e
  cases c with
  | true =>
    rw [if_pos rfl, e]
    obtain ⟨b, hb⟩ := bst_yes (P := fun k => subB (nI k) (alw (nI nr) fo) && P k) (wt := wt) (n := aN nr fo + 1) (k := aN nr fo) (by omega) (by
      show (subB _ _ && P _) = true
      rw [h1 rfl, subB_iff.mpr (by rw [← hA.1]; exact sub_refl _)]; rfl)
    rw [hb]
    rfl
  | false =>
    rw [if_neg (by decide), bst_no (fun k hk => by
      show (subB _ _ && P k) = false
      cases hs : subB (nI k) (alw (nI nr) fo) with
      | false => rfl
      | true => rw [h2 rfl k hk (subB_iff.mp hs)]; rfl)]
    rfl
section R92
variable {S S1 : Mem} {t dr nw : Nat} {T : TT9} {q : Nat → Int32} {X : XX9} {sd : Int32} {H : HH9} {A : AA9} {B : BB9} {I : II9}
theorem F9.tlt (h : F9 S t dr nw T q X sd H A B I) : t + 3 < mN S := by
  have := h.1.1.2.1
  rcases h.1.t1 with e | e <;> omega
theorem F9.tclo (h : F9 S t dr nw T q X sd H A B I) (bb x : Int32) : clo T.2.1 (mA (tS S t nw T.2.1) (t + 2)) (mA (tS S t nw T.2.1) (t + 3)) bb x = clo T.2.1 T.2.2.2.1 T.2.2.2.2 bb x := by
  have := h.tlt
  rw [tS_A S t nw _ (by omega), tS_A S t nw _ (by omega)]
  exact h.cl9 bb x
theorem F9.al (h : F9 S t dr nw T q X sd H A B I) : mI (tS S t nw T.2.1) (mN S) 2 = alw (nI T.2.1) (q 2) := by rw [tS_2, h.nq (by decide)]
theorem F9.se (h : F9 S t dr nw T q X sd H A B I) : mI (tS S t nw T.2.1) (mN S) 1 = q 0 := by rw [tS_1, h.nq (by decide)]
theorem eq_follows (h : F9 S t dr nw T q X sd H A B I) (d : D9 S1 T q X sd H A B I) (w : WT9 T) (x : Int32) : l7V S t nw T.1 T.2.1 x = folV S1 T.2.1 x := by
  unfold l7V folV
  rw [sub_setB w.1, d.1.1, h.cl9, d.cl9, h.nq (by decide), d.2.1 2 (by decide)]
theorem eq_proof0 (h : F9 S t dr nw T q X sd H A B I) (d : D9 S1 T q X sd H A B I) (w : WT9 T) {j : Nat} (hj : j < 2 * T.1) : p7W S t nw T.2.1 (nI j) = oI (bstF (prP S1 T.2.1 (nI j)) cw (2 ^ T.2.1)) := by
  have hA := aN_ok w.2.1 (q 2)
  have h8 := w.1
  have e1 : tpP (tS S t nw T.2.1) t (mN S) T.2.1 (nI j) = fun k => subB (nI k) (alw (nI T.2.1) (q 2)) && hasB (clo T.2.1 T.2.2.2.1 T.2.2.2.2 (nI k) (q 0)) (nI j) := by
    funext k
    unfold tpP
    rw [h.al, h.se, h.tclo]
  have e2 : prP S1 T.2.1 (nI j) = fun k => decide (nI k &&& q 2 = 0) && hasB (clo T.2.1 T.2.2.2.1 T.2.2.2.2 (nI k) (q 0)) (nI j) := by
    funext k
    unfold prP
    rw [d.2.1 2 (by decide), d.2.1 0 (by decide), d.cl9]
  unfold p7W tpV
  rw [e1, e2, h.al, h.se, h.tclo, h.nq (show 2 < 4 by decide)]
  refine tr_eq w.2.1 (fun hc => ?_) (fun hc k hk hs => ?_)
  · rw [← hA.1]; exact hc
  · cases hh : hasB (clo T.2.1 T.2.2.2.1 T.2.2.2.2 (nI k) (q 0)) (nI j) with
    | false => rfl
    | true => rw [has_sub (by omega) (clo_mono w.tn hs) hh] at hc; cases hc
theorem in01_i (x : Int32) : in01 x = inI x 0 1 := rfl
theorem in02_i (x : Int32) : in02 x = inI x 0 2 := rfl
theorem oI_m1 {o : Option Nat} (h : ∀ b, o = some b → b < 2147483648) : oI o = -1 ↔ o = none := by
  cases o with
  | none => exact ⟨fun _ => rfl, fun _ => rfl⟩
  | some b =>
    refine ⟨fun e => ?_, fun e => by cases e⟩
    exact absurd (show nI b < 0 by rw [show nI b = -1 from e]; decide) (nI_pos (h b rfl))
theorem eq_proof (h : F9 S t dr nw T q X sd H A B I) (d : D9 S1 T q X sd H A B I) (w : WT9 T) (s wh : Int32) : p7V S t nw T.1 T.2.1 s wh = prV S1 T.2.1 s wh := by
  unfold p7V prV
  rw [hs_say w.1, d.1.1, in01_i]
  by_cases c1 : sayB (nI T.1) s = true
  · obtain ⟨j, hj, e⟩ := say_in w.1 c1
    subst e
    rw [if_pos c1, if_pos c1]
    by_cases c2 : inI wh 0 1 = true
    · rw [if_pos c2, if_pos c2, eq_proof0 h d w hj]
      have hp := pw10 w.2.1
      have hb : ∀ b, bstF (prP S1 T.2.1 (nI j)) cw (2 ^ T.2.1) = some b → b < 1024 := fun b e => by have := bstF_lt e; omega
      cases ho : bstF (prP S1 T.2.1 (nI j)) cw (2 ^ T.2.1) with
      | none =>
        rw [if_neg (fun z => z.2 rfl)]
        rfl
      | some b =>
        have hb := hb b ho
        have hne : ¬ oI (some b) = -1 := fun e => by
          have := (oI_m1 (fun b' e' => by cases e'; omega)).mp e
          cases this
        rcases inI_01 c2 with e | e
        · rw [if_pos ⟨e, hne⟩, e]
          show bcI (nI b) = if decide (nI 0 = 1) = true then nI b else cw b
          rw [if_neg (by decide)]
          exact bcI_cw b hb
        · rw [if_neg (fun z => by rw [e] at z; exact absurd z.1 (by decide)), e]
          rfl
    · rw [if_neg c2, if_neg c2]
  · rw [if_neg c1, if_neg c1]
theorem eq_barred (h : F9 S t dr nw T q X sd H A B I) (d : D9 S1 T q X sd H A B I) (w : WT9 T) (s : Int32) : b7V S t nw T.1 T.2.1 s = baV S1 T.2.1 s := by
  unfold b7V baV
  rw [hs_say w.1, d.1.1]
  by_cases c1 : sayB (nI T.1) s = true
  · obtain ⟨j, hj, e⟩ := say_in w.1 c1
    subst e
    rw [if_pos c1, if_pos c1]
    have h8 := w.1
    have hA := aN_ok w.2.1 (q 2)
    have e1 : tbP (tS S t nw T.2.1) t (mN S) T.2.1 (nI j) = fun k => subB (nI k) (alw (nI T.2.1) (q 2)) && !hasB (clo T.2.1 T.2.2.2.1 T.2.2.2.2 (alw (nI T.2.1) (q 2) &&& (nI k ^^^ (-1))) (q 0)) (nI j) := by
      funext k
      unfold tbP
      rw [h.al, h.se, h.tclo]
    have e2 : baP S1 T.2.1 (nI j) = fun k => decide (nI k &&& q 2 = 0) && !hasB (clo T.2.1 T.2.2.2.1 T.2.2.2.2 (alw (nI T.2.1) (q 2) &&& (nI k ^^^ (-1))) (q 0)) (nI j) := by
      funext k
      unfold baP
      rw [d.2.1 2 (by decide), d.2.1 0 (by decide), d.cl9]
    unfold tbV
    rw [e1, e2, h.se, h.nq (show 2 < 4 by decide)]
    have key := tr_eq (nr := T.2.1) (fo := q 2) (wt := cw) (P := fun k => !hasB (clo T.2.1 T.2.2.2.1 T.2.2.2.2 (alw (nI T.2.1) (q 2) &&& (nI k ^^^ (-1))) (q 0)) (nI j)) (c := !hasB (q 0) (nI j)) w.2.1 (fun hc => by
      show (!hasB _ _) = true
      rw [← hA.1, clo_none (al_none w.2.1 _)]
      exact hc) (fun hc k hk hs => by
      have hc : hasB (q 0) (nI j) = true := by simpa using hc
      show (!hasB _ _) = false
      rw [has_sub (by omega) (clo_is w.tn _ _).1 hc]; rfl)
    rw [← key]
    cases hasB (q 0) (nI j) <;> rfl
  · rw [if_neg c1, if_neg c1]
theorem guW_1 (d : D9 S1 T q X sd H A B I) (k : Nat) : guW S1 T.2.1 k = cstF T.2.2.1 (nI k) T.2.1 := d.cst _
theorem eq_giveUp (h : F9 S t dr nw T q X sd H A B I) (d : D9 S1 T q X sd H A B I) (w : WT9 T) (hq : WN9 T.1 q) (wh : Int32) : g7V S t nw T.1 T.2.1 wh = guV S1 T.2.1 wh := by
  have h8 := w.1
  have hA := aN_ok w.2.1 (q 2)
  have htl := h.tlt
  have e0 : ∀ b : Int32, qcF (clo T.2.1 T.2.2.2.1 T.2.2.2.2 b (q 0)) T.1 = qrF (clo T.2.1 T.2.2.2.1 T.2.2.2.2 b (q 0)) 8 := fun b => qc_qr w.1 (w.cl9 hq.1)
  have e1 : tgP (tS S t nw T.2.1) t (mN S) T.2.1 T.1 = fun k => subB (nI k) (alw (nI T.2.1) (q 2)) && decide (qcF (clo T.2.1 T.2.2.2.1 T.2.2.2.2 (alw (nI T.2.1) (q 2) &&& (nI k ^^^ (-1))) (q 0)) T.1 = 0) := by
    funext k
    unfold tgP
    rw [h.al, h.se, h.tclo]
  have e2 : guP S1 T.2.1 = fun k => decide (nI k &&& q 2 = 0) && decide (qcF (clo T.2.1 T.2.2.2.1 T.2.2.2.2 (alw (nI T.2.1) (q 2) &&& (nI k ^^^ (-1))) (q 0)) T.1 = 0) := by
    funext k
    unfold guP
    rw [d.2.1 2 (by decide), d.2.1 0 (by decide), d.cl9, e0]
  have e3 : tgW (tS S t nw T.2.1) t T.2.1 = fun k => cstF T.2.2.1 (nI k) T.2.1 := by
    funext k
    unfold tgW
    rw [tS_A S t nw _ (by omega)]
    exact h.cst _
  have e4 : guW S1 T.2.1 = fun k => cstF T.2.2.1 (nI k) T.2.1 := funext (fun k => guW_1 d k)
  have key : g7W S t nw T.1 T.2.1 = oI (bstF (guP S1 T.2.1) (guW S1 T.2.1) (2 ^ T.2.1)) := by
    unfold g7W tgV
    rw [e1, e2, e3, e4, h.se, h.nq (show 2 < 4 by decide)]
    have key := tr_eq (nr := T.2.1) (fo := q 2) (wt := fun k => cstF T.2.2.1 (nI k) T.2.1) (P := fun k => decide (qcF (clo T.2.1 T.2.2.2.1 T.2.2.2.2 (alw (nI T.2.1) (q 2) &&& (nI k ^^^ (-1))) (q 0)) T.1 = 0)) (c := decide (qcF (q 0) T.1 = 0)) w.2.1 (fun hc => by
      show decide (_ = _) = true
      rw [← hA.1, clo_none (al_none w.2.1 _)]
      exact hc) (fun hc k hk hs => by
      show decide (_ = _) = false
      exact decide_eq_false (fun z => of_decide_eq_false hc (qc_sub w.1 (clo_is w.tn _ _).1 z)))
    rw [← key]
    by_cases c : qcF (q 0) T.1 = 0
    · rw [if_pos c, decide_eq_true c]; rfl
    · rw [if_neg c, decide_eq_false c]; rfl
  unfold g7V guV
  rw [key, in01_i]
  by_cases c2 : inI wh 0 1 = true
  · rw [if_pos c2, if_pos c2]
    have hp := pw10 w.2.1
    cases ho : bstF (guP S1 T.2.1) (guW S1 T.2.1) (2 ^ T.2.1) with
    | none => rw [if_neg (fun z => z.2 rfl)]; rfl
    | some b =>
      have hb := bstF_lt ho
      have hne : ¬ oI (some b) = -1 := fun e => by
        have := (oI_m1 (fun b' e' => by cases e'; omega)).mp e
        cases this
      rcases inI_01 c2 with e | e
      · rw [if_neg (fun z => by rw [e] at z; exact absurd z.1 (by decide)), e]
        rfl
      · rw [if_pos ⟨e, hne⟩, e]
        show cstF (mA (tS S t nw T.2.1) (t + 1)) (nI b) T.2.1 = if decide (nI 1 = 0) = true then nI b else guW S1 T.2.1 b
        rw [if_neg (by decide), guW_1 d, tS_A S t nw _ (by omega)]
        exact h.cst _
  · rw [if_neg c2, if_neg c2]
end R92
