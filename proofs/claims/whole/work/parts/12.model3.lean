/-! pure rows of the queries -/
def qr2 (x : Int32) (k : Nat) : Bool := decide ((x >>> ((2 * nI k) &&& 31)) &&& 3 = 3)
def qrF (x : Int32) : Nat → Int32
  | 0 => 0
  | k + 1 => qrF x k ||| (if qr2 x k = true then one (nI k) else 0)
def cstF (co : Nat → Int32) (x : Int32) : Nat → Int32
  | 0 => 0
  | r + 1 => cstF co x r + (if hasB x (nI r) = true then co r else 0)
/-- the best of those below n: the first of the least weight -/
def bstS (P : Nat → Bool) (wt : Nat → Int32) (n : Nat) (o : Option Nat) : Option Nat := match o with
  | none => if P n = true then some n else none
  | some b => if P n = true ∧ wt n < wt b then some n else some b
def bstF (P : Nat → Bool) (wt : Nat → Int32) : Nat → Option Nat
  | 0 => none
  | n + 1 => bstS P wt n (bstF P wt n)
def oI : Option Nat → Int32
  | none => -1
  | some k => nI k
theorem oI_neg {o : Option Nat} (h : ∀ k, o = some k → k < 2147483648) : oI o < 0 ↔ o = none := by
  cases o with
  | none => exact ⟨fun _ => rfl, fun _ => by decide⟩
  | some k =>
    refine ⟨fun h2 => absurd h2 ?_, fun h2 => by cases h2⟩
    exact nI_pos (h k rfl)
theorem bstF_s {P : Nat → Bool} {wt : Nat → Int32} {n : Nat} : bstF P wt (n + 1) = bstS P wt n (bstF P wt n) := rfl
theorem bstF_s0 {P : Nat → Bool} {wt : Nat → Int32} {n : Nat} (h : P n = false) : bstF P wt (n + 1) = bstF P wt n := by
  rw [bstF_s]
  cases bstF P wt n with
  | none => exact if_neg (show ¬ P n = true by rw [h]; decide)
  | some b => exact if_neg (show ¬ (P n = true ∧ wt n < wt b) from fun q => by rw [h] at q; exact absurd q.1 (by decide))
theorem bstF_sn {P : Nat → Bool} {wt : Nat → Int32} {n : Nat} (h : P n = true) (hb : bstF P wt n = none) : bstF P wt (n + 1) = some n := by
  rw [bstF_s, hb]
  exact if_pos h
theorem bstF_sl {P : Nat → Bool} {wt : Nat → Int32} {n b : Nat} (h : P n = true) (hb : bstF P wt n = some b) (hw : wt n < wt b) : bstF P wt (n + 1) = some n := by
  rw [bstF_s, hb]
  exact if_pos ⟨h, hw⟩
theorem bstF_sg {P : Nat → Bool} {wt : Nat → Int32} {n b : Nat} (hb : bstF P wt n = some b) (hw : ¬ wt n < wt b) : bstF P wt (n + 1) = some b := by
  rw [bstF_s, hb]
  exact if_neg (fun q => hw q.2)
theorem bstF_lt {P : Nat → Bool} {wt : Nat → Int32} : ∀ {n k : Nat}, bstF P wt n = some k → k < n
  | 0, k, h => by cases h
  | n + 1, k, h => by
    by_cases hp : P n = true
    · cases hb : bstF P wt n with
      | none =>
        rw [bstF_sn hp hb] at h
        cases h; omega
      | some b =>
        have h1 := bstF_lt hb
        by_cases hw : wt n < wt b
        · rw [bstF_sl hp hb hw] at h
          cases h; omega
        · rw [bstF_sg hb hw] at h
          cases h; omega
    · rw [bstF_s0 (by simpa using hp)] at h
      have h1 := bstF_lt h
      omega
def cnt (x : Int32) : Int32 := cntI x 16
/-- what follows by the rules bb from x, in a town -/
noncomputable def fol (nr : Nat) (cn nd : Nat → Int32) (bb x : Int32) : Int32 := clo nr cn nd bb x
theorem pw_nI : ∀ n, n ≤ 30 → one (nI n) = nI (2 ^ n) := by decide +kernel
theorem two_nI : ∀ n, n ≤ 100 → 2 * nI n = nI (2 * n) := by decide +kernel
theorem i_not_le {a b : Int32} (h : ¬ a ≤ b) : b < a := by
  rw [Int32.le_iff_toInt_le] at h
  rw [Int32.lt_iff_toInt_lt]
  omega
theorem i_not_lt {a b : Int32} (h : a ≤ b) : ¬ b < a := by
  rw [Int32.le_iff_toInt_le] at h
  rw [Int32.lt_iff_toInt_lt]
  omega
theorem i_lt_of {a b : Int32} (h : ¬ b ≤ a) : a < b := i_not_le h

set_option maxHeartbeats 4000000 in
set_option maxRecDepth 20000 in
theorem lp_X8_quarrels {κ : Kx} {Φ : Option Value → Mem → Prop} (C : Cx RX8 cX8_quarrels 3 (some .int) 0 false Φ κ) (S : Mem) (x : Int32) (hΦ : Φ (some (.int (qrF x 8))) S) : ∀ (n k : Nat), k ≤ 8 → 8 + 1 ≤ k + n → G κ 0 0 S 4 [.int x, .int (qrF x k), .int (nI k)] [] := by
  intro n
  induction n with
  | zero => intro k h1 h2; exact absurd h2 (by omega)
  | succ n ih =>
    intro k hk1 hk2
    refine g_iload_2 C dX8_quarrels_4 rfl ?_
    refine g_bipush (v := 8) C dX8_quarrels_5 rfl (by decide) ?_
    refine g_icmp_ge (tgt := 37) C dX8_quarrels_7 rfl (by decide) (fun h7 => ?_) (fun h7 => ?_)
    · skip
      have hk : k = 8 := by have := n_ge (b := 8) h7 (by omega) (by omega); omega
      rw [hk]
      refine g_iload_1 C dX8_quarrels_37 rfl ?_
      exact g_iret C rfl dX8_quarrels_38 hΦ
    · skip
      refine g_iload_1 C dX8_quarrels_10 rfl ?_
      refine g_iload_0 C dX8_quarrels_11 rfl ?_
      refine g_iconst (v := 2) C dX8_quarrels_12 rfl (by decide) ?_
      refine g_iload_2 C dX8_quarrels_13 rfl ?_
      refine g_imul C dX8_quarrels_14 rfl ?_
      refine g_ishr C dX8_quarrels_15 rfl ?_
      refine g_iconst (v := 3) C dX8_quarrels_16 rfl (by decide) ?_
      refine g_iand C dX8_quarrels_17 rfl ?_
      refine g_iconst (v := 3) C dX8_quarrels_18 rfl (by decide) ?_
      refine g_icmp_ne (tgt := 28) C dX8_quarrels_19 rfl (by decide) (fun h19 => ?_) (fun h19 => ?_)
      · skip
        refine g_iconst (v := 0) C dX8_quarrels_28 rfl (by decide) ?_
        refine g_ior C dX8_quarrels_29 rfl ?_
        refine g_istore_1 C rfl dX8_quarrels_30 rfl ?_
        refine g_iinc_2 (z := 1) C rfl dX8_quarrels_31 rfl (by decide) ?_
        refine g_goto (tgt := 4) C dX8_quarrels_34 (by decide) ?_
        have hk : k < 8 := n_lt (b := 8) h7 (by omega) (by omega)
        rw [nI_1]
        have e : qrF x (k + 1) = qrF x k ||| _ := congrArg (fun z => qrF x k ||| z) (if_neg (fun q => h19 (of_decide_eq_true q)))
        have := ih (k + 1) (by omega) (by omega)
        rw [e] at this
        exact this
      · skip
        refine g_iconst (v := 1) C dX8_quarrels_22 rfl (by decide) ?_
        refine g_iload_2 C dX8_quarrels_23 rfl ?_
        refine g_ishl C dX8_quarrels_24 rfl ?_
        refine g_goto (tgt := 29) C dX8_quarrels_25 (by decide) ?_
        refine g_ior C dX8_quarrels_29 rfl ?_
        refine g_istore_1 C rfl dX8_quarrels_30 rfl ?_
        refine g_iinc_2 (z := 1) C rfl dX8_quarrels_31 rfl (by decide) ?_
        refine g_goto (tgt := 4) C dX8_quarrels_34 (by decide) ?_
        have hk : k < 8 := n_lt (b := 8) h7 (by omega) (by omega)
        rw [nI_1]
        have e : qrF x (k + 1) = qrF x k ||| _ := congrArg (fun z => qrF x k ||| z) (if_pos (decide_eq_true h19))
        have := ih (k + 1) (by omega) (by omega)
        rw [e] at this
        exact this

set_option maxHeartbeats 4000000 in
set_option maxRecDepth 20000 in
theorem ok_X8_quarrels (x : Int32) (S : Mem) : Ok yX8_quarrels cX8_quarrels 3 (some .int) 0 0 0 [.int x] S (RI (qrF x 8) S) := by
  refine Ok.of (by decide) (Nat.le_of_ble_eq_true rfl) rfl (fun κ C hx => ?_)
  have C : Cx RX8 cX8_quarrels 3 (some .int) 0 false _ κ := C
  refine g_iconst (v := 0) C dX8_quarrels_0 rfl (by decide) ?_
  refine g_istore_1 C rfl dX8_quarrels_1 rfl ?_
  refine g_iconst (v := 0) C dX8_quarrels_2 rfl (by decide) ?_
  refine g_istore_2 C rfl dX8_quarrels_3 rfl ?_
  exact lp_X8_quarrels C S x ⟨rfl, rfl⟩ 9 0 (by omega) (by omega)

set_option maxHeartbeats 4000000 in
set_option maxRecDepth 20000 in
theorem lp_X8_costOf {κ : Kx} {Φ : Option Value → Mem → Prop} (C : Cx RX8 cX8_costOf 4 (some .int) 1 false Φ κ) (S : Mem) (hR : Rs S) (nr : Nat) (hnr : mI S 25 1 = nI nr) (h10 : nr ≤ 10) (x : Int32) (hΦ : Φ (some (.int (cstF (mA S 26) x nr))) S) : ∀ (n k : Nat), k ≤ nr → nr + 1 ≤ k + n → G κ 0 0 S 4 [.ref 25, .int x, .int (cstF (mA S 26) x k), .int (nI k)] [] := by
  intro n
  induction n with
  | zero => intro k h1 h2; exact absurd h2 (by omega)
  | succ n ih =>
    intro k hk1 hk2
    refine g_iload_3 C dX8_costOf_4 rfl ?_
    refine g_aload_0 C dX8_costOf_5 rfl ?_
    refine g_geti C 1 dX8_costOf_6 rfl rfl rfl fl_X8_77 ?_
    rw [hnr]
    refine g_icmp_ge (tgt := 39) C dX8_costOf_9 rfl (by decide) (fun h9 => ?_) (fun h9 => ?_)
    · skip
      have hk : k = nr := by have := n_ge (b := nr) h9 (by omega) (by omega); omega
      rw [hk]
      refine g_iload_2 C dX8_costOf_39 rfl ?_
      exact g_iret C rfl dX8_costOf_40 hΦ
    · skip
      refine g_iload_2 C dX8_costOf_12 rfl ?_
      refine g_iload_1 C dX8_costOf_13 rfl ?_
      refine g_iload_3 C dX8_costOf_14 rfl ?_
      refine g_cS2i C dX8_costOf_15 rfl ml_X8_114 mz_X8_has (ok_X8_has _ _ _) (by decide) rfl rfl (Nat.le_of_ble_eq_true rfl) (fun hn15 => ?_)
      refine g_if_eq (tgt := 30) C dX8_costOf_18 rfl (by decide) (fun h18 => ?_) (fun h18 => ?_)
      · skip
        refine g_iconst (v := 0) C dX8_costOf_30 rfl (by decide) ?_
        refine g_iadd C dX8_costOf_31 rfl ?_
        refine g_istore_2 C rfl dX8_costOf_32 rfl ?_
        refine g_iinc_3 (z := 1) C rfl dX8_costOf_33 rfl (by decide) ?_
        refine g_goto (tgt := 4) C dX8_costOf_36 (by decide) ?_
        have hk : k < nr := n_lt (b := nr) h9 (by omega) (by omega)
        rw [nI_1]
        have e : cstF (mA S 26) x (k + 1) = cstF (mA S 26) x k + _ := congrArg (fun z => cstF (mA S 26) x k + z) (if_neg (by rw [(bI_0 _).mp h18]; decide))
        have := ih (k + 1) (by omega) (by omega)
        rw [e] at this
        exact this
      · skip
        refine g_aload_0 C dX8_costOf_21 rfl ?_
        refine g_getr C 2 dX8_costOf_22 rfl rfl rfl fl_X8_7 (hR 25 2 26 rfl) ?_
        refine g_iload_3 C dX8_costOf_25 rfl ?_
        refine g_iald C dX8_costOf_26 rfl rfl (n_in (show k < 10 by have := n_lt (b := nr) h9 (by omega) (by omega); omega) (by decide)) ?_
        rw [nI_clamp (show k < 2 ^ 31 by omega)]
        refine g_goto (tgt := 31) C dX8_costOf_27 (by decide) ?_
        refine g_iadd C dX8_costOf_31 rfl ?_
        refine g_istore_2 C rfl dX8_costOf_32 rfl ?_
        refine g_iinc_3 (z := 1) C rfl dX8_costOf_33 rfl (by decide) ?_
        refine g_goto (tgt := 4) C dX8_costOf_36 (by decide) ?_
        have hk : k < nr := n_lt (b := nr) h9 (by omega) (by omega)
        rw [nI_1]
        have e : cstF (mA S 26) x (k + 1) = cstF (mA S 26) x k + _ := congrArg (fun z => cstF (mA S 26) x k + z) (if_pos (nf_t (fun q => h18 ((bI_0 _).mpr q))))
        have := ih (k + 1) (by omega) (by omega)
        rw [e] at this
        exact this

set_option maxHeartbeats 4000000 in
set_option maxRecDepth 20000 in
theorem ok_X8_costOf (x : Int32) (S : Mem) (hR : Rs S) (nr : Nat) (hnr : mI S 25 1 = nI nr) (h10 : nr ≤ 10) : Ok yX8_costOf cX8_costOf 4 (some .int) 1 0 0 [.ref 25, .int x] S (RI (cstF (mA S 26) x nr) S) := by
  refine Ok.of (by decide) (Nat.le_of_ble_eq_true rfl) rfl (fun κ C hx => ?_)
  have C : Cx RX8 cX8_costOf 4 (some .int) 1 false _ κ := C
  refine g_iconst (v := 0) C dX8_costOf_0 rfl (by decide) ?_
  refine g_istore_2 C rfl dX8_costOf_1 rfl ?_
  refine g_iconst (v := 0) C dX8_costOf_2 rfl (by decide) ?_
  refine g_istore_3 C rfl dX8_costOf_3 rfl ?_
  exact lp_X8_costOf C S hR nr hnr h10 x ⟨rfl, rfl⟩ (nr + 1) 0 (by omega) (by omega)

noncomputable def folV (S : Mem) (nr : Nat) (x : Int32) : Int32 := if setB (mI S 25 0) x = true then clo nr (mA S 27) (mA S 28) (alw (nI nr) (mA S 29 2)) x else -1000000001
set_option maxHeartbeats 4000000 in
set_option maxRecDepth 20000 in
theorem ok_X8_follows (x : Int32) (S : Mem) (hR : Rs S) (nr : Nat) (hnr : mI S 25 1 = nI nr) (hT : Tn nr (mA S 27)) : Ok yX8_follows cX8_follows 2 (some .int) 2 0 0 [.ref 25, .int x] S (RI (folV S nr x) S) := by
  refine Ok.of (by decide) (Nat.le_of_ble_eq_true rfl) rfl (fun κ C hx => ?_)
  have C : Cx RX8 cX8_follows 2 (some .int) 2 false _ κ := C
  refine g_aload_0 C dX8_follows_0 rfl ?_
  refine g_iload_1 C dX8_follows_1 rfl ?_
  refine g_cV1i C dX8_follows_2 rfl ml_X8_198 mz_X8_isSet (ok_X8_isSet _ S) (by decide) rfl rfl rfl rfl (Nat.le_of_ble_eq_true rfl) (fun hn2 => ?_)
  refine g_if_eq (tgt := 20) C dX8_follows_5 rfl (by decide) (fun h5 => ?_) (fun h5 => ?_)
  · skip
    refine g_ldc C dX8_follows_20 rfl kc_X8_165 ?_
    exact g_iret C rfl dX8_follows_22 ⟨by unfold folV; rw [if_neg (by rw [(bI_0 _).mp h5]; decide)], rfl⟩
  · skip
    refine g_aload_0 C dX8_follows_8 rfl ?_
    refine g_iload_1 C dX8_follows_9 rfl ?_
    refine g_aload_0 C dX8_follows_10 rfl ?_
    refine g_cV0i C dX8_follows_11 rfl ml_X8_149 mz_X8_allowed (ok_X8_allowed S hR) (by decide) rfl rfl rfl rfl (Nat.le_of_ble_eq_true rfl) (fun hn11 => ?_)
    refine g_cV2i C dX8_follows_14 rfl ml_X8_152 mz_X8_close (ok_X8_close _ _ S hR nr hnr hT) (by decide) rfl rfl rfl rfl (Nat.le_of_ble_eq_true rfl) (fun hn14 => ?_)
    refine g_goto (tgt := 22) C dX8_follows_17 (by decide) ?_
    exact g_iret C rfl dX8_follows_22 ⟨by unfold folV; rw [if_pos (nf_t (fun q => h5 ((bI_0 _).mpr q))), hnr], rfl⟩

noncomputable def dwB (S : Mem) (nr : Nat) (x s : Int32) : Bool := hasB (clo nr (mA S 27) (mA S 28) (alw (nI nr) (mA S 29 2)) (mA S 29 0 ||| x)) s && decide (qrF (clo nr (mA S 27) (mA S 28) (alw (nI nr) (mA S 29 2)) (mA S 29 0 ||| x)) 8 = 0)
set_option maxHeartbeats 4000000 in
set_option maxRecDepth 20000 in
theorem ok_X8_doWords (x s : Int32) (S : Mem) (hR : Rs S) (nr : Nat) (hnr : mI S 25 1 = nI nr) (hT : Tn nr (mA S 27)) : Ok yX8_doWords cX8_doWords 4 (some .boolean) 2 0 0 [.ref 25, .int x, .int s] S (RI (bI (dwB S nr x s)) S) := by
  refine Ok.of (by decide) (Nat.le_of_ble_eq_true rfl) rfl (fun κ C hx => ?_)
  have C : Cx RX8 cX8_doWords 4 (some .boolean) 2 false _ κ := C
  refine g_aload_0 C dX8_doWords_0 rfl ?_
  refine g_aload_0 C dX8_doWords_1 rfl ?_
  refine g_getr C 5 dX8_doWords_2 rfl rfl rfl fl_X8_19 (hR 25 5 29 rfl) ?_
  refine g_iconst (v := 0) C dX8_doWords_5 rfl (by decide) ?_
  refine g_iald C dX8_doWords_6 rfl rfl (n_in (k := 0) (N := 4) (by decide) (by decide)) ?_
  refine g_iload_1 C dX8_doWords_7 rfl ?_
  refine g_ior C dX8_doWords_8 rfl ?_
  refine g_aload_0 C dX8_doWords_9 rfl ?_
  refine g_cV0i C dX8_doWords_10 rfl ml_X8_149 mz_X8_allowed (ok_X8_allowed S hR) (by decide) rfl rfl rfl rfl (Nat.le_of_ble_eq_true rfl) (fun hn10 => ?_)
  refine g_cV2i C dX8_doWords_13 rfl ml_X8_152 mz_X8_close (ok_X8_close _ _ S hR nr hnr hT) (by decide) rfl rfl rfl rfl (Nat.le_of_ble_eq_true rfl) (fun hn13 => ?_)
  rw [hnr]
  rw [show (mA S 29 (Int32.toNatClampNeg 0)) = mA S 29 0 from rfl]
  refine g_istore_3 C rfl dX8_doWords_16 rfl ?_
  refine g_iload_3 C dX8_doWords_17 rfl ?_
  refine g_iload_2 C dX8_doWords_18 rfl ?_
  refine g_cS2i C dX8_doWords_19 rfl ml_X8_114 mz_X8_has (ok_X8_has _ _ _) (by decide) rfl rfl (Nat.le_of_ble_eq_true rfl) (fun hn19 => ?_)
  refine g_if_eq (tgt := 36) C dX8_doWords_22 rfl (by decide) (fun h22 => ?_) (fun h22 => ?_)
  · skip
    refine g_iconst (v := 0) C dX8_doWords_36 rfl (by decide) ?_
    exact g_zret C rfl dX8_doWords_37 (by first | exact Or.inl rfl | exact Or.inr rfl | exact bI_01 _) ⟨by rw [show dwB S nr x s = false from by unfold dwB; rw [(bI_0 _).mp h22]; rfl]; rfl, rfl⟩
  · skip
    refine g_iload_3 C dX8_doWords_25 rfl ?_
    refine g_cS1i C dX8_doWords_26 rfl ml_X8_158 mz_X8_quarrels (ok_X8_quarrels _ _) (by decide) rfl rfl (Nat.le_of_ble_eq_true rfl) (fun hn26 => ?_)
    refine g_if_ne (tgt := 36) C dX8_doWords_29 rfl (by decide) (fun h29 => ?_) (fun h29 => ?_)
    · skip
      refine g_iconst (v := 0) C dX8_doWords_36 rfl (by decide) ?_
      exact g_zret C rfl dX8_doWords_37 (by first | exact Or.inl rfl | exact Or.inr rfl | exact bI_01 _) ⟨by rw [show dwB S nr x s = false from by unfold dwB; rw [decide_eq_false h29, Bool.and_false]]; rfl, rfl⟩
    · skip
      refine g_iconst (v := 1) C dX8_doWords_32 rfl (by decide) ?_
      refine g_goto (tgt := 37) C dX8_doWords_33 (by decide) ?_
      exact g_zret C rfl dX8_doWords_37 (by first | exact Or.inl rfl | exact Or.inr rfl | exact bI_01 _) ⟨by rw [show dwB S nr x s = true from by unfold dwB; rw [nf_t (fun q => h22 ((bI_0 _).mpr q)), decide_eq_true h29]; rfl]; rfl, rfl⟩

