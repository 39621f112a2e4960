def us9 (x k : Int32) : Int32 := (x.toUInt32 >>> (k.toUInt32 &&& Int32.toUInt32 31)).toInt32
def bc1 (x : Int32) : Int32 := x - (us9 x 1 &&& 1431655765)
def bc2 (x : Int32) : Int32 := (x &&& 858993459) + (us9 x 2 &&& 858993459)
def bc3 (x : Int32) : Int32 := (x + us9 x 4) &&& 252645135
def bc4 (x : Int32) : Int32 := x + us9 x 8
def bc5 (x : Int32) : Int32 := x + us9 x 16
def bcI (x : Int32) : Int32 := bc5 (bc4 (bc3 (bc2 (bc1 x)))) &&& 63
set_option maxHeartbeats 4000000 in
set_option maxRecDepth 20000 in
theorem ok_J6_bitCount (x : Int32) (S : Mem) : Ok yJ6_bitCount_0f7a4 cJ6_bitCount_0f7a4 1 (some .int) 0 0 0 [.int x] S (RI (bcI x) S) := by
  refine Ok.of (by decide) (Nat.le_of_ble_eq_true rfl) rfl (fun κ C hx => ?_)
  have C : Cx RJ6 cJ6_bitCount_0f7a4 1 (some .int) 0 false _ κ := C
  refine g_iload_0 C dJ6_bitCount_0f7a4_0 rfl ?_
  refine g_iload_0 C dJ6_bitCount_0f7a4_1 rfl ?_
  refine g_iconst (v := 1) C dJ6_bitCount_0f7a4_2 rfl (by decide) ?_
  refine g_iushr C dJ6_bitCount_0f7a4_3 rfl ?_
  refine g_ldcw C dJ6_bitCount_0f7a4_4 rfl kc_J6_265 ?_
  refine g_iand C dJ6_bitCount_0f7a4_7 rfl ?_
  refine g_isub C dJ6_bitCount_0f7a4_8 rfl ?_
  refine g_istore_0 C hx dJ6_bitCount_0f7a4_9 rfl ?_
  refine g_iload_0 C dJ6_bitCount_0f7a4_10 rfl ?_
  refine g_ldcw C dJ6_bitCount_0f7a4_11 rfl kc_J6_266 ?_
  refine g_iand C dJ6_bitCount_0f7a4_14 rfl ?_
  refine g_iload_0 C dJ6_bitCount_0f7a4_15 rfl ?_
  refine g_iconst (v := 2) C dJ6_bitCount_0f7a4_16 rfl (by decide) ?_
  refine g_iushr C dJ6_bitCount_0f7a4_17 rfl ?_
  refine g_ldcw C dJ6_bitCount_0f7a4_18 rfl kc_J6_266 ?_
  refine g_iand C dJ6_bitCount_0f7a4_21 rfl ?_
  refine g_iadd C dJ6_bitCount_0f7a4_22 rfl ?_
  refine g_istore_0 C hx dJ6_bitCount_0f7a4_23 rfl ?_
  refine g_iload_0 C dJ6_bitCount_0f7a4_24 rfl ?_
  refine g_iload_0 C dJ6_bitCount_0f7a4_25 rfl ?_
  refine g_iconst (v := 4) C dJ6_bitCount_0f7a4_26 rfl (by decide) ?_
  refine g_iushr C dJ6_bitCount_0f7a4_27 rfl ?_
  refine g_iadd C dJ6_bitCount_0f7a4_28 rfl ?_
  refine g_ldcw C dJ6_bitCount_0f7a4_29 rfl kc_J6_267 ?_
  refine g_iand C dJ6_bitCount_0f7a4_32 rfl ?_
  refine g_istore_0 C hx dJ6_bitCount_0f7a4_33 rfl ?_
  refine g_iload_0 C dJ6_bitCount_0f7a4_34 rfl ?_
  refine g_iload_0 C dJ6_bitCount_0f7a4_35 rfl ?_
  refine g_bipush (v := 8) C dJ6_bitCount_0f7a4_36 rfl (by decide) ?_
  refine g_iushr C dJ6_bitCount_0f7a4_38 rfl ?_
  refine g_iadd C dJ6_bitCount_0f7a4_39 rfl ?_
  refine g_istore_0 C hx dJ6_bitCount_0f7a4_40 rfl ?_
  refine g_iload_0 C dJ6_bitCount_0f7a4_41 rfl ?_
  refine g_iload_0 C dJ6_bitCount_0f7a4_42 rfl ?_
  refine g_bipush (v := 16) C dJ6_bitCount_0f7a4_43 rfl (by decide) ?_
  refine g_iushr C dJ6_bitCount_0f7a4_45 rfl ?_
  refine g_iadd C dJ6_bitCount_0f7a4_46 rfl ?_
  refine g_istore_0 C hx dJ6_bitCount_0f7a4_47 rfl ?_
  refine g_iload_0 C dJ6_bitCount_0f7a4_48 rfl ?_
  refine g_bipush (v := 63) C dJ6_bitCount_0f7a4_49 rfl (by decide) ?_
  refine g_iand C dJ6_bitCount_0f7a4_51 rfl ?_
  exact g_iret C rfl dJ6_bitCount_0f7a4_52 ⟨rfl, rfl⟩

theorem bcI_cw : ∀ k, k < 1024 → bcI (nI k) = cw k := by decide +kernel
theorem cw_11 : ∀ k, k < 1024 → cw k < 11 := by decide +kernel
noncomputable def suB (x y : Int32) : Bool := subB x y
set_option maxHeartbeats 4000000 in
set_option maxRecDepth 20000 in
theorem ok_X6_isAllowed (x : Int32) (z : Nat) (S : Mem) (hZ : mK S z = 6) : Ok yX6_isAllowed cX6_isAllowed 2 (some .boolean) 0 0 0 [.ref z, .int x] S (RI (bI (subB x (mI S z 2))) S) := by
  refine Ok.of (by decide) (Nat.le_of_ble_eq_true rfl) rfl (fun κ C hx => ?_)
  have C : Cx RX6 cX6_isAllowed 2 (some .boolean) 0 false _ κ := C
  refine g_iload_1 C dX6_isAllowed_0 rfl ?_
  refine g_aload_0 C dX6_isAllowed_1 rfl ?_
  refine g_getiD C 2 dX6_isAllowed_2 rfl hZ (by decide) (by decide) rfl fl_X6_19 ?_
  refine g_iconst (v := -1) C dX6_isAllowed_5 rfl (by decide) ?_
  refine g_ixor C dX6_isAllowed_6 rfl ?_
  refine g_iand C dX6_isAllowed_7 rfl ?_
  refine g_if_ne (tgt := 15) C dX6_isAllowed_8 rfl (by decide) (fun h8 => ?_) (fun h8 => ?_)
  · skip
    refine g_iconst (v := 0) C dX6_isAllowed_15 rfl (by decide) ?_
    exact g_zret C rfl dX6_isAllowed_16 (by first | exact Or.inl rfl | exact Or.inr rfl | exact bI_01 _) ⟨by rw [show subB x (mI S z 2) = false from @decide_eq_false _ (Classical.propDecidable _) h8]; rfl, rfl⟩
  · skip
    refine g_iconst (v := 1) C dX6_isAllowed_11 rfl (by decide) ?_
    refine g_goto (tgt := 16) C dX6_isAllowed_12 (by decide) ?_
    exact g_zret C rfl dX6_isAllowed_16 (by first | exact Or.inl rfl | exact Or.inr rfl | exact bI_01 _) ⟨by rw [show subB x (mI S z 2) = true from @decide_eq_true _ (Classical.propDecidable _) h8]; rfl, rfl⟩

set_option maxHeartbeats 4000000 in
set_option maxRecDepth 20000 in
theorem ok_X6_conclusions (z t : Nat) (S : Mem) (hZ : mK S z = 6) (hZt : mR S z 0 = some t) (hW : TwK S t) (nr : Nat) (hnr : mI S t 4 = nI nr) (hT : Tn nr (mA S (t + 2))) : Ok yX6_conclusions cX6_conclusions 1 (some .int) 2 0 0 [.ref z] S (RI (clo nr (mA S (t + 2)) (mA S (t + 3)) (mI S z 2) (mI S z 1)) S) := by
  refine Ok.of (by decide) (Nat.le_of_ble_eq_true rfl) rfl (fun κ C hx => ?_)
  have C : Cx RX6 cX6_conclusions 1 (some .int) 2 false _ κ := C
  refine g_aload_0 C dX6_conclusions_0 rfl ?_
  refine g_getrD C 0 dX6_conclusions_1 rfl hZ (by decide) (by decide) rfl fl_X6_9 hZt ?_
  refine g_aload_0 C dX6_conclusions_4 rfl ?_
  refine g_getiD C 1 dX6_conclusions_5 rfl hZ (by decide) (by decide) rfl fl_X6_15 ?_
  refine g_aload_0 C dX6_conclusions_8 rfl ?_
  refine g_getiD C 2 dX6_conclusions_9 rfl hZ (by decide) (by decide) rfl fl_X6_19 ?_
  refine g_cD2i C dX6_conclusions_12 rfl ml_X6_22 mz_X4_closure (ok_X4_closure _ _ t S hW nr hnr hT) (by decide) rfl rfl hW.1 (by decide) rfl (Nat.le_of_ble_eq_true rfl) (fun hn12 => ?_)
  exact g_iret C rfl dX6_conclusions_15 ⟨rfl, rfl⟩

set_option maxHeartbeats 4000000 in
set_option maxRecDepth 20000 in
theorem ok_X6_concludesBy (b s : Int32) (z t : Nat) (S : Mem) (hZ : mK S z = 6) (hZt : mR S z 0 = some t) (hW : TwK S t) (nr : Nat) (hnr : mI S t 4 = nI nr) (hT : Tn nr (mA S (t + 2))) : Ok yX6_concludesBy cX6_concludesBy 3 (some .boolean) 2 0 0 [.ref z, .int b, .int s] S (RI (bI (hasB (clo nr (mA S (t + 2)) (mA S (t + 3)) b (mI S z 1)) s)) S) := by
  refine Ok.of (by decide) (Nat.le_of_ble_eq_true rfl) rfl (fun κ C hx => ?_)
  have C : Cx RX6 cX6_concludesBy 3 (some .boolean) 2 false _ κ := C
  refine g_aload_0 C dX6_concludesBy_0 rfl ?_
  refine g_getrD C 0 dX6_concludesBy_1 rfl hZ (by decide) (by decide) rfl fl_X6_9 hZt ?_
  refine g_aload_0 C dX6_concludesBy_4 rfl ?_
  refine g_getiD C 1 dX6_concludesBy_5 rfl hZ (by decide) (by decide) rfl fl_X6_15 ?_
  refine g_iload_1 C dX6_concludesBy_8 rfl ?_
  refine g_cD2i C dX6_concludesBy_9 rfl ml_X6_22 mz_X4_closure (ok_X4_closure _ _ t S hW nr hnr hT) (by decide) rfl rfl hW.1 (by decide) rfl (Nat.le_of_ble_eq_true rfl) (fun hn9 => ?_)
  refine g_iload_2 C dX6_concludesBy_12 rfl ?_
  refine g_cN2i C dX6_concludesBy_13 rfl nl_X6_28 mz_X7_has (ok_X7_has _ _ S) (by decide) rfl rfl (Nat.le_of_ble_eq_true rfl) (fun hn13 => ?_)
  exact g_zret C rfl dX6_concludesBy_16 (by first | exact Or.inl rfl | exact Or.inr rfl | exact bI_01 _) ⟨rfl, rfl⟩

set_option maxHeartbeats 4000000 in
set_option maxRecDepth 20000 in
theorem ok_X6_isPeaceWithout (x : Int32) (z t : Nat) (S : Mem) (hZ : mK S z = 6) (hZt : mR S z 0 = some t) (hW : TwK S t) (nr : Nat) (hnr : mI S t 4 = nI nr) (hT : Tn nr (mA S (t + 2))) (th : Nat) (hth : mI S t 3 = nI th) (h8 : th ≤ 8) : Ok yX6_isPeaceWithout cX6_isPeaceWithout 2 (some .boolean) 2 0 0 [.ref z, .int x] S (RI (bI (decide (qcF (clo nr (mA S (t + 2)) (mA S (t + 3)) ((mI S z 2) &&& (x ^^^ (-1))) (mI S z 1)) th = 0))) S) := by
  refine Ok.of (by decide) (Nat.le_of_ble_eq_true rfl) rfl (fun κ C hx => ?_)
  have C : Cx RX6 cX6_isPeaceWithout 2 (some .boolean) 2 false _ κ := C
  refine g_aload_0 C dX6_isPeaceWithout_0 rfl ?_
  refine g_getrD C 0 dX6_isPeaceWithout_1 rfl hZ (by decide) (by decide) rfl fl_X6_9 hZt ?_
  refine g_aload_0 C dX6_isPeaceWithout_4 rfl ?_
  refine g_getrD C 0 dX6_isPeaceWithout_5 rfl hZ (by decide) (by decide) rfl fl_X6_9 hZt ?_
  refine g_aload_0 C dX6_isPeaceWithout_8 rfl ?_
  refine g_getiD C 1 dX6_isPeaceWithout_9 rfl hZ (by decide) (by decide) rfl fl_X6_15 ?_
  refine g_aload_0 C dX6_isPeaceWithout_12 rfl ?_
  refine g_getiD C 2 dX6_isPeaceWithout_13 rfl hZ (by decide) (by decide) rfl fl_X6_19 ?_
  refine g_iload_1 C dX6_isPeaceWithout_16 rfl ?_
  refine g_iconst (v := -1) C dX6_isPeaceWithout_17 rfl (by decide) ?_
  refine g_ixor C dX6_isPeaceWithout_18 rfl ?_
  refine g_iand C dX6_isPeaceWithout_19 rfl ?_
  refine g_cD2i C dX6_isPeaceWithout_20 rfl ml_X6_22 mz_X4_closure (ok_X4_closure _ _ t S hW nr hnr hT) (by decide) rfl rfl hW.1 (by decide) rfl (Nat.le_of_ble_eq_true rfl) (fun hn20 => ?_)
  refine g_cD1i C dX6_isPeaceWithout_23 rfl ml_X6_45 mz_X4_quarrelsIn (ok_X4_quarrelsIn _ t S hW th hth h8) (by decide) rfl rfl hW.1 (by decide) rfl (Nat.le_of_ble_eq_true rfl) (fun hn23 => ?_)
  refine g_if_ne (tgt := 33) C dX6_isPeaceWithout_26 rfl (by decide) (fun h26 => ?_) (fun h26 => ?_)
  · skip
    refine g_iconst (v := 0) C dX6_isPeaceWithout_33 rfl (by decide) ?_
    exact g_zret C rfl dX6_isPeaceWithout_34 (by first | exact Or.inl rfl | exact Or.inr rfl | exact bI_01 _) ⟨by rw [decide_eq_false h26]; rfl, rfl⟩
  · skip
    refine g_iconst (v := 1) C dX6_isPeaceWithout_29 rfl (by decide) ?_
    refine g_goto (tgt := 34) C dX6_isPeaceWithout_30 (by decide) ?_
    exact g_zret C rfl dX6_isPeaceWithout_34 (by first | exact Or.inl rfl | exact Or.inr rfl | exact bI_01 _) ⟨by rw [decide_eq_true h26]; rfl, rfl⟩

noncomputable def btB (S : Mem) (t z nr th : Nat) (s x : Int32) : Bool := hasB (clo nr (mA S (t + 2)) (mA S (t + 3)) (mI S z 2) ((mI S z 1) ||| x)) s && decide (qcF (clo nr (mA S (t + 2)) (mA S (t + 3)) (mI S z 2) ((mI S z 1) ||| x)) th = 0)
set_option maxHeartbeats 4000000 in
set_option maxRecDepth 20000 in
theorem ok_X6_bringTo (s x : Int32) (z t : Nat) (S : Mem) (hZ : mK S z = 6) (hZt : mR S z 0 = some t) (hW : TwK S t) (nr : Nat) (hnr : mI S t 4 = nI nr) (hT : Tn nr (mA S (t + 2))) (th : Nat) (hth : mI S t 3 = nI th) (h8 : th ≤ 8) : Ok yX6_bringTo cX6_bringTo 4 (some .boolean) 2 0 0 [.ref z, .int s, .int x] S (RI (bI (btB S t z nr th s x)) S) := by
  refine Ok.of (by decide) (Nat.le_of_ble_eq_true rfl) rfl (fun κ C hx => ?_)
  have C : Cx RX6 cX6_bringTo 4 (some .boolean) 2 false _ κ := C
  refine g_aload_0 C dX6_bringTo_0 rfl ?_
  refine g_getrD C 0 dX6_bringTo_1 rfl hZ (by decide) (by decide) rfl fl_X6_9 hZt ?_
  refine g_aload_0 C dX6_bringTo_4 rfl ?_
  refine g_getiD C 1 dX6_bringTo_5 rfl hZ (by decide) (by decide) rfl fl_X6_15 ?_
  refine g_iload_2 C dX6_bringTo_8 rfl ?_
  refine g_ior C dX6_bringTo_9 rfl ?_
  refine g_aload_0 C dX6_bringTo_10 rfl ?_
  refine g_getiD C 2 dX6_bringTo_11 rfl hZ (by decide) (by decide) rfl fl_X6_19 ?_
  refine g_cD2i C dX6_bringTo_14 rfl ml_X6_22 mz_X4_closure (ok_X4_closure _ _ t S hW nr hnr hT) (by decide) rfl rfl hW.1 (by decide) rfl (Nat.le_of_ble_eq_true rfl) (fun hn14 => ?_)
  refine g_istore_3 C rfl dX6_bringTo_17 rfl ?_
  refine g_iload_3 C dX6_bringTo_18 rfl ?_
  refine g_iload_1 C dX6_bringTo_19 rfl ?_
  refine g_cN2i C dX6_bringTo_20 rfl nl_X6_28 mz_X7_has (ok_X7_has _ _ S) (by decide) rfl rfl (Nat.le_of_ble_eq_true rfl) (fun hn20 => ?_)
  refine g_if_eq (tgt := 41) C dX6_bringTo_23 rfl (by decide) (fun h23 => ?_) (fun h23 => ?_)
  · skip
    refine g_iconst (v := 0) C dX6_bringTo_41 rfl (by decide) ?_
    exact g_zret C rfl dX6_bringTo_42 (by first | exact Or.inl rfl | exact Or.inr rfl | exact bI_01 _) ⟨by rw [show btB S t z nr th s x = false from by unfold btB; rw [(bI_0 _).mp h23]; rfl]; rfl, rfl⟩
  · skip
    refine g_aload_0 C dX6_bringTo_26 rfl ?_
    refine g_getrD C 0 dX6_bringTo_27 rfl hZ (by decide) (by decide) rfl fl_X6_9 hZt ?_
    refine g_iload_3 C dX6_bringTo_30 rfl ?_
    refine g_cD1i C dX6_bringTo_31 rfl ml_X6_45 mz_X4_quarrelsIn (ok_X4_quarrelsIn _ t S hW th hth h8) (by decide) rfl rfl hW.1 (by decide) rfl (Nat.le_of_ble_eq_true rfl) (fun hn31 => ?_)
    refine g_if_ne (tgt := 41) C dX6_bringTo_34 rfl (by decide) (fun h34 => ?_) (fun h34 => ?_)
    · skip
      refine g_iconst (v := 0) C dX6_bringTo_41 rfl (by decide) ?_
      exact g_zret C rfl dX6_bringTo_42 (by first | exact Or.inl rfl | exact Or.inr rfl | exact bI_01 _) ⟨by rw [show btB S t z nr th s x = false from by unfold btB; rw [decide_eq_false h34, Bool.and_false]]; rfl, rfl⟩
    · skip
      refine g_iconst (v := 1) C dX6_bringTo_37 rfl (by decide) ?_
      refine g_goto (tgt := 42) C dX6_bringTo_38 (by decide) ?_
      exact g_zret C rfl dX6_bringTo_42 (by first | exact Or.inl rfl | exact Or.inr rfl | exact bI_01 _) ⟨by rw [show btB S t z nr th s x = true from by unfold btB; rw [nf_t (fun q => h23 ((bI_0 _).mpr q)), decide_eq_true h34]; rfl]; rfl, rfl⟩

def stB (al : Int32) (o : Option Nat) : Int32 := match o with | none => al | some b => nI b
def stW (m : Int32) (wt : Nat → Int32) (o : Option Nat) : Int32 := match o with | none => m | some b => wt b
theorem bst_keep {P : Nat → Bool} {wt : Nat → Int32} {k : Nat} {m : Int32} (hm : wt k < m) (h : stW m wt (bstF P wt k) ≤ wt k) : bstF P wt (k + 1) = bstF P wt k := by
  cases hb : bstF P wt k with
  | none => rw [hb] at h; exact absurd hm (i_not_lt h)
  | some b => rw [hb] at h; exact bstF_sg hb (i_not_lt h)
theorem bst_take {P : Nat → Bool} {wt : Nat → Int32} {k : Nat} {m : Int32} (hp : P k = true) (h : ¬ stW m wt (bstF P wt k) ≤ wt k) : bstF P wt (k + 1) = some k := by
  cases hb : bstF P wt k with
  | none => exact bstF_sn hp hb
  | some b => rw [hb] at h; exact bstF_sl hp hb (i_not_le h)
noncomputable def tpP (S : Mem) (t z nr : Nat) (s : Int32) (k : Nat) : Bool := subB (nI k) (mI S z 2) && hasB (clo nr (mA S (t + 2)) (mA S (t + 3)) (nI k) (mI S z 1)) s
set_option maxHeartbeats 4000000 in
set_option maxRecDepth 20000 in
theorem lp_X6_leastProof {κ : Kx} {Φ : Option Value → Mem → Prop} (C : Cx RX6 cX6_leastProof 6 (some .int) 3 false Φ κ) (z t : Nat) (S : Mem) (hZ : mK S z = 6) (hZt : mR S z 0 = some t) (hW : TwK S t) (nr : Nat) (hnr : mI S t 4 = nI nr) (hT : Tn nr (mA S (t + 2))) (A : Nat) (hA : mI S z 2 = nI A) (hA2 : A < 2 ^ nr) (s : Int32) (hΦ : Φ (some (.int (stB (nI A) (bstF (tpP S t z nr s) cw (A + 1))))) S) : ∀ (n k : Nat), k ≤ A + 1 → A + 2 ≤ k + n → ∀ v5 : Value, G κ 0 0 S 25 [.ref z, .int s, .int (stB (nI A) (bstF (tpP S t z nr s) cw k)), .int (stW 11 cw (bstF (tpP S t z nr s) cw k)), .int (nI k), v5] [] := by
  have h10 := pw10 hT.1
  intro n
  induction n with
  | zero => intro k h1 h2; exact absurd h2 (by omega)
  | succ n ih =>
    intro k hk1 hk2 v5
    refine g_iload_4 C dX6_leastProof_25 rfl ?_
    refine g_aload_0 C dX6_leastProof_27 rfl ?_
    refine g_getiD C 2 dX6_leastProof_28 rfl hZ (by decide) (by decide) rfl fl_X6_19 ?_
    rw [hA]
    refine g_icmp_gt (tgt := 78) C dX6_leastProof_31 rfl (by decide) (fun h31 => ?_) (fun h31 => ?_)
    · skip
      have hk : k = A + 1 := by have := n_lt' (a := A) (b := k) h31 (by omega) (by omega); omega
      rw [hk]
      refine g_iload_2 C dX6_leastProof_78 rfl ?_
      exact g_iret C rfl dX6_leastProof_79 hΦ
    · skip
      refine g_iload_4 C dX6_leastProof_34 rfl ?_
      refine g_cS1i C dX6_leastProof_36 rfl ml_X6_35 mz_J6_bitCount_0f7a4 (ok_J6_bitCount _ S) (by decide) rfl rfl (Nat.le_of_ble_eq_true rfl) (fun hn36 => ?_)
      rw [bcI_cw k (by have := n_nlt (a := A) (b := k) h31 (by omega) (by omega); omega)]
      refine g_istore_5 C rfl dX6_leastProof_39 rfl ?_
      refine g_aload_0 C dX6_leastProof_41 rfl ?_
      refine g_iload_4 C dX6_leastProof_42 rfl ?_
      refine g_cD1i C dX6_leastProof_44 rfl ml_X6_41 mz_X6_isAllowed (ok_X6_isAllowed _ z S hZ) (by decide) rfl rfl hZ (by decide) rfl (Nat.le_of_ble_eq_true rfl) (fun hn44 => ?_)
      refine g_if_eq (tgt := 72) C dX6_leastProof_47 rfl (by decide) (fun h47 => ?_) (fun h47 => ?_)
      · skip
        refine g_iinc_4 (z := 1) C rfl dX6_leastProof_72 rfl (by decide) ?_
        refine g_goto (tgt := 25) C dX6_leastProof_75 (by decide) ?_
        have hk : k ≤ A := by have := n_nlt (a := A) (b := k) h31 (by omega) (by omega); omega
        rw [nI_1]
        have e := bstF_s0 (P := (tpP S t z nr s)) (wt := cw) (show (tpP S t z nr s) k = false by unfold tpP; rw [(bI_0 _).mp h47, Bool.false_and])
        have := ih (k + 1) (by omega) (by omega)
        rw [e] at this
        exact this _
      · skip
        refine g_iload_5 C dX6_leastProof_50 rfl ?_
        refine g_iload_3 C dX6_leastProof_52 rfl ?_
        refine g_icmp_ge (tgt := 72) C dX6_leastProof_53 rfl (by decide) (fun h53 => ?_) (fun h53 => ?_)
        · skip
          refine g_iinc_4 (z := 1) C rfl dX6_leastProof_72 rfl (by decide) ?_
          refine g_goto (tgt := 25) C dX6_leastProof_75 (by decide) ?_
          have hk : k ≤ A := by have := n_nlt (a := A) (b := k) h31 (by omega) (by omega); omega
          rw [nI_1]
          have e := bst_keep (P := (tpP S t z nr s)) (cw_11 k (by omega)) h53
          have := ih (k + 1) (by omega) (by omega)
          rw [e] at this
          exact this _
        · skip
          refine g_aload_0 C dX6_leastProof_56 rfl ?_
          refine g_iload_4 C dX6_leastProof_57 rfl ?_
          refine g_iload_1 C dX6_leastProof_59 rfl ?_
          refine g_cD2i C dX6_leastProof_60 rfl ml_X6_32 mz_X6_concludesBy (ok_X6_concludesBy _ _ z t S hZ hZt hW nr hnr hT) (by decide) rfl rfl hZ (by decide) rfl (Nat.le_of_ble_eq_true rfl) (fun hn60 => ?_)
          refine g_if_eq (tgt := 72) C dX6_leastProof_63 rfl (by decide) (fun h63 => ?_) (fun h63 => ?_)
          · skip
            refine g_iinc_4 (z := 1) C rfl dX6_leastProof_72 rfl (by decide) ?_
            refine g_goto (tgt := 25) C dX6_leastProof_75 (by decide) ?_
            have hk : k ≤ A := by have := n_nlt (a := A) (b := k) h31 (by omega) (by omega); omega
            rw [nI_1]
            have e := bstF_s0 (P := (tpP S t z nr s)) (wt := cw) (show (tpP S t z nr s) k = false by unfold tpP; rw [(bI_0 _).mp h63]; exact Bool.and_false _)
            have := ih (k + 1) (by omega) (by omega)
            rw [e] at this
            exact this _
          · skip
            refine g_iload_4 C dX6_leastProof_66 rfl ?_
            refine g_istore_2 C rfl dX6_leastProof_68 rfl ?_
            refine g_iload_5 C dX6_leastProof_69 rfl ?_
            refine g_istore_3 C rfl dX6_leastProof_71 rfl ?_
            refine g_iinc_4 (z := 1) C rfl dX6_leastProof_72 rfl (by decide) ?_
            refine g_goto (tgt := 25) C dX6_leastProof_75 (by decide) ?_
            have hk : k ≤ A := by have := n_nlt (a := A) (b := k) h31 (by omega) (by omega); omega
            rw [nI_1]
            have hp : (tpP S t z nr s) k = true := by unfold tpP; rw [nf_t (fun q => h47 ((bI_0 _).mpr q)), nf_t (fun q => h63 ((bI_0 _).mpr q))]; rfl
            have e := bst_take (P := (tpP S t z nr s)) hp h53
            have := ih (k + 1) (by omega) (by omega)
            rw [e] at this
            exact this _

noncomputable def tpV (S : Mem) (t z nr A : Nat) (s : Int32) : Int32 := if hasB (clo nr (mA S (t + 2)) (mA S (t + 3)) (mI S z 2) (mI S z 1)) s = true then stB (nI A) (bstF (tpP S t z nr s) cw (A + 1)) else -1
set_option maxHeartbeats 4000000 in
set_option maxRecDepth 20000 in
theorem ok_X6_leastProof (s : Int32) (z t : Nat) (S : Mem) (hZ : mK S z = 6) (hZt : mR S z 0 = some t) (hW : TwK S t) (nr : Nat) (hnr : mI S t 4 = nI nr) (hT : Tn nr (mA S (t + 2))) (A : Nat) (hA : mI S z 2 = nI A) (hA2 : A < 2 ^ nr) : Ok yX6_leastProof cX6_leastProof 6 (some .int) 3 0 0 [.ref z, .int s] S (RI (tpV S t z nr A s) S) := by
  refine Ok.of (by decide) (Nat.le_of_ble_eq_true rfl) rfl (fun κ C hx => ?_)
  have C : Cx RX6 cX6_leastProof 6 (some .int) 3 false _ κ := C
  refine g_aload_0 C dX6_leastProof_0 rfl ?_
  refine g_aload_0 C dX6_leastProof_1 rfl ?_
  refine g_getiD C 2 dX6_leastProof_2 rfl hZ (by decide) (by decide) rfl fl_X6_19 ?_
  refine g_iload_1 C dX6_leastProof_5 rfl ?_
  refine g_cD2i C dX6_leastProof_6 rfl ml_X6_32 mz_X6_concludesBy (ok_X6_concludesBy _ _ z t S hZ hZt hW nr hnr hT) (by decide) rfl rfl hZ (by decide) rfl (Nat.le_of_ble_eq_true rfl) (fun hn6 => ?_)
  refine g_if_ne (tgt := 14) C dX6_leastProof_9 rfl (by decide) (fun h9 => ?_) (fun h9 => ?_)
  · skip
    refine g_aload_0 C dX6_leastProof_14 rfl ?_
    refine g_getiD C 2 dX6_leastProof_15 rfl hZ (by decide) (by decide) rfl fl_X6_19 ?_
    refine g_istore_2 C rfl dX6_leastProof_18 rfl ?_
    refine g_bipush (v := 11) C dX6_leastProof_19 rfl (by decide) ?_
    refine g_istore_3 C rfl dX6_leastProof_21 rfl ?_
    refine g_iconst (v := 0) C dX6_leastProof_22 rfl (by decide) ?_
    refine g_istore_4 C rfl dX6_leastProof_23 rfl ?_
    have e : tpV S t z nr A s = _ := if_pos (nf_t (fun q => h9 ((bI_0 _).mpr q)))
    rw [hA]
    exact lp_X6_leastProof C z t S hZ hZt hW nr hnr hT A hA hA2 s ⟨by rw [e], rfl⟩ (A + 2) 0 (Nat.zero_le _) (by omega) _
  · skip
    refine g_iconst (v := -1) C dX6_leastProof_12 rfl (by decide) ?_
    exact g_iret C rfl dX6_leastProof_13 ⟨by unfold tpV; rw [if_neg (by rw [(bI_0 _).mp h9]; decide)], rfl⟩

noncomputable def tbP (S : Mem) (t z nr : Nat) (s : Int32) (k : Nat) : Bool := subB (nI k) (mI S z 2) && !hasB (clo nr (mA S (t + 2)) (mA S (t + 3)) ((mI S z 2) &&& (nI k ^^^ (-1))) (mI S z 1)) s
set_option maxHeartbeats 4000000 in
set_option maxRecDepth 20000 in
theorem lp_X6_fewestBars {κ : Kx} {Φ : Option Value → Mem → Prop} (C : Cx RX6 cX6_fewestBars 6 (some .int) 3 false Φ κ) (z t : Nat) (S : Mem) (hZ : mK S z = 6) (hZt : mR S z 0 = some t) (hW : TwK S t) (nr : Nat) (hnr : mI S t 4 = nI nr) (hT : Tn nr (mA S (t + 2))) (A : Nat) (hA : mI S z 2 = nI A) (hA2 : A < 2 ^ nr) (s : Int32) (hΦ : Φ (some (.int (stB (nI A) (bstF (tbP S t z nr s) cw (A + 1))))) S) : ∀ (n k : Nat), k ≤ A + 1 → A + 2 ≤ k + n → ∀ v5 : Value, G κ 0 0 S 24 [.ref z, .int s, .int (stB (nI A) (bstF (tbP S t z nr s) cw k)), .int (stW 11 cw (bstF (tbP S t z nr s) cw k)), .int (nI k), v5] [] := by
  have h10 := pw10 hT.1
  intro n
  induction n with
  | zero => intro k h1 h2; exact absurd h2 (by omega)
  | succ n ih =>
    intro k hk1 hk2 v5
    refine g_iload_4 C dX6_fewestBars_24 rfl ?_
    refine g_aload_0 C dX6_fewestBars_26 rfl ?_
    refine g_getiD C 2 dX6_fewestBars_27 rfl hZ (by decide) (by decide) rfl fl_X6_19 ?_
    rw [hA]
    refine g_icmp_gt (tgt := 84) C dX6_fewestBars_30 rfl (by decide) (fun h30 => ?_) (fun h30 => ?_)
    · skip
      have hk : k = A + 1 := by have := n_lt' (a := A) (b := k) h30 (by omega) (by omega); omega
      rw [hk]
      refine g_iload_2 C dX6_fewestBars_84 rfl ?_
      exact g_iret C rfl dX6_fewestBars_85 hΦ
    · skip
      refine g_iload_4 C dX6_fewestBars_33 rfl ?_
      refine g_cS1i C dX6_fewestBars_35 rfl ml_X6_35 mz_J6_bitCount_0f7a4 (ok_J6_bitCount _ S) (by decide) rfl rfl (Nat.le_of_ble_eq_true rfl) (fun hn35 => ?_)
      rw [bcI_cw k (by have := n_nlt (a := A) (b := k) h30 (by omega) (by omega); omega)]
      refine g_istore_5 C rfl dX6_fewestBars_38 rfl ?_
      refine g_aload_0 C dX6_fewestBars_40 rfl ?_
      refine g_iload_4 C dX6_fewestBars_41 rfl ?_
      refine g_cD1i C dX6_fewestBars_43 rfl ml_X6_41 mz_X6_isAllowed (ok_X6_isAllowed _ z S hZ) (by decide) rfl rfl hZ (by decide) rfl (Nat.le_of_ble_eq_true rfl) (fun hn43 => ?_)
      refine g_if_eq (tgt := 78) C dX6_fewestBars_46 rfl (by decide) (fun h46 => ?_) (fun h46 => ?_)
      · skip
        refine g_iinc_4 (z := 1) C rfl dX6_fewestBars_78 rfl (by decide) ?_
        refine g_goto (tgt := 24) C dX6_fewestBars_81 (by decide) ?_
        have hk : k ≤ A := by have := n_nlt (a := A) (b := k) h30 (by omega) (by omega); omega
        rw [nI_1]
        have e := bstF_s0 (P := (tbP S t z nr s)) (wt := cw) (show (tbP S t z nr s) k = false by unfold tbP; rw [(bI_0 _).mp h46, Bool.false_and])
        have := ih (k + 1) (by omega) (by omega)
        rw [e] at this
        exact this _
      · skip
        refine g_iload_5 C dX6_fewestBars_49 rfl ?_
        refine g_iload_3 C dX6_fewestBars_51 rfl ?_
        refine g_icmp_ge (tgt := 78) C dX6_fewestBars_52 rfl (by decide) (fun h52 => ?_) (fun h52 => ?_)
        · skip
          refine g_iinc_4 (z := 1) C rfl dX6_fewestBars_78 rfl (by decide) ?_
          refine g_goto (tgt := 24) C dX6_fewestBars_81 (by decide) ?_
          have hk : k ≤ A := by have := n_nlt (a := A) (b := k) h30 (by omega) (by omega); omega
          rw [nI_1]
          have e := bst_keep (P := (tbP S t z nr s)) (cw_11 k (by omega)) h52
          have := ih (k + 1) (by omega) (by omega)
          rw [e] at this
          exact this _
        · skip
          refine g_aload_0 C dX6_fewestBars_55 rfl ?_
          refine g_aload_0 C dX6_fewestBars_56 rfl ?_
          refine g_getiD C 2 dX6_fewestBars_57 rfl hZ (by decide) (by decide) rfl fl_X6_19 ?_
          refine g_iload_4 C dX6_fewestBars_60 rfl ?_
          refine g_iconst (v := -1) C dX6_fewestBars_62 rfl (by decide) ?_
          refine g_ixor C dX6_fewestBars_63 rfl ?_
          refine g_iand C dX6_fewestBars_64 rfl ?_
          refine g_iload_1 C dX6_fewestBars_65 rfl ?_
          refine g_cD2i C dX6_fewestBars_66 rfl ml_X6_32 mz_X6_concludesBy (ok_X6_concludesBy _ _ z t S hZ hZt hW nr hnr hT) (by decide) rfl rfl hZ (by decide) rfl (Nat.le_of_ble_eq_true rfl) (fun hn66 => ?_)
          refine g_if_ne (tgt := 78) C dX6_fewestBars_69 rfl (by decide) (fun h69 => ?_) (fun h69 => ?_)
          · skip
            refine g_iinc_4 (z := 1) C rfl dX6_fewestBars_78 rfl (by decide) ?_
            refine g_goto (tgt := 24) C dX6_fewestBars_81 (by decide) ?_
            have hk : k ≤ A := by have := n_nlt (a := A) (b := k) h30 (by omega) (by omega); omega
            rw [nI_1]
            have e := bstF_s0 (P := (tbP S t z nr s)) (wt := cw) (show (tbP S t z nr s) k = false by unfold tbP; rw [nf_t (fun q => h69 ((bI_0 _).mpr q))]; exact Bool.and_false _)
            have := ih (k + 1) (by omega) (by omega)
            rw [e] at this
            exact this _
          · skip
            refine g_iload_4 C dX6_fewestBars_72 rfl ?_
            refine g_istore_2 C rfl dX6_fewestBars_74 rfl ?_
            refine g_iload_5 C dX6_fewestBars_75 rfl ?_
            refine g_istore_3 C rfl dX6_fewestBars_77 rfl ?_
            refine g_iinc_4 (z := 1) C rfl dX6_fewestBars_78 rfl (by decide) ?_
            refine g_goto (tgt := 24) C dX6_fewestBars_81 (by decide) ?_
            have hk : k ≤ A := by have := n_nlt (a := A) (b := k) h30 (by omega) (by omega); omega
            rw [nI_1]
            have hp : (tbP S t z nr s) k = true := by unfold tbP; rw [nf_t (fun q => h46 ((bI_0 _).mpr q)), (bI_0 _).mp h69]; rfl
            have e := bst_take (P := (tbP S t z nr s)) hp h52
            have := ih (k + 1) (by omega) (by omega)
            rw [e] at this
            exact this _

noncomputable def tbV (S : Mem) (t z nr A : Nat) (s : Int32) : Int32 := if hasB (mI S z 1) s = true then -1 else stB (nI A) (bstF (tbP S t z nr s) cw (A + 1))
set_option maxHeartbeats 4000000 in
set_option maxRecDepth 20000 in
theorem ok_X6_fewestBars (s : Int32) (z t : Nat) (S : Mem) (hZ : mK S z = 6) (hZt : mR S z 0 = some t) (hW : TwK S t) (nr : Nat) (hnr : mI S t 4 = nI nr) (hT : Tn nr (mA S (t + 2))) (A : Nat) (hA : mI S z 2 = nI A) (hA2 : A < 2 ^ nr) : Ok yX6_fewestBars cX6_fewestBars 6 (some .int) 3 0 0 [.ref z, .int s] S (RI (tbV S t z nr A s) S) := by
  refine Ok.of (by decide) (Nat.le_of_ble_eq_true rfl) rfl (fun κ C hx => ?_)
  have C : Cx RX6 cX6_fewestBars 6 (some .int) 3 false _ κ := C
  refine g_aload_0 C dX6_fewestBars_0 rfl ?_
  refine g_getiD C 1 dX6_fewestBars_1 rfl hZ (by decide) (by decide) rfl fl_X6_15 ?_
  refine g_iload_1 C dX6_fewestBars_4 rfl ?_
  refine g_cN2i C dX6_fewestBars_5 rfl nl_X6_28 mz_X7_has (ok_X7_has _ _ S) (by decide) rfl rfl (Nat.le_of_ble_eq_true rfl) (fun hn5 => ?_)
  refine g_if_eq (tgt := 13) C dX6_fewestBars_8 rfl (by decide) (fun h8 => ?_) (fun h8 => ?_)
  · skip
    refine g_aload_0 C dX6_fewestBars_13 rfl ?_
    refine g_getiD C 2 dX6_fewestBars_14 rfl hZ (by decide) (by decide) rfl fl_X6_19 ?_
    refine g_istore_2 C rfl dX6_fewestBars_17 rfl ?_
    refine g_bipush (v := 11) C dX6_fewestBars_18 rfl (by decide) ?_
    refine g_istore_3 C rfl dX6_fewestBars_20 rfl ?_
    refine g_iconst (v := 0) C dX6_fewestBars_21 rfl (by decide) ?_
    refine g_istore_4 C rfl dX6_fewestBars_22 rfl ?_
    have e : tbV S t z nr A s = _ := if_neg (by rw [(bI_0 _).mp h8]; decide)
    rw [hA]
    exact lp_X6_fewestBars C z t S hZ hZt hW nr hnr hT A hA hA2 s ⟨by rw [e], rfl⟩ (A + 2) 0 (Nat.zero_le _) (by omega) _
  · skip
    refine g_iconst (v := -1) C dX6_fewestBars_11 rfl (by decide) ?_
    exact g_iret C rfl dX6_fewestBars_12 ⟨by unfold tbV; rw [if_pos (nf_t (fun q => h8 ((bI_0 _).mpr q)))], rfl⟩

noncomputable def tgP (S : Mem) (t z nr th : Nat) (k : Nat) : Bool := subB (nI k) (mI S z 2) && decide (qcF (clo nr (mA S (t + 2)) (mA S (t + 3)) ((mI S z 2) &&& (nI k ^^^ (-1))) (mI S z 1)) th = 0)
def tgW (S : Mem) (t nr k : Nat) : Int32 := cstF (mA S (t + 1)) (nI k) nr
theorem tgW_lt {S : Mem} {t nr : Nat} (hC : Cs nr (mA S (t + 1))) (h10 : nr ≤ 10) (k : Nat) : tgW S t nr k < 991 := by
  obtain ⟨c, hc, e⟩ := cst_small hC (nI k) nr (Nat.le_refl nr)
  unfold tgW
  rw [e]
  exact nI_lt (b := 991) (by omega) (by decide)
set_option maxHeartbeats 4000000 in
set_option maxRecDepth 20000 in
theorem lp_X6_cheapestPeace {κ : Kx} {Φ : Option Value → Mem → Prop} (C : Cx RX6 cX6_cheapestPeace 4 (some .int) 3 false Φ κ) (z t : Nat) (S : Mem) (hZ : mK S z = 6) (hZt : mR S z 0 = some t) (hW : TwK S t) (nr : Nat) (hnr : mI S t 4 = nI nr) (hT : Tn nr (mA S (t + 2))) (th : Nat) (hth : mI S t 3 = nI th) (h8 : th ≤ 8) (A : Nat) (hA : mI S z 2 = nI A) (hA2 : A < 2 ^ nr) (hC : Cs nr (mA S (t + 1))) (hΦ : Φ (some (.int (stB (nI A) (bstF (tgP S t z nr th) (tgW S t nr) (A + 1))))) S) : ∀ (n k : Nat), k ≤ A + 1 → A + 2 ≤ k + n → G κ 0 0 S 27 [.ref z, .int (stB (nI A) (bstF (tgP S t z nr th) (tgW S t nr) k)), .int (stW 991 (tgW S t nr) (bstF (tgP S t z nr th) (tgW S t nr) k)), .int (nI k)] [] := by
  have h10 := pw10 hT.1
  intro n
  induction n with
  | zero => intro k h1 h2; exact absurd h2 (by omega)
  | succ n ih =>
    intro k hk1 hk2
    refine g_iload_3 C dX6_cheapestPeace_27 rfl ?_
    refine g_aload_0 C dX6_cheapestPeace_28 rfl ?_
    refine g_getiD C 2 dX6_cheapestPeace_29 rfl hZ (by decide) (by decide) rfl fl_X6_19 ?_
    rw [hA]
    refine g_icmp_gt (tgt := 80) C dX6_cheapestPeace_32 rfl (by decide) (fun h32 => ?_) (fun h32 => ?_)
    · skip
      have hk : k = A + 1 := by have := n_lt' (a := A) (b := k) h32 (by omega) (by omega); omega
      rw [hk]
      refine g_iload_1 C dX6_cheapestPeace_80 rfl ?_
      exact g_iret C rfl dX6_cheapestPeace_81 hΦ
    · skip
      refine g_aload_0 C dX6_cheapestPeace_35 rfl ?_
      refine g_iload_3 C dX6_cheapestPeace_36 rfl ?_
      refine g_cD1i C dX6_cheapestPeace_37 rfl ml_X6_41 mz_X6_isAllowed (ok_X6_isAllowed _ z S hZ) (by decide) rfl rfl hZ (by decide) rfl (Nat.le_of_ble_eq_true rfl) (fun hn37 => ?_)
      refine g_if_eq (tgt := 74) C dX6_cheapestPeace_40 rfl (by decide) (fun h40 => ?_) (fun h40 => ?_)
      · skip
        refine g_iinc_3 (z := 1) C rfl dX6_cheapestPeace_74 rfl (by decide) ?_
        refine g_goto (tgt := 27) C dX6_cheapestPeace_77 (by decide) ?_
        have hk : k ≤ A := by have := n_nlt (a := A) (b := k) h32 (by omega) (by omega); omega
        rw [nI_1]
        have e := bstF_s0 (P := (tgP S t z nr th)) (wt := (tgW S t nr)) (show (tgP S t z nr th) k = false by unfold tgP; rw [(bI_0 _).mp h40, Bool.false_and])
        have := ih (k + 1) (by omega) (by omega)
        rw [e] at this
        exact this
      · skip
        refine g_aload_0 C dX6_cheapestPeace_43 rfl ?_
        refine g_getrD C 0 dX6_cheapestPeace_44 rfl hZ (by decide) (by decide) rfl fl_X6_9 hZt ?_
        refine g_iload_3 C dX6_cheapestPeace_47 rfl ?_
        refine g_cD1i C dX6_cheapestPeace_48 rfl ml_X6_48 mz_X4_costOf (ok_X4_costOf _ t S hW nr hnr hT.1) (by decide) rfl rfl hW.1 (by decide) rfl (Nat.le_of_ble_eq_true rfl) (fun hn48 => ?_)
        refine g_iload_2 C dX6_cheapestPeace_51 rfl ?_
        refine g_icmp_ge (tgt := 74) C dX6_cheapestPeace_52 rfl (by decide) (fun h52 => ?_) (fun h52 => ?_)
        · skip
          refine g_iinc_3 (z := 1) C rfl dX6_cheapestPeace_74 rfl (by decide) ?_
          refine g_goto (tgt := 27) C dX6_cheapestPeace_77 (by decide) ?_
          have hk : k ≤ A := by have := n_nlt (a := A) (b := k) h32 (by omega) (by omega); omega
          rw [nI_1]
          have e := bst_keep (P := (tgP S t z nr th)) (tgW_lt hC hT.1 k) h52
          have := ih (k + 1) (by omega) (by omega)
          rw [e] at this
          exact this
        · skip
          refine g_aload_0 C dX6_cheapestPeace_55 rfl ?_
          refine g_iload_3 C dX6_cheapestPeace_56 rfl ?_
          refine g_cD1i C dX6_cheapestPeace_57 rfl ml_X6_51 mz_X6_isPeaceWithout (ok_X6_isPeaceWithout _ z t S hZ hZt hW nr hnr hT th hth h8) (by decide) rfl rfl hZ (by decide) rfl (Nat.le_of_ble_eq_true rfl) (fun hn57 => ?_)
          refine g_if_eq (tgt := 74) C dX6_cheapestPeace_60 rfl (by decide) (fun h60 => ?_) (fun h60 => ?_)
          · skip
            refine g_iinc_3 (z := 1) C rfl dX6_cheapestPeace_74 rfl (by decide) ?_
            refine g_goto (tgt := 27) C dX6_cheapestPeace_77 (by decide) ?_
            have hk : k ≤ A := by have := n_nlt (a := A) (b := k) h32 (by omega) (by omega); omega
            rw [nI_1]
            have e := bstF_s0 (P := (tgP S t z nr th)) (wt := (tgW S t nr)) (show (tgP S t z nr th) k = false by unfold tgP; rw [(bI_0 _).mp h60]; exact Bool.and_false _)
            have := ih (k + 1) (by omega) (by omega)
            rw [e] at this
            exact this
          · skip
            refine g_iload_3 C dX6_cheapestPeace_63 rfl ?_
            refine g_istore_1 C rfl dX6_cheapestPeace_64 rfl ?_
            refine g_aload_0 C dX6_cheapestPeace_65 rfl ?_
            refine g_getrD C 0 dX6_cheapestPeace_66 rfl hZ (by decide) (by decide) rfl fl_X6_9 hZt ?_
            refine g_iload_3 C dX6_cheapestPeace_69 rfl ?_
            refine g_cD1i C dX6_cheapestPeace_70 rfl ml_X6_48 mz_X4_costOf (ok_X4_costOf _ t S hW nr hnr hT.1) (by decide) rfl rfl hW.1 (by decide) rfl (Nat.le_of_ble_eq_true rfl) (fun hn70 => ?_)
            refine g_istore_2 C rfl dX6_cheapestPeace_73 rfl ?_
            refine g_iinc_3 (z := 1) C rfl dX6_cheapestPeace_74 rfl (by decide) ?_
            refine g_goto (tgt := 27) C dX6_cheapestPeace_77 (by decide) ?_
            have hk : k ≤ A := by have := n_nlt (a := A) (b := k) h32 (by omega) (by omega); omega
            rw [nI_1]
            have hp : (tgP S t z nr th) k = true := by unfold tgP; rw [nf_t (fun q => h40 ((bI_0 _).mpr q)), nf_t (fun q => h60 ((bI_0 _).mpr q))]; rfl
            have e := bst_take (P := (tgP S t z nr th)) hp h52
            have := ih (k + 1) (by omega) (by omega)
            rw [e] at this
            exact this

noncomputable def tgV (S : Mem) (t z nr th A : Nat) : Int32 := if qcF (mI S z 1) th = 0 then stB (nI A) (bstF (tgP S t z nr th) (tgW S t nr) (A + 1)) else -1
set_option maxHeartbeats 4000000 in
set_option maxRecDepth 20000 in
theorem ok_X6_cheapestPeace (z t : Nat) (S : Mem) (hZ : mK S z = 6) (hZt : mR S z 0 = some t) (hW : TwK S t) (nr : Nat) (hnr : mI S t 4 = nI nr) (hT : Tn nr (mA S (t + 2))) (th : Nat) (hth : mI S t 3 = nI th) (h8 : th ≤ 8) (A : Nat) (hA : mI S z 2 = nI A) (hA2 : A < 2 ^ nr) (hC : Cs nr (mA S (t + 1))) : Ok yX6_cheapestPeace cX6_cheapestPeace 4 (some .int) 3 0 0 [.ref z] S (RI (tgV S t z nr th A) S) := by
  refine Ok.of (by decide) (Nat.le_of_ble_eq_true rfl) rfl (fun κ C hx => ?_)
  have C : Cx RX6 cX6_cheapestPeace 4 (some .int) 3 false _ κ := C
  refine g_aload_0 C dX6_cheapestPeace_0 rfl ?_
  refine g_getrD C 0 dX6_cheapestPeace_1 rfl hZ (by decide) (by decide) rfl fl_X6_9 hZt ?_
  refine g_aload_0 C dX6_cheapestPeace_4 rfl ?_
  refine g_getiD C 1 dX6_cheapestPeace_5 rfl hZ (by decide) (by decide) rfl fl_X6_15 ?_
  refine g_cD1i C dX6_cheapestPeace_8 rfl ml_X6_45 mz_X4_quarrelsIn (ok_X4_quarrelsIn _ t S hW th hth h8) (by decide) rfl rfl hW.1 (by decide) rfl (Nat.le_of_ble_eq_true rfl) (fun hn8 => ?_)
  refine g_if_eq (tgt := 16) C dX6_cheapestPeace_11 rfl (by decide) (fun h11 => ?_) (fun h11 => ?_)
  · skip
    refine g_aload_0 C dX6_cheapestPeace_16 rfl ?_
    refine g_getiD C 2 dX6_cheapestPeace_17 rfl hZ (by decide) (by decide) rfl fl_X6_19 ?_
    refine g_istore_1 C rfl dX6_cheapestPeace_20 rfl ?_
    refine g_sipush (v := 991) C dX6_cheapestPeace_21 rfl (by decide) ?_
    refine g_istore_2 C rfl dX6_cheapestPeace_24 rfl ?_
    refine g_iconst (v := 0) C dX6_cheapestPeace_25 rfl (by decide) ?_
    refine g_istore_3 C rfl dX6_cheapestPeace_26 rfl ?_
    have e : tgV S t z nr th A = _ := if_pos h11
    rw [hA]
    exact lp_X6_cheapestPeace C z t S hZ hZt hW nr hnr hT th hth h8 A hA hA2 hC ⟨by rw [e], rfl⟩ (A + 2) 0 (Nat.zero_le _) (by omega)
  · skip
    refine g_iconst (v := -1) C dX6_cheapestPeace_14 rfl (by decide) ?_
    exact g_iret C rfl dX6_cheapestPeace_15 ⟨by unfold tgV; rw [if_neg h11], rfl⟩

