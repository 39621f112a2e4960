theorem kN_at {M : Mem} {k n : Nat} (h : mN M = n) : mK (sN M k) n = k := by rw [← h]; exact mK_sN
theorem kN_ne {M : Mem} {k n p : Nat} (h : mN M = n) (hp : p ≠ n) : mK (sN M k) p = mK M p := by rw [← h] at hp; exact u1_ne _ _ hp
theorem qN_sN (S : Mem) (k : Nat) : mN (sN S k) = mN S + 1 := rfl
def i5S0 (M : Mem) : Mem := sI (sI (sI (sI (sI (sR (sN M 1060) 1 0 (some (2))) 1 1 (0)) 1 2 (0)) 1 3 (0)) 1 4 (0)) 1 5 (-1)
theorem nN_i5S0 (M : Mem) : mN (i5S0 M) = mN M + 1 := rfl
set_option maxHeartbeats 4000000 in
set_option maxRecDepth 20000 in
theorem sg_X5_init_0 {κ : Kx} {Φ : Option Value → Mem → Prop} (C : Cx RX5 cX5_init 1 none 1 true Φ κ) (M : Mem) (hN : mN M = 2) (K : G κ 0 0 (i5S0 M) 38 [.ref 1] []) : G κ 1 240 M 4 [.ref 1] [] := by
  refine g_aload_0 C dX5_init_4 rfl ?_
  refine g_sipush (v := 240) C dX5_init_5 rfl (by decide) ?_
  refine g_newi (rc := 0) (rs := 0) C 240 dX5_init_8 rfl (by decide) (by decide) (by decide) (fun h => by rw [hN]; rfl) ?_
  rw [hN]
  refine g_putr C 0 dX5_init_10 rfl rfl rfl (Or.inr ⟨rfl, rfl, rfl⟩) fl_X5_9 ?_
  refine g_aload_0 C dX5_init_13 rfl ?_
  refine g_iconst (v := 0) C dX5_init_14 rfl (by decide) ?_
  refine g_puti C 1 dX5_init_15 rfl rfl rfl (Or.inl rfl) fl_X5_15 ?_
  refine g_aload_0 C dX5_init_18 rfl ?_
  refine g_iconst (v := 0) C dX5_init_19 rfl (by decide) ?_
  refine g_puti C 2 dX5_init_20 rfl rfl rfl (Or.inl rfl) fl_X5_19 ?_
  refine g_aload_0 C dX5_init_23 rfl ?_
  refine g_iconst (v := 0) C dX5_init_24 rfl (by decide) ?_
  refine g_puti C 3 dX5_init_25 rfl rfl rfl (Or.inl rfl) fl_X5_22 ?_
  refine g_aload_0 C dX5_init_28 rfl ?_
  refine g_iconst (v := 0) C dX5_init_29 rfl (by decide) ?_
  refine g_puti C 4 dX5_init_30 rfl rfl rfl (Or.inl rfl) fl_X5_25 ?_
  refine g_aload_0 C dX5_init_33 rfl ?_
  refine g_iconst (v := -1) C dX5_init_34 rfl (by decide) ?_
  refine g_puti C 5 dX5_init_35 rfl rfl rfl (Or.inl rfl) fl_X5_28 ?_
  exact K

def i5S (M : Mem) : Mem := i5S0 (M)
set_option maxHeartbeats 4000000 in
set_option maxRecDepth 20000 in
theorem ok_X5_init (M : Mem)  (hN : mN M = 2) : Ok yX5_init cX5_init 1 none 1 1 240 [.ref 1] M (RV (i5S M)) := by
  refine Ok.of (by decide) (Nat.le_of_ble_eq_true rfl) rfl (fun κ C hx => ?_)
  have C : Cx RX5 cX5_init 1 none 1 true _ κ := C
  refine g_aload_0 C dX5_init_0 rfl ?_
  refine g_objInit C dX5_init_1 rfl ml_X5_3 (by decide) (Nat.le_of_ble_eq_true rfl) ?_
  refine sg_X5_init_0 C (M) hN ?_
  exact g_vret C rfl dX5_init_38 ⟨rfl, rfl⟩

def i1S0 (M : Mem) : Mem := sI (sR (sN M 183) 3 0 (some (4))) 3 1 (0)
theorem nN_i1S0 (M : Mem) : mN (i1S0 M) = mN M + 1 := rfl
set_option maxHeartbeats 4000000 in
set_option maxRecDepth 20000 in
theorem sg_X1_init_0 {κ : Kx} {Φ : Option Value → Mem → Prop} (C : Cx RX1 cX1_init 1 none 1 true Φ κ) (M : Mem) (hN : mN M = 4) (K : G κ 0 0 (i1S0 M) 18 [.ref 3] []) : G κ 1 20 M 4 [.ref 3] [] := by
  refine g_aload_0 C dX1_init_4 rfl ?_
  refine g_bipush (v := 20) C dX1_init_5 rfl (by decide) ?_
  refine g_newq (rc := 0) (rs := 0) C 20 dX1_init_7 rfl cl_X1_9 (by decide) (by decide) (by decide) (fun h => by rw [hN]; rfl) ?_
  rw [hN]
  refine g_putr C 0 dX1_init_10 rfl rfl rfl (Or.inr ⟨rfl, rfl, rfl⟩) fl_X1_11 ?_
  refine g_aload_0 C dX1_init_13 rfl ?_
  refine g_iconst (v := 0) C dX1_init_14 rfl (by decide) ?_
  refine g_puti C 1 dX1_init_15 rfl rfl rfl (Or.inl rfl) fl_X1_17 ?_
  exact K

def i1S (M : Mem) : Mem := i1S0 (M)
set_option maxHeartbeats 4000000 in
set_option maxRecDepth 20000 in
theorem ok_X1_init (M : Mem)  (hN : mN M = 4) : Ok yX1_init cX1_init 1 none 1 1 20 [.ref 3] M (RV (i1S M)) := by
  refine Ok.of (by decide) (Nat.le_of_ble_eq_true rfl) rfl (fun κ C hx => ?_)
  have C : Cx RX1 cX1_init 1 none 1 true _ κ := C
  refine g_aload_0 C dX1_init_0 rfl ?_
  refine g_objInit C dX1_init_1 rfl ml_X1_3 (by decide) (Nat.le_of_ble_eq_true rfl) ?_
  refine sg_X1_init_0 C (M) hN ?_
  exact g_vret C rfl dX1_init_18 ⟨rfl, rfl⟩

def i3S0 (M : Mem) : Mem := sR (sN M 124) 5 0 (some (6))
theorem nN_i3S0 (M : Mem) : mN (i3S0 M) = mN M + 1 := rfl
set_option maxHeartbeats 4000000 in
set_option maxRecDepth 20000 in
theorem sg_X3_init_0 {κ : Kx} {Φ : Option Value → Mem → Prop} (C : Cx RX3 cX3_init 1 none 1 true Φ κ) (M : Mem) (hN : mN M = 6) (K : G κ 2 12 (i3S0 M) 12 [.ref 5] []) : G κ 3 18 M 4 [.ref 5] [] := by
  refine g_aload_0 C dX3_init_4 rfl ?_
  refine g_bipush (v := 6) C dX3_init_5 rfl (by decide) ?_
  refine g_newi (rc := 2) (rs := 12) C 6 dX3_init_7 rfl (by decide) (by decide) (by decide) (fun h => by rw [hN]; rfl) ?_
  rw [hN]
  refine g_putr C 0 dX3_init_9 rfl rfl rfl (Or.inr ⟨rfl, rfl, rfl⟩) fl_X3_9 ?_
  exact K

def i3S1 (M : Mem) : Mem := sR (sN M 124) 5 1 (some (7))
theorem nN_i3S1 (M : Mem) : mN (i3S1 M) = mN M + 1 := rfl
set_option maxHeartbeats 4000000 in
set_option maxRecDepth 20000 in
theorem sg_X3_init_1 {κ : Kx} {Φ : Option Value → Mem → Prop} (C : Cx RX3 cX3_init 1 none 1 true Φ κ) (M : Mem) (hN : mN M = 7) (K : G κ 1 6 (i3S1 M) 20 [.ref 5] []) : G κ 2 12 M 12 [.ref 5] [] := by
  refine g_aload_0 C dX3_init_12 rfl ?_
  refine g_bipush (v := 6) C dX3_init_13 rfl (by decide) ?_
  refine g_newi (rc := 1) (rs := 6) C 6 dX3_init_15 rfl (by decide) (by decide) (by decide) (fun h => by rw [hN]; rfl) ?_
  rw [hN]
  refine g_putr C 1 dX3_init_17 rfl rfl rfl (Or.inr ⟨rfl, rfl, rfl⟩) fl_X3_15 ?_
  exact K

def i3S2 (M : Mem) : Mem := sI (sR (sN M 125) 5 2 (some (8))) 5 3 (0)
theorem nN_i3S2 (M : Mem) : mN (i3S2 M) = mN M + 1 := rfl
set_option maxHeartbeats 4000000 in
set_option maxRecDepth 20000 in
theorem sg_X3_init_2 {κ : Kx} {Φ : Option Value → Mem → Prop} (C : Cx RX3 cX3_init 1 none 1 true Φ κ) (M : Mem) (hN : mN M = 8) (K : G κ 0 0 (i3S2 M) 33 [.ref 5] []) : G κ 1 6 M 20 [.ref 5] [] := by
  refine g_aload_0 C dX3_init_20 rfl ?_
  refine g_bipush (v := 6) C dX3_init_21 rfl (by decide) ?_
  refine g_newz (rc := 0) (rs := 0) C 6 dX3_init_23 rfl (by decide) (by decide) (by decide) (fun h => by rw [hN]; rfl) ?_
  rw [hN]
  refine g_putr C 2 dX3_init_25 rfl rfl rfl (Or.inr ⟨rfl, rfl, rfl⟩) fl_X3_18 ?_
  refine g_aload_0 C dX3_init_28 rfl ?_
  refine g_iconst (v := 0) C dX3_init_29 rfl (by decide) ?_
  refine g_puti C 3 dX3_init_30 rfl rfl rfl (Or.inl rfl) fl_X3_22 ?_
  exact K

def i3S (M : Mem) : Mem := i3S2 (i3S1 (i3S0 (M)))
set_option maxHeartbeats 4000000 in
set_option maxRecDepth 20000 in
theorem ok_X3_init (M : Mem)  (hN : mN M = 6) : Ok yX3_init cX3_init 1 none 1 3 18 [.ref 5] M (RV (i3S M)) := by
  refine Ok.of (by decide) (Nat.le_of_ble_eq_true rfl) rfl (fun κ C hx => ?_)
  have C : Cx RX3 cX3_init 1 none 1 true _ κ := C
  refine g_aload_0 C dX3_init_0 rfl ?_
  refine g_objInit C dX3_init_1 rfl ml_X3_3 (by decide) (Nat.le_of_ble_eq_true rfl) ?_
  refine sg_X3_init_0 C (M) hN ?_
  have hN1 : mN (i3S0 (M)) = 7 := (nN_i3S0 (M)).trans (by rw [hN])
  refine sg_X3_init_1 C (i3S0 (M)) hN1 ?_
  have hN2 : mN (i3S1 (i3S0 (M))) = 8 := (nN_i3S1 (i3S0 (M))).trans (by rw [hN1])
  refine sg_X3_init_2 C (i3S1 (i3S0 (M))) hN2 ?_
  exact g_vret C rfl dX3_init_33 ⟨rfl, rfl⟩

def i0S0 (M : Mem) : Mem := sR (sN M 160) 9 0 (some (10))
theorem nN_i0S0 (M : Mem) : mN (i0S0 M) = mN M + 1 := rfl
set_option maxHeartbeats 4000000 in
set_option maxRecDepth 20000 in
theorem sg_X0_init_0 {κ : Kx} {Φ : Option Value → Mem → Prop} (C : Cx RX0 cX0_init 1 none 1 true Φ κ) (M : Mem) (hN : mN M = 10) (K : G κ 1 15 (i0S0 M) 12 [.ref 9] []) : G κ 2 30 M 4 [.ref 9] [] := by
  refine g_aload_0 C dX0_init_4 rfl ?_
  refine g_bipush (v := 15) C dX0_init_5 rfl (by decide) ?_
  refine g_newi (rc := 1) (rs := 15) C 15 dX0_init_7 rfl (by decide) (by decide) (by decide) (fun h => by rw [hN]; rfl) ?_
  rw [hN]
  refine g_putr C 0 dX0_init_9 rfl rfl rfl (Or.inr ⟨rfl, rfl, rfl⟩) fl_X0_9 ?_
  exact K

def i0S1 (M : Mem) : Mem := sI (sR (sN M 161) 9 1 (some (11))) 9 2 (0)
theorem nN_i0S1 (M : Mem) : mN (i0S1 M) = mN M + 1 := rfl
set_option maxHeartbeats 4000000 in
set_option maxRecDepth 20000 in
theorem sg_X0_init_1 {κ : Kx} {Φ : Option Value → Mem → Prop} (C : Cx RX0 cX0_init 1 none 1 true Φ κ) (M : Mem) (hN : mN M = 11) (K : G κ 0 0 (i0S1 M) 25 [.ref 9] []) : G κ 1 15 M 12 [.ref 9] [] := by
  refine g_aload_0 C dX0_init_12 rfl ?_
  refine g_bipush (v := 15) C dX0_init_13 rfl (by decide) ?_
  refine g_newz (rc := 0) (rs := 0) C 15 dX0_init_15 rfl (by decide) (by decide) (by decide) (fun h => by rw [hN]; rfl) ?_
  rw [hN]
  refine g_putr C 1 dX0_init_17 rfl rfl rfl (Or.inr ⟨rfl, rfl, rfl⟩) fl_X0_15 ?_
  refine g_aload_0 C dX0_init_20 rfl ?_
  refine g_iconst (v := 0) C dX0_init_21 rfl (by decide) ?_
  refine g_puti C 2 dX0_init_22 rfl rfl rfl (Or.inl rfl) fl_X0_19 ?_
  exact K

def i0S (M : Mem) : Mem := i0S1 (i0S0 (M))
set_option maxHeartbeats 4000000 in
set_option maxRecDepth 20000 in
theorem ok_X0_init (M : Mem)  (hN : mN M = 10) : Ok yX0_init cX0_init 1 none 1 2 30 [.ref 9] M (RV (i0S M)) := by
  refine Ok.of (by decide) (Nat.le_of_ble_eq_true rfl) rfl (fun κ C hx => ?_)
  have C : Cx RX0 cX0_init 1 none 1 true _ κ := C
  refine g_aload_0 C dX0_init_0 rfl ?_
  refine g_objInit C dX0_init_1 rfl ml_X0_3 (by decide) (Nat.le_of_ble_eq_true rfl) ?_
  refine sg_X0_init_0 C (M) hN ?_
  have hN1 : mN (i0S0 (M)) = 11 := (nN_i0S0 (M)).trans (by rw [hN])
  refine sg_X0_init_1 C (i0S0 (M)) hN1 ?_
  exact g_vret C rfl dX0_init_25 ⟨rfl, rfl⟩

def i4S0 (M : Mem) (t : Nat) : Mem := sR (sN M 140) t 0 (some (t + 1))
theorem nN_i4S0 (M : Mem) (t : Nat) : mN (i4S0 M t) = mN M + 1 := rfl
theorem nK_i4S0 (M : Mem) (t : Nat) : mK (i4S0 M t) = mK (sN M 140) := rfl
set_option maxHeartbeats 4000000 in
set_option maxRecDepth 20000 in
theorem sg_X4_init_0 {κ : Kx} {Φ : Option Value → Mem → Prop} (C : Cx RX4 cX4_init 1 none 1 true Φ κ) (M : Mem) (t : Nat) (hKt : mK M t = 4) (hk0 : K0 (t + 1) = 140) (hN : mN M = t + 1) (K : G κ 2 20 (i4S0 M t) 12 [.ref t] []) : G κ 3 30 M 4 [.ref t] [] := by
  refine g_aload_0 C dX4_init_4 rfl ?_
  refine g_bipush (v := 10) C dX4_init_5 rfl (by decide) ?_
  refine g_newi (rc := 2) (rs := 20) C 10 dX4_init_7 rfl (by decide) (by decide) (by decide) (fun h => by rw [hN]; exact hk0) ?_
  rw [hN]
  refine g_putrD (x := some _) C (j := 0) dX4_init_9 rfl ((kN_ne hN (by omega)).trans hKt) (by decide) (by decide) rfl (Or.inr ⟨rfl, rfl, rfl⟩) fl_X4_9 ?_
  exact K

def i4S1 (M : Mem) (t : Nat) : Mem := sR (sN M 140) t 1 (some (t + 2))
theorem nN_i4S1 (M : Mem) (t : Nat) : mN (i4S1 M t) = mN M + 1 := rfl
theorem nK_i4S1 (M : Mem) (t : Nat) : mK (i4S1 M t) = mK (sN M 140) := rfl
set_option maxHeartbeats 4000000 in
set_option maxRecDepth 20000 in
theorem sg_X4_init_1 {κ : Kx} {Φ : Option Value → Mem → Prop} (C : Cx RX4 cX4_init 1 none 1 true Φ κ) (M : Mem) (t : Nat) (hKt : mK M t = 4) (hk0 : K0 (t + 2) = 140) (hN : mN M = t + 2) (K : G κ 1 10 (i4S1 M t) 20 [.ref t] []) : G κ 2 20 M 12 [.ref t] [] := by
  refine g_aload_0 C dX4_init_12 rfl ?_
  refine g_bipush (v := 10) C dX4_init_13 rfl (by decide) ?_
  refine g_newi (rc := 1) (rs := 10) C 10 dX4_init_15 rfl (by decide) (by decide) (by decide) (fun h => by rw [hN]; exact hk0) ?_
  rw [hN]
  refine g_putrD (x := some _) C (j := 1) dX4_init_17 rfl ((kN_ne hN (by omega)).trans hKt) (by decide) (by decide) rfl (Or.inr ⟨rfl, rfl, rfl⟩) fl_X4_15 ?_
  exact K

def i4S2 (M : Mem) (t : Nat) : Mem := sI (sI (sI (sR (sN M 140) t 2 (some (t + 3))) t 3 (0)) t 4 (0)) t 5 (0)
theorem nN_i4S2 (M : Mem) (t : Nat) : mN (i4S2 M t) = mN M + 1 := rfl
theorem nK_i4S2 (M : Mem) (t : Nat) : mK (i4S2 M t) = mK (sN M 140) := rfl
set_option maxHeartbeats 4000000 in
set_option maxRecDepth 20000 in
theorem sg_X4_init_2 {κ : Kx} {Φ : Option Value → Mem → Prop} (C : Cx RX4 cX4_init 1 none 1 true Φ κ) (M : Mem) (t : Nat) (hKt : mK M t = 4) (hk0 : K0 (t + 3) = 140) (hN : mN M = t + 3) (K : G κ 0 0 (i4S2 M t) 43 [.ref t] []) : G κ 1 10 M 20 [.ref t] [] := by
  refine g_aload_0 C dX4_init_20 rfl ?_
  refine g_bipush (v := 10) C dX4_init_21 rfl (by decide) ?_
  refine g_newi (rc := 0) (rs := 0) C 10 dX4_init_23 rfl (by decide) (by decide) (by decide) (fun h => by rw [hN]; exact hk0) ?_
  rw [hN]
  refine g_putrD (x := some _) C (j := 2) dX4_init_25 rfl ((kN_ne hN (by omega)).trans hKt) (by decide) (by decide) rfl (Or.inr ⟨rfl, rfl, rfl⟩) fl_X4_18 ?_
  refine g_aload_0 C dX4_init_28 rfl ?_
  refine g_iconst (v := 0) C dX4_init_29 rfl (by decide) ?_
  refine g_putiD C (j := 3) dX4_init_30 rfl ((kN_ne hN (by omega)).trans hKt) (by decide) (by decide) rfl (Or.inl rfl) fl_X4_21 ?_
  refine g_aload_0 C dX4_init_33 rfl ?_
  refine g_iconst (v := 0) C dX4_init_34 rfl (by decide) ?_
  refine g_putiD C (j := 4) dX4_init_35 rfl ((kN_ne hN (by omega)).trans hKt) (by decide) (by decide) rfl (Or.inl rfl) fl_X4_25 ?_
  refine g_aload_0 C dX4_init_38 rfl ?_
  refine g_iconst (v := 0) C dX4_init_39 rfl (by decide) ?_
  refine g_putiD C (j := 5) dX4_init_40 rfl ((kN_ne hN (by omega)).trans hKt) (by decide) (by decide) rfl (Or.inl rfl) fl_X4_28 ?_
  exact K

def i4S (M : Mem) (t : Nat) : Mem := i4S2 (i4S1 (i4S0 (M) t) t) t
set_option maxHeartbeats 4000000 in
set_option maxRecDepth 20000 in
theorem ok_X4_init (M : Mem) (t : Nat) (hKt : mK M t = 4) (hk0 : K0 (t + 1) = 140) (hk1 : K0 (t + 2) = 140) (hk2 : K0 (t + 3) = 140) (hN : mN M = t + 1) : Ok yX4_init cX4_init 1 none 1 3 30 [.ref t] M (RV (i4S M t)) := by
  refine Ok.of (by decide) (Nat.le_of_ble_eq_true rfl) rfl (fun κ C hx => ?_)
  have C : Cx RX4 cX4_init 1 none 1 true _ κ := C
  refine g_aload_0 C dX4_init_0 rfl ?_
  refine g_objInit C dX4_init_1 rfl ml_X4_3 (by decide) (Nat.le_of_ble_eq_true rfl) ?_
  refine sg_X4_init_0 C (M) t hKt hk0 hN ?_
  have hN1 : mN (i4S0 (M) t) = t + 2 := (nN_i4S0 (M) t).trans (by rw [hN])
  have hKt1 : mK (i4S0 (M) t) t = 4 := by rw [nK_i4S0, kN_ne hN (by omega)]; exact hKt
  refine sg_X4_init_1 C (i4S0 (M) t) t hKt1 hk1 hN1 ?_
  have hN2 : mN (i4S1 (i4S0 (M) t) t) = t + 3 := (nN_i4S1 (i4S0 (M) t) t).trans (by rw [hN1])
  have hKt2 : mK (i4S1 (i4S0 (M) t) t) t = 4 := by rw [nK_i4S1, kN_ne hN1 (by omega)]; exact hKt1
  refine sg_X4_init_2 C (i4S1 (i4S0 (M) t) t) t hKt2 hk2 hN2 ?_
  exact g_vret C rfl dX4_init_43 ⟨rfl, rfl⟩

def i8S0 (M : Mem) : Mem := sR (sN M 140) 25 2 (some (26))
theorem nN_i8S0 (M : Mem) : mN (i8S0 M) = mN M + 1 := rfl
set_option maxHeartbeats 4000000 in
set_option maxRecDepth 20000 in
theorem sg_X8_init_0 {κ : Kx} {Φ : Option Value → Mem → Prop} (C : Cx RX8 cX8_init 1 none 1 true Φ κ) (M : Mem) (hN : mN M = 26) (K : G κ 17 460 (i8S0 M) 12 [.ref 25] []) : G κ 18 470 M 4 [.ref 25] [] := by
  refine g_aload_0 C dX8_init_4 rfl ?_
  refine g_bipush (v := 10) C dX8_init_5 rfl (by decide) ?_
  refine g_newi (rc := 17) (rs := 460) C 10 dX8_init_7 rfl (by decide) (by decide) (by decide) (fun h => by rw [hN]; rfl) ?_
  rw [hN]
  refine g_putr C 2 dX8_init_9 rfl rfl rfl (Or.inr ⟨rfl, rfl, rfl⟩) fl_X8_7 ?_
  exact K

def i8S1 (M : Mem) : Mem := sR (sN M 140) 25 3 (some (27))
theorem nN_i8S1 (M : Mem) : mN (i8S1 M) = mN M + 1 := rfl
set_option maxHeartbeats 4000000 in
set_option maxRecDepth 20000 in
theorem sg_X8_init_1 {κ : Kx} {Φ : Option Value → Mem → Prop} (C : Cx RX8 cX8_init 1 none 1 true Φ κ) (M : Mem) (hN : mN M = 27) (K : G κ 16 450 (i8S1 M) 20 [.ref 25] []) : G κ 17 460 M 12 [.ref 25] [] := by
  refine g_aload_0 C dX8_init_12 rfl ?_
  refine g_bipush (v := 10) C dX8_init_13 rfl (by decide) ?_
  refine g_newi (rc := 16) (rs := 450) C 10 dX8_init_15 rfl (by decide) (by decide) (by decide) (fun h => by rw [hN]; rfl) ?_
  rw [hN]
  refine g_putr C 3 dX8_init_17 rfl rfl rfl (Or.inr ⟨rfl, rfl, rfl⟩) fl_X8_13 ?_
  exact K

def i8S2 (M : Mem) : Mem := sR (sN M 140) 25 4 (some (28))
theorem nN_i8S2 (M : Mem) : mN (i8S2 M) = mN M + 1 := rfl
set_option maxHeartbeats 4000000 in
set_option maxRecDepth 20000 in
theorem sg_X8_init_2 {κ : Kx} {Φ : Option Value → Mem → Prop} (C : Cx RX8 cX8_init 1 none 1 true Φ κ) (M : Mem) (hN : mN M = 28) (K : G κ 15 440 (i8S2 M) 28 [.ref 25] []) : G κ 16 450 M 20 [.ref 25] [] := by
  refine g_aload_0 C dX8_init_20 rfl ?_
  refine g_bipush (v := 10) C dX8_init_21 rfl (by decide) ?_
  refine g_newi (rc := 15) (rs := 440) C 10 dX8_init_23 rfl (by decide) (by decide) (by decide) (fun h => by rw [hN]; rfl) ?_
  rw [hN]
  refine g_putr C 4 dX8_init_25 rfl rfl rfl (Or.inr ⟨rfl, rfl, rfl⟩) fl_X8_16 ?_
  exact K

def i8S3 (M : Mem) : Mem := sR (sN M 116) 25 5 (some (29))
theorem nN_i8S3 (M : Mem) : mN (i8S3 M) = mN M + 1 := rfl
set_option maxHeartbeats 4000000 in
set_option maxRecDepth 20000 in
theorem sg_X8_init_3 {κ : Kx} {Φ : Option Value → Mem → Prop} (C : Cx RX8 cX8_init 1 none 1 true Φ κ) (M : Mem) (hN : mN M = 29) (K : G κ 14 436 (i8S3 M) 35 [.ref 25] []) : G κ 15 440 M 28 [.ref 25] [] := by
  refine g_aload_0 C dX8_init_28 rfl ?_
  refine g_iconst (v := 4) C dX8_init_29 rfl (by decide) ?_
  refine g_newi (rc := 14) (rs := 436) C 4 dX8_init_30 rfl (by decide) (by decide) (by decide) (fun h => by rw [hN]; rfl) ?_
  rw [hN]
  refine g_putr C 5 dX8_init_32 rfl rfl rfl (Or.inr ⟨rfl, rfl, rfl⟩) fl_X8_19 ?_
  exact K

def i8S4 (M : Mem) : Mem := sI (sR (sN M 1060) 25 7 (some (30))) 25 9 (-1)
theorem nN_i8S4 (M : Mem) : mN (i8S4 M) = mN M + 1 := rfl
set_option maxHeartbeats 4000000 in
set_option maxRecDepth 20000 in
theorem sg_X8_init_4 {κ : Kx} {Φ : Option Value → Mem → Prop} (C : Cx RX8 cX8_init 1 none 1 true Φ κ) (M : Mem) (hN : mN M = 30) (K : G κ 13 196 (i8S4 M) 49 [.ref 25] []) : G κ 14 436 M 35 [.ref 25] [] := by
  refine g_aload_0 C dX8_init_35 rfl ?_
  refine g_sipush (v := 240) C dX8_init_36 rfl (by decide) ?_
  refine g_newi (rc := 13) (rs := 196) C 240 dX8_init_39 rfl (by decide) (by decide) (by decide) (fun h => by rw [hN]; rfl) ?_
  rw [hN]
  refine g_putr C 7 dX8_init_41 rfl rfl rfl (Or.inr ⟨rfl, rfl, rfl⟩) fl_X8_22 ?_
  refine g_aload_0 C dX8_init_44 rfl ?_
  refine g_iconst (v := -1) C dX8_init_45 rfl (by decide) ?_
  refine g_puti C 9 dX8_init_46 rfl rfl rfl (Or.inl rfl) fl_X8_25 ?_
  exact K

def i8S5 (M : Mem) : Mem := sR (sN M 140) 25 15 (some (31))
theorem nN_i8S5 (M : Mem) : mN (i8S5 M) = mN M + 1 := rfl
set_option maxHeartbeats 4000000 in
set_option maxRecDepth 20000 in
theorem sg_X8_init_5 {κ : Kx} {Φ : Option Value → Mem → Prop} (C : Cx RX8 cX8_init 1 none 1 true Φ κ) (M : Mem) (hN : mN M = 31) (K : G κ 12 186 (i8S5 M) 57 [.ref 25] []) : G κ 13 196 M 49 [.ref 25] [] := by
  refine g_aload_0 C dX8_init_49 rfl ?_
  refine g_bipush (v := 10) C dX8_init_50 rfl (by decide) ?_
  refine g_newi (rc := 12) (rs := 186) C 10 dX8_init_52 rfl (by decide) (by decide) (by decide) (fun h => by rw [hN]; rfl) ?_
  rw [hN]
  refine g_putr C 15 dX8_init_54 rfl rfl rfl (Or.inr ⟨rfl, rfl, rfl⟩) fl_X8_29 ?_
  exact K

def i8S6 (M : Mem) : Mem := sR (sN M 140) 25 16 (some (32))
theorem nN_i8S6 (M : Mem) : mN (i8S6 M) = mN M + 1 := rfl
set_option maxHeartbeats 4000000 in
set_option maxRecDepth 20000 in
theorem sg_X8_init_6 {κ : Kx} {Φ : Option Value → Mem → Prop} (C : Cx RX8 cX8_init 1 none 1 true Φ κ) (M : Mem) (hN : mN M = 32) (K : G κ 11 176 (i8S6 M) 65 [.ref 25] []) : G κ 12 186 M 57 [.ref 25] [] := by
  refine g_aload_0 C dX8_init_57 rfl ?_
  refine g_bipush (v := 10) C dX8_init_58 rfl (by decide) ?_
  refine g_newi (rc := 11) (rs := 176) C 10 dX8_init_60 rfl (by decide) (by decide) (by decide) (fun h => by rw [hN]; rfl) ?_
  rw [hN]
  refine g_putr C 16 dX8_init_62 rfl rfl rfl (Or.inr ⟨rfl, rfl, rfl⟩) fl_X8_32 ?_
  exact K

def i8S7 (M : Mem) : Mem := sR (sN M 140) 25 17 (some (33))
theorem nN_i8S7 (M : Mem) : mN (i8S7 M) = mN M + 1 := rfl
set_option maxHeartbeats 4000000 in
set_option maxRecDepth 20000 in
theorem sg_X8_init_7 {κ : Kx} {Φ : Option Value → Mem → Prop} (C : Cx RX8 cX8_init 1 none 1 true Φ κ) (M : Mem) (hN : mN M = 33) (K : G κ 10 166 (i8S7 M) 73 [.ref 25] []) : G κ 11 176 M 65 [.ref 25] [] := by
  refine g_aload_0 C dX8_init_65 rfl ?_
  refine g_bipush (v := 10) C dX8_init_66 rfl (by decide) ?_
  refine g_newi (rc := 10) (rs := 166) C 10 dX8_init_68 rfl (by decide) (by decide) (by decide) (fun h => by rw [hN]; rfl) ?_
  rw [hN]
  refine g_putr C 17 dX8_init_70 rfl rfl rfl (Or.inr ⟨rfl, rfl, rfl⟩) fl_X8_35 ?_
  exact K

def i8S8 (M : Mem) : Mem := sR (sN M 420) 25 20 (some (34))
theorem nN_i8S8 (M : Mem) : mN (i8S8 M) = mN M + 1 := rfl
set_option maxHeartbeats 4000000 in
set_option maxRecDepth 20000 in
theorem sg_X8_init_8 {κ : Kx} {Φ : Option Value → Mem → Prop} (C : Cx RX8 cX8_init 1 none 1 true Φ κ) (M : Mem) (hN : mN M = 34) (K : G κ 9 86 (i8S8 M) 81 [.ref 25] []) : G κ 10 166 M 73 [.ref 25] [] := by
  refine g_aload_0 C dX8_init_73 rfl ?_
  refine g_bipush (v := 80) C dX8_init_74 rfl (by decide) ?_
  refine g_newi (rc := 9) (rs := 86) C 80 dX8_init_76 rfl (by decide) (by decide) (by decide) (fun h => by rw [hN]; rfl) ?_
  rw [hN]
  refine g_putr C 20 dX8_init_78 rfl rfl rfl (Or.inr ⟨rfl, rfl, rfl⟩) fl_X8_38 ?_
  exact K

def i8S9 (M : Mem) : Mem := sR (sN M 142) 25 21 (some (35))
theorem nN_i8S9 (M : Mem) : mN (i8S9 M) = mN M + 1 := rfl
set_option maxHeartbeats 4000000 in
set_option maxRecDepth 20000 in
theorem sg_X8_init_9 {κ : Kx} {Φ : Option Value → Mem → Prop} (C : Cx RX8 cX8_init 1 none 1 true Φ κ) (M : Mem) (hN : mN M = 35) (K : G κ 8 76 (i8S9 M) 89 [.ref 25] []) : G κ 9 86 M 81 [.ref 25] [] := by
  refine g_aload_0 C dX8_init_81 rfl ?_
  refine g_bipush (v := 10) C dX8_init_82 rfl (by decide) ?_
  refine g_newl (rc := 8) (rs := 76) C 10 dX8_init_84 rfl (by decide) (by decide) (by decide) (fun h => by rw [hN]; rfl) ?_
  rw [hN]
  refine g_putr C 21 dX8_init_86 rfl rfl rfl (Or.inr ⟨rfl, rfl, rfl⟩) fl_X8_41 ?_
  exact K

def i8S10 (M : Mem) : Mem := sR (sN M 124) 25 23 (some (36))
theorem nN_i8S10 (M : Mem) : mN (i8S10 M) = mN M + 1 := rfl
set_option maxHeartbeats 4000000 in
set_option maxRecDepth 20000 in
theorem sg_X8_init_10 {κ : Kx} {Φ : Option Value → Mem → Prop} (C : Cx RX8 cX8_init 1 none 1 true Φ κ) (M : Mem) (hN : mN M = 36) (K : G κ 7 70 (i8S10 M) 97 [.ref 25] []) : G κ 8 76 M 89 [.ref 25] [] := by
  refine g_aload_0 C dX8_init_89 rfl ?_
  refine g_bipush (v := 6) C dX8_init_90 rfl (by decide) ?_
  refine g_newi (rc := 7) (rs := 70) C 6 dX8_init_92 rfl (by decide) (by decide) (by decide) (fun h => by rw [hN]; rfl) ?_
  rw [hN]
  refine g_putr C 23 dX8_init_94 rfl rfl rfl (Or.inr ⟨rfl, rfl, rfl⟩) fl_X8_45 ?_
  exact K

def i8S11 (M : Mem) : Mem := sR (sN M 124) 25 24 (some (37))
theorem nN_i8S11 (M : Mem) : mN (i8S11 M) = mN M + 1 := rfl
set_option maxHeartbeats 4000000 in
set_option maxRecDepth 20000 in
theorem sg_X8_init_11 {κ : Kx} {Φ : Option Value → Mem → Prop} (C : Cx RX8 cX8_init 1 none 1 true Φ κ) (M : Mem) (hN : mN M = 37) (K : G κ 6 64 (i8S11 M) 105 [.ref 25] []) : G κ 7 70 M 97 [.ref 25] [] := by
  refine g_aload_0 C dX8_init_97 rfl ?_
  refine g_bipush (v := 6) C dX8_init_98 rfl (by decide) ?_
  refine g_newi (rc := 6) (rs := 64) C 6 dX8_init_100 rfl (by decide) (by decide) (by decide) (fun h => by rw [hN]; rfl) ?_
  rw [hN]
  refine g_putr C 24 dX8_init_102 rfl rfl rfl (Or.inr ⟨rfl, rfl, rfl⟩) fl_X8_48 ?_
  exact K

def i8S12 (M : Mem) : Mem := sR (sN M 125) 25 25 (some (38))
theorem nN_i8S12 (M : Mem) : mN (i8S12 M) = mN M + 1 := rfl
set_option maxHeartbeats 4000000 in
set_option maxRecDepth 20000 in
theorem sg_X8_init_12 {κ : Kx} {Φ : Option Value → Mem → Prop} (C : Cx RX8 cX8_init 1 none 1 true Φ κ) (M : Mem) (hN : mN M = 38) (K : G κ 5 58 (i8S12 M) 113 [.ref 25] []) : G κ 6 64 M 105 [.ref 25] [] := by
  refine g_aload_0 C dX8_init_105 rfl ?_
  refine g_bipush (v := 6) C dX8_init_106 rfl (by decide) ?_
  refine g_newz (rc := 5) (rs := 58) C 6 dX8_init_108 rfl (by decide) (by decide) (by decide) (fun h => by rw [hN]; rfl) ?_
  rw [hN]
  refine g_putr C 25 dX8_init_110 rfl rfl rfl (Or.inr ⟨rfl, rfl, rfl⟩) fl_X8_51 ?_
  exact K

def i8S13 (M : Mem) : Mem := sR (sN M 164) 25 26 (some (39))
theorem nN_i8S13 (M : Mem) : mN (i8S13 M) = mN M + 1 := rfl
set_option maxHeartbeats 4000000 in
set_option maxRecDepth 20000 in
theorem sg_X8_init_13 {κ : Kx} {Φ : Option Value → Mem → Prop} (C : Cx RX8 cX8_init 1 none 1 true Φ κ) (M : Mem) (hN : mN M = 39) (K : G κ 4 42 (i8S13 M) 121 [.ref 25] []) : G κ 5 58 M 113 [.ref 25] [] := by
  refine g_aload_0 C dX8_init_113 rfl ?_
  refine g_bipush (v := 16) C dX8_init_114 rfl (by decide) ?_
  refine g_newi (rc := 4) (rs := 42) C 16 dX8_init_116 rfl (by decide) (by decide) (by decide) (fun h => by rw [hN]; rfl) ?_
  rw [hN]
  refine g_putr C 26 dX8_init_118 rfl rfl rfl (Or.inr ⟨rfl, rfl, rfl⟩) fl_X8_55 ?_
  exact K

def i8S14 (M : Mem) : Mem := sR (sN M 160) 25 28 (some (40))
theorem nN_i8S14 (M : Mem) : mN (i8S14 M) = mN M + 1 := rfl
set_option maxHeartbeats 4000000 in
set_option maxRecDepth 20000 in
theorem sg_X8_init_14 {κ : Kx} {Φ : Option Value → Mem → Prop} (C : Cx RX8 cX8_init 1 none 1 true Φ κ) (M : Mem) (hN : mN M = 40) (K : G κ 3 27 (i8S14 M) 129 [.ref 25] []) : G κ 4 42 M 121 [.ref 25] [] := by
  refine g_aload_0 C dX8_init_121 rfl ?_
  refine g_bipush (v := 15) C dX8_init_122 rfl (by decide) ?_
  refine g_newi (rc := 3) (rs := 27) C 15 dX8_init_124 rfl (by decide) (by decide) (by decide) (fun h => by rw [hN]; rfl) ?_
  rw [hN]
  refine g_putr C 28 dX8_init_126 rfl rfl rfl (Or.inr ⟨rfl, rfl, rfl⟩) fl_X8_58 ?_
  exact K

def i8S15 (M : Mem) : Mem := sR (sN M 160) 25 29 (some (41))
theorem nN_i8S15 (M : Mem) : mN (i8S15 M) = mN M + 1 := rfl
set_option maxHeartbeats 4000000 in
set_option maxRecDepth 20000 in
theorem sg_X8_init_15 {κ : Kx} {Φ : Option Value → Mem → Prop} (C : Cx RX8 cX8_init 1 none 1 true Φ κ) (M : Mem) (hN : mN M = 41) (K : G κ 2 12 (i8S15 M) 137 [.ref 25] []) : G κ 3 27 M 129 [.ref 25] [] := by
  refine g_aload_0 C dX8_init_129 rfl ?_
  refine g_bipush (v := 15) C dX8_init_130 rfl (by decide) ?_
  refine g_newi (rc := 2) (rs := 12) C 15 dX8_init_132 rfl (by decide) (by decide) (by decide) (fun h => by rw [hN]; rfl) ?_
  rw [hN]
  refine g_putr C 29 dX8_init_134 rfl rfl rfl (Or.inr ⟨rfl, rfl, rfl⟩) fl_X8_61 ?_
  exact K

def i8S16 (M : Mem) : Mem := sR (sN M 140) 25 30 (some (42))
theorem nN_i8S16 (M : Mem) : mN (i8S16 M) = mN M + 1 := rfl
set_option maxHeartbeats 4000000 in
set_option maxRecDepth 20000 in
theorem sg_X8_init_16 {κ : Kx} {Φ : Option Value → Mem → Prop} (C : Cx RX8 cX8_init 1 none 1 true Φ κ) (M : Mem) (hN : mN M = 42) (K : G κ 1 2 (i8S16 M) 145 [.ref 25] []) : G κ 2 12 M 137 [.ref 25] [] := by
  refine g_aload_0 C dX8_init_137 rfl ?_
  refine g_bipush (v := 10) C dX8_init_138 rfl (by decide) ?_
  refine g_newi (rc := 1) (rs := 2) C 10 dX8_init_140 rfl (by decide) (by decide) (by decide) (fun h => by rw [hN]; rfl) ?_
  rw [hN]
  refine g_putr C 30 dX8_init_142 rfl rfl rfl (Or.inr ⟨rfl, rfl, rfl⟩) fl_X8_64 ?_
  exact K

def i8S17 (M : Mem) : Mem := sI (sR (sN M 109) 25 31 (some (43))) 25 0 (0)
theorem nN_i8S17 (M : Mem) : mN (i8S17 M) = mN M + 1 := rfl
set_option maxHeartbeats 4000000 in
set_option maxRecDepth 20000 in
theorem sg_X8_init_17 {κ : Kx} {Φ : Option Value → Mem → Prop} (C : Cx RX8 cX8_init 1 none 1 true Φ κ) (M : Mem) (hN : mN M = 43) (K : G κ 0 0 (i8S17 M) 157 [.ref 25] []) : G κ 1 2 M 145 [.ref 25] [] := by
  refine g_aload_0 C dX8_init_145 rfl ?_
  refine g_iconst (v := 2) C dX8_init_146 rfl (by decide) ?_
  refine g_newz (rc := 0) (rs := 0) C 2 dX8_init_147 rfl (by decide) (by decide) (by decide) (fun h => by rw [hN]; rfl) ?_
  rw [hN]
  refine g_putr C 31 dX8_init_149 rfl rfl rfl (Or.inr ⟨rfl, rfl, rfl⟩) fl_X8_67 ?_
  refine g_aload_0 C dX8_init_152 rfl ?_
  refine g_iconst (v := 0) C dX8_init_153 rfl (by decide) ?_
  refine g_puti C 0 dX8_init_154 rfl rfl rfl (Or.inl rfl) fl_X8_70 ?_
  exact K

def i8S (M : Mem) : Mem := i8S17 (i8S16 (i8S15 (i8S14 (i8S13 (i8S12 (i8S11 (i8S10 (i8S9 (i8S8 (i8S7 (i8S6 (i8S5 (i8S4 (i8S3 (i8S2 (i8S1 (i8S0 (M))))))))))))))))))
set_option maxHeartbeats 4000000 in
set_option maxRecDepth 20000 in
theorem ok_X8_init (M : Mem)  (hN : mN M = 26) : Ok yX8_init cX8_init 1 none 1 18 470 [.ref 25] M (RV (i8S M)) := by
  refine Ok.of (by decide) (Nat.le_of_ble_eq_true rfl) rfl (fun κ C hx => ?_)
  have C : Cx RX8 cX8_init 1 none 1 true _ κ := C
  refine g_aload_0 C dX8_init_0 rfl ?_
  refine g_objInit C dX8_init_1 rfl ml_X8_1 (by decide) (Nat.le_of_ble_eq_true rfl) ?_
  refine sg_X8_init_0 C (M) hN ?_
  have hN1 : mN (i8S0 (M)) = 27 := (nN_i8S0 (M)).trans (by rw [hN])
  refine sg_X8_init_1 C (i8S0 (M)) hN1 ?_
  have hN2 : mN (i8S1 (i8S0 (M))) = 28 := (nN_i8S1 (i8S0 (M))).trans (by rw [hN1])
  refine sg_X8_init_2 C (i8S1 (i8S0 (M))) hN2 ?_
  have hN3 : mN (i8S2 (i8S1 (i8S0 (M)))) = 29 := (nN_i8S2 (i8S1 (i8S0 (M)))).trans (by rw [hN2])
  refine sg_X8_init_3 C (i8S2 (i8S1 (i8S0 (M)))) hN3 ?_
  have hN4 : mN (i8S3 (i8S2 (i8S1 (i8S0 (M))))) = 30 := (nN_i8S3 (i8S2 (i8S1 (i8S0 (M))))).trans (by rw [hN3])
  refine sg_X8_init_4 C (i8S3 (i8S2 (i8S1 (i8S0 (M))))) hN4 ?_
  have hN5 : mN (i8S4 (i8S3 (i8S2 (i8S1 (i8S0 (M)))))) = 31 := (nN_i8S4 (i8S3 (i8S2 (i8S1 (i8S0 (M)))))).trans (by rw [hN4])
  refine sg_X8_init_5 C (i8S4 (i8S3 (i8S2 (i8S1 (i8S0 (M)))))) hN5 ?_
  have hN6 : mN (i8S5 (i8S4 (i8S3 (i8S2 (i8S1 (i8S0 (M))))))) = 32 := (nN_i8S5 (i8S4 (i8S3 (i8S2 (i8S1 (i8S0 (M))))))).trans (by rw [hN5])
  refine sg_X8_init_6 C (i8S5 (i8S4 (i8S3 (i8S2 (i8S1 (i8S0 (M))))))) hN6 ?_
  have hN7 : mN (i8S6 (i8S5 (i8S4 (i8S3 (i8S2 (i8S1 (i8S0 (M)))))))) = 33 := (nN_i8S6 (i8S5 (i8S4 (i8S3 (i8S2 (i8S1 (i8S0 (M)))))))).trans (by rw [hN6])
  refine sg_X8_init_7 C (i8S6 (i8S5 (i8S4 (i8S3 (i8S2 (i8S1 (i8S0 (M)))))))) hN7 ?_
  have hN8 : mN (i8S7 (i8S6 (i8S5 (i8S4 (i8S3 (i8S2 (i8S1 (i8S0 (M))))))))) = 34 := (nN_i8S7 (i8S6 (i8S5 (i8S4 (i8S3 (i8S2 (i8S1 (i8S0 (M))))))))).trans (by rw [hN7])
  refine sg_X8_init_8 C (i8S7 (i8S6 (i8S5 (i8S4 (i8S3 (i8S2 (i8S1 (i8S0 (M))))))))) hN8 ?_
  have hN9 : mN (i8S8 (i8S7 (i8S6 (i8S5 (i8S4 (i8S3 (i8S2 (i8S1 (i8S0 (M)))))))))) = 35 := (nN_i8S8 (i8S7 (i8S6 (i8S5 (i8S4 (i8S3 (i8S2 (i8S1 (i8S0 (M)))))))))).trans (by rw [hN8])
  refine sg_X8_init_9 C (i8S8 (i8S7 (i8S6 (i8S5 (i8S4 (i8S3 (i8S2 (i8S1 (i8S0 (M)))))))))) hN9 ?_
  have hN10 : mN (i8S9 (i8S8 (i8S7 (i8S6 (i8S5 (i8S4 (i8S3 (i8S2 (i8S1 (i8S0 (M))))))))))) = 36 := (nN_i8S9 (i8S8 (i8S7 (i8S6 (i8S5 (i8S4 (i8S3 (i8S2 (i8S1 (i8S0 (M))))))))))).trans (by rw [hN9])
  refine sg_X8_init_10 C (i8S9 (i8S8 (i8S7 (i8S6 (i8S5 (i8S4 (i8S3 (i8S2 (i8S1 (i8S0 (M))))))))))) hN10 ?_
  have hN11 : mN (i8S10 (i8S9 (i8S8 (i8S7 (i8S6 (i8S5 (i8S4 (i8S3 (i8S2 (i8S1 (i8S0 (M)))))))))))) = 37 := (nN_i8S10 (i8S9 (i8S8 (i8S7 (i8S6 (i8S5 (i8S4 (i8S3 (i8S2 (i8S1 (i8S0 (M)))))))))))).trans (by rw [hN10])
  refine sg_X8_init_11 C (i8S10 (i8S9 (i8S8 (i8S7 (i8S6 (i8S5 (i8S4 (i8S3 (i8S2 (i8S1 (i8S0 (M)))))))))))) hN11 ?_
  have hN12 : mN (i8S11 (i8S10 (i8S9 (i8S8 (i8S7 (i8S6 (i8S5 (i8S4 (i8S3 (i8S2 (i8S1 (i8S0 (M))))))))))))) = 38 := (nN_i8S11 (i8S10 (i8S9 (i8S8 (i8S7 (i8S6 (i8S5 (i8S4 (i8S3 (i8S2 (i8S1 (i8S0 (M))))))))))))).trans (by rw [hN11])
  refine sg_X8_init_12 C (i8S11 (i8S10 (i8S9 (i8S8 (i8S7 (i8S6 (i8S5 (i8S4 (i8S3 (i8S2 (i8S1 (i8S0 (M))))))))))))) hN12 ?_
  have hN13 : mN (i8S12 (i8S11 (i8S10 (i8S9 (i8S8 (i8S7 (i8S6 (i8S5 (i8S4 (i8S3 (i8S2 (i8S1 (i8S0 (M)))))))))))))) = 39 := (nN_i8S12 (i8S11 (i8S10 (i8S9 (i8S8 (i8S7 (i8S6 (i8S5 (i8S4 (i8S3 (i8S2 (i8S1 (i8S0 (M)))))))))))))).trans (by rw [hN12])
  refine sg_X8_init_13 C (i8S12 (i8S11 (i8S10 (i8S9 (i8S8 (i8S7 (i8S6 (i8S5 (i8S4 (i8S3 (i8S2 (i8S1 (i8S0 (M)))))))))))))) hN13 ?_
  have hN14 : mN (i8S13 (i8S12 (i8S11 (i8S10 (i8S9 (i8S8 (i8S7 (i8S6 (i8S5 (i8S4 (i8S3 (i8S2 (i8S1 (i8S0 (M))))))))))))))) = 40 := (nN_i8S13 (i8S12 (i8S11 (i8S10 (i8S9 (i8S8 (i8S7 (i8S6 (i8S5 (i8S4 (i8S3 (i8S2 (i8S1 (i8S0 (M))))))))))))))).trans (by rw [hN13])
  refine sg_X8_init_14 C (i8S13 (i8S12 (i8S11 (i8S10 (i8S9 (i8S8 (i8S7 (i8S6 (i8S5 (i8S4 (i8S3 (i8S2 (i8S1 (i8S0 (M))))))))))))))) hN14 ?_
  have hN15 : mN (i8S14 (i8S13 (i8S12 (i8S11 (i8S10 (i8S9 (i8S8 (i8S7 (i8S6 (i8S5 (i8S4 (i8S3 (i8S2 (i8S1 (i8S0 (M)))))))))))))))) = 41 := (nN_i8S14 (i8S13 (i8S12 (i8S11 (i8S10 (i8S9 (i8S8 (i8S7 (i8S6 (i8S5 (i8S4 (i8S3 (i8S2 (i8S1 (i8S0 (M)))))))))))))))).trans (by rw [hN14])
  refine sg_X8_init_15 C (i8S14 (i8S13 (i8S12 (i8S11 (i8S10 (i8S9 (i8S8 (i8S7 (i8S6 (i8S5 (i8S4 (i8S3 (i8S2 (i8S1 (i8S0 (M)))))))))))))))) hN15 ?_
  have hN16 : mN (i8S15 (i8S14 (i8S13 (i8S12 (i8S11 (i8S10 (i8S9 (i8S8 (i8S7 (i8S6 (i8S5 (i8S4 (i8S3 (i8S2 (i8S1 (i8S0 (M))))))))))))))))) = 42 := (nN_i8S15 (i8S14 (i8S13 (i8S12 (i8S11 (i8S10 (i8S9 (i8S8 (i8S7 (i8S6 (i8S5 (i8S4 (i8S3 (i8S2 (i8S1 (i8S0 (M))))))))))))))))).trans (by rw [hN15])
  refine sg_X8_init_16 C (i8S15 (i8S14 (i8S13 (i8S12 (i8S11 (i8S10 (i8S9 (i8S8 (i8S7 (i8S6 (i8S5 (i8S4 (i8S3 (i8S2 (i8S1 (i8S0 (M))))))))))))))))) hN16 ?_
  have hN17 : mN (i8S16 (i8S15 (i8S14 (i8S13 (i8S12 (i8S11 (i8S10 (i8S9 (i8S8 (i8S7 (i8S6 (i8S5 (i8S4 (i8S3 (i8S2 (i8S1 (i8S0 (M)))))))))))))))))) = 43 := (nN_i8S16 (i8S15 (i8S14 (i8S13 (i8S12 (i8S11 (i8S10 (i8S9 (i8S8 (i8S7 (i8S6 (i8S5 (i8S4 (i8S3 (i8S2 (i8S1 (i8S0 (M)))))))))))))))))).trans (by rw [hN16])
  refine sg_X8_init_17 C (i8S16 (i8S15 (i8S14 (i8S13 (i8S12 (i8S11 (i8S10 (i8S9 (i8S8 (i8S7 (i8S6 (i8S5 (i8S4 (i8S3 (i8S2 (i8S1 (i8S0 (M)))))))))))))))))) hN17 ?_
  exact g_vret C rfl dX8_init_157 ⟨rfl, rfl⟩

def i7S0 (M : Mem) : Mem := sR (i5S (sN M 5)) 0 0 (some 1)
theorem nN_i7S0 (M : Mem) : mN (i7S0 M) = mN M + 2 := rfl
set_option maxHeartbeats 4000000 in
set_option maxRecDepth 20000 in
theorem sg_X7_init_0 {κ : Kx} {Φ : Option Value → Mem → Prop} (C : Cx RX7 cX7_init 1 none 2 true Φ κ) (M : Mem) (hN : mN M = 1) (K : G κ 22 183 (i7S0 M) 15 [.ref 0] []) : G κ 24 429 M 4 [.ref 0] [] := by
  refine g_aload_0 C dX7_init_4 rfl ?_
  refine g_new (rc := 23) (rs := 423) C 5 dX7_init_5 rfl (by decide) cl_X7_9 ic_X5 in_X5 (fun h => by rw [hN]; rfl) ?_
  rw [hN]
  refine g_dup C dX7_init_8 rfl rfl ?_
  refine g_cJ0 C dX7_init_9 rfl nl_X7_11 mz_X5_init (ok_X5_init (sN M 5) (congrArg Nat.succ hN)) (by decide) rfl rfl (Nat.le_of_ble_eq_true rfl) (fun hn9 => ?_)
  refine g_putr C 0 dX7_init_12 rfl rfl rfl (Or.inr ⟨rfl, rfl, rfl⟩) fl_X7_12 ?_
  exact K

def i7S1 (M : Mem) : Mem := sR (i1S (sN M 1)) 0 1 (some 3)
theorem nN_i7S1 (M : Mem) : mN (i7S1 M) = mN M + 2 := rfl
set_option maxHeartbeats 4000000 in
set_option maxRecDepth 20000 in
theorem sg_X7_init_1 {κ : Kx} {Φ : Option Value → Mem → Prop} (C : Cx RX7 cX7_init 1 none 2 true Φ κ) (M : Mem) (hN : mN M = 3) (K : G κ 20 161 (i7S1 M) 26 [.ref 0] []) : G κ 22 183 M 15 [.ref 0] [] := by
  refine g_aload_0 C dX7_init_15 rfl ?_
  refine g_new (rc := 21) (rs := 181) C 1 dX7_init_16 rfl (by decide) cl_X7_16 ic_X1 in_X1 (fun h => by rw [hN]; rfl) ?_
  rw [hN]
  refine g_dup C dX7_init_19 rfl rfl ?_
  refine g_cJ0 C dX7_init_20 rfl nl_X7_18 mz_X1_init (ok_X1_init (sN M 1) (congrArg Nat.succ hN)) (by decide) rfl rfl (Nat.le_of_ble_eq_true rfl) (fun hn20 => ?_)
  refine g_putr C 1 dX7_init_23 rfl rfl rfl (Or.inr ⟨rfl, rfl, rfl⟩) fl_X7_19 ?_
  exact K

def i7S2 (M : Mem) : Mem := sR (i3S (sN M 3)) 0 2 (some 5)
theorem nN_i7S2 (M : Mem) : mN (i7S2 M) = mN M + 4 := rfl
set_option maxHeartbeats 4000000 in
set_option maxRecDepth 20000 in
theorem sg_X7_init_2 {κ : Kx} {Φ : Option Value → Mem → Prop} (C : Cx RX7 cX7_init 1 none 2 true Φ κ) (M : Mem) (hN : mN M = 5) (K : G κ 16 139 (i7S2 M) 37 [.ref 0] []) : G κ 20 161 M 26 [.ref 0] [] := by
  refine g_aload_0 C dX7_init_26 rfl ?_
  refine g_new (rc := 19) (rs := 157) C 3 dX7_init_27 rfl (by decide) cl_X7_23 ic_X3 in_X3 (fun h => by rw [hN]; rfl) ?_
  rw [hN]
  refine g_dup C dX7_init_30 rfl rfl ?_
  refine g_cJ0 C dX7_init_31 rfl nl_X7_25 mz_X3_init (ok_X3_init (sN M 3) (congrArg Nat.succ hN)) (by decide) rfl rfl (Nat.le_of_ble_eq_true rfl) (fun hn31 => ?_)
  refine g_putr C 2 dX7_init_34 rfl rfl rfl (Or.inr ⟨rfl, rfl, rfl⟩) fl_X7_26 ?_
  exact K

def i7S3 (M : Mem) : Mem := sR (i0S (sN M 0)) 0 3 (some 9)
theorem nN_i7S3 (M : Mem) : mN (i7S3 M) = mN M + 3 := rfl
set_option maxHeartbeats 4000000 in
set_option maxRecDepth 20000 in
theorem sg_X7_init_3 {κ : Kx} {Φ : Option Value → Mem → Prop} (C : Cx RX7 cX7_init 1 none 2 true Φ κ) (M : Mem) (hN : mN M = 9) (K : G κ 13 106 (i7S3 M) 48 [.ref 0] []) : G κ 16 139 M 37 [.ref 0] [] := by
  refine g_aload_0 C dX7_init_37 rfl ?_
  refine g_new (rc := 15) (rs := 136) C 0 dX7_init_38 rfl (by decide) cl_X7_30 ic_X0 in_X0 (fun h => by rw [hN]; rfl) ?_
  rw [hN]
  refine g_dup C dX7_init_41 rfl rfl ?_
  refine g_cJ0 C dX7_init_42 rfl nl_X7_32 mz_X0_init (ok_X0_init (sN M 0) (congrArg Nat.succ hN)) (by decide) rfl rfl (Nat.le_of_ble_eq_true rfl) (fun hn42 => ?_)
  refine g_putr C 3 dX7_init_45 rfl rfl rfl (Or.inr ⟨rfl, rfl, rfl⟩) fl_X7_33 ?_
  exact K

def i7S4 (M : Mem) : Mem := sR (sN M 111) 0 4 (some 12)
theorem nN_i7S4 (M : Mem) : mN (i7S4 M) = mN M + 1 := rfl
set_option maxHeartbeats 4000000 in
set_option maxRecDepth 20000 in
theorem sg_X7_init_4 {κ : Kx} {Φ : Option Value → Mem → Prop} (C : Cx RX7 cX7_init 1 none 2 true Φ κ) (M : Mem) (hN : mN M = 12) (K : G κ 12 104 (i7S4 M) 56 [.ref 0] []) : G κ 13 106 M 48 [.ref 0] [] := by
  refine g_aload_0 C dX7_init_48 rfl ?_
  refine g_iconst (v := 2) C dX7_init_49 rfl (by decide) ?_
  refine g_newq (rc := 12) (rs := 104) C 2 dX7_init_50 rfl cl_X7_37 (by decide) (by decide) (by decide) (fun h => by rw [hN]; rfl) ?_
  rw [hN]
  refine g_putr C 4 dX7_init_53 rfl rfl rfl (Or.inr ⟨rfl, rfl, rfl⟩) fl_X7_39 ?_
  exact K

def i7S5 (M : Mem) : Mem := sR (sN M 108) 0 5 (some 13)
theorem nN_i7S5 (M : Mem) : mN (i7S5 M) = mN M + 1 := rfl
set_option maxHeartbeats 4000000 in
set_option maxRecDepth 20000 in
theorem sg_X7_init_5 {κ : Kx} {Φ : Option Value → Mem → Prop} (C : Cx RX7 cX7_init 1 none 2 true Φ κ) (M : Mem) (hN : mN M = 13) (K : G κ 11 102 (i7S5 M) 63 [.ref 0] []) : G κ 12 104 M 56 [.ref 0] [] := by
  refine g_aload_0 C dX7_init_56 rfl ?_
  refine g_iconst (v := 2) C dX7_init_57 rfl (by decide) ?_
  refine g_newi (rc := 11) (rs := 102) C 2 dX7_init_58 rfl (by decide) (by decide) (by decide) (fun h => by rw [hN]; rfl) ?_
  rw [hN]
  refine g_putr C 5 dX7_init_60 rfl rfl rfl (Or.inr ⟨rfl, rfl, rfl⟩) fl_X7_43 ?_
  exact K

def i7S6 (M : Mem) : Mem := sR (sN M 142) 0 6 (some 14)
theorem nN_i7S6 (M : Mem) : mN (i7S6 M) = mN M + 1 := rfl
set_option maxHeartbeats 4000000 in
set_option maxRecDepth 20000 in
theorem sg_X7_init_6 {κ : Kx} {Φ : Option Value → Mem → Prop} (C : Cx RX7 cX7_init 1 none 2 true Φ κ) (M : Mem) (hN : mN M = 14) (K : G κ 10 92 (i7S6 M) 71 [.ref 0] []) : G κ 11 102 M 63 [.ref 0] [] := by
  refine g_aload_0 C dX7_init_63 rfl ?_
  refine g_bipush (v := 10) C dX7_init_64 rfl (by decide) ?_
  refine g_newl (rc := 10) (rs := 92) C 10 dX7_init_66 rfl (by decide) (by decide) (by decide) (fun h => by rw [hN]; rfl) ?_
  rw [hN]
  refine g_putr C 6 dX7_init_68 rfl rfl rfl (Or.inr ⟨rfl, rfl, rfl⟩) fl_X7_47 ?_
  exact K

def i7S7 (M : Mem) : Mem := sR (sN M 164) 0 7 (some 15)
theorem nN_i7S7 (M : Mem) : mN (i7S7 M) = mN M + 1 := rfl
set_option maxHeartbeats 4000000 in
set_option maxRecDepth 20000 in
theorem sg_X7_init_7 {κ : Kx} {Φ : Option Value → Mem → Prop} (C : Cx RX7 cX7_init 1 none 2 true Φ κ) (M : Mem) (hN : mN M = 15) (K : G κ 9 76 (i7S7 M) 79 [.ref 0] []) : G κ 10 92 M 71 [.ref 0] [] := by
  refine g_aload_0 C dX7_init_71 rfl ?_
  refine g_bipush (v := 16) C dX7_init_72 rfl (by decide) ?_
  refine g_newi (rc := 9) (rs := 76) C 16 dX7_init_74 rfl (by decide) (by decide) (by decide) (fun h => by rw [hN]; rfl) ?_
  rw [hN]
  refine g_putr C 7 dX7_init_76 rfl rfl rfl (Or.inr ⟨rfl, rfl, rfl⟩) fl_X7_51 ?_
  exact K

def i7S8 (M : Mem) : Mem := sR (i4S (sN M 4) 16) 0 8 (some 16)
theorem nN_i7S8 (M : Mem) : mN (i7S8 M) = mN M + 4 := rfl
set_option maxHeartbeats 4000000 in
set_option maxRecDepth 20000 in
theorem sg_X7_init_8 {κ : Kx} {Φ : Option Value → Mem → Prop} (C : Cx RX7 cX7_init 1 none 2 true Φ κ) (M : Mem) (hN : mN M = 16) (K : G κ 5 40 (i7S8 M) 90 [.ref 0] []) : G κ 9 76 M 79 [.ref 0] [] := by
  refine g_aload_0 C dX7_init_79 rfl ?_
  refine g_new (rc := 8) (rs := 70) C 4 dX7_init_80 rfl (by decide) cl_X7_54 ic_X4 in_X4 (fun h => by rw [hN]; rfl) ?_
  rw [hN]
  refine g_dup C dX7_init_83 rfl rfl ?_
  refine g_cJ0 C dX7_init_84 rfl nl_X7_56 mz_X4_init (ok_X4_init (sN M 4) 16 (kN_at hN) rfl rfl rfl (congrArg Nat.succ hN)) (by decide) rfl rfl (Nat.le_of_ble_eq_true rfl) (fun hn84 => ?_)
  refine g_putr C 8 dX7_init_87 rfl rfl rfl (Or.inl rfl) fl_X7_57 ?_
  exact K

def i7S9 (M : Mem) : Mem := sR (i4S (sN M 4) 20) 0 9 (some 20)
theorem nN_i7S9 (M : Mem) : mN (i7S9 M) = mN M + 4 := rfl
set_option maxHeartbeats 4000000 in
set_option maxRecDepth 20000 in
theorem sg_X7_init_9 {κ : Kx} {Φ : Option Value → Mem → Prop} (C : Cx RX7 cX7_init 1 none 2 true Φ κ) (M : Mem) (hN : mN M = 20) (K : G κ 1 4 (i7S9 M) 101 [.ref 0] []) : G κ 5 40 M 90 [.ref 0] [] := by
  refine g_aload_0 C dX7_init_90 rfl ?_
  refine g_new (rc := 4) (rs := 34) C 4 dX7_init_91 rfl (by decide) cl_X7_54 ic_X4 in_X4 (fun h => by rw [hN]; rfl) ?_
  rw [hN]
  refine g_dup C dX7_init_94 rfl rfl ?_
  refine g_cJ0 C dX7_init_95 rfl nl_X7_56 mz_X4_init (ok_X4_init (sN M 4) 20 (kN_at hN) rfl rfl rfl (congrArg Nat.succ hN)) (by decide) rfl rfl (Nat.le_of_ble_eq_true rfl) (fun hn95 => ?_)
  refine g_putr C 9 dX7_init_98 rfl rfl rfl (Or.inl rfl) fl_X7_61 ?_
  exact K

def i7S10 (M : Mem) : Mem := sI (sR (sI (sI (sI (sI (sN M 2) 24 0 0) 24 1 0) 24 2 0) 24 3 0) 0 10 (some 24)) 0 11 0
theorem nN_i7S10 (M : Mem) : mN (i7S10 M) = mN M + 1 := rfl
set_option maxHeartbeats 4000000 in
set_option maxRecDepth 20000 in
theorem sg_X7_init_10 {κ : Kx} {Φ : Option Value → Mem → Prop} (C : Cx RX7 cX7_init 1 none 2 true Φ κ) (M : Mem) (hN : mN M = 24) (K : G κ 0 0 (i7S10 M) 121 [.ref 0] []) : G κ 1 4 M 101 [.ref 0] [] := by
  refine g_aload_0 C dX7_init_101 rfl ?_
  refine g_new (rc := 0) (rs := 0) C 2 dX7_init_102 rfl (by decide) cl_X7_37 ic_X2 in_X2 (fun h => by rw [hN]; rfl) ?_
  rw [hN]
  refine g_dup C dX7_init_105 rfl rfl ?_
  refine g_iconst (v := 0) C dX7_init_106 rfl (by decide) ?_
  refine g_iconst (v := 0) C dX7_init_107 rfl (by decide) ?_
  refine g_iconst (v := 0) C dX7_init_108 rfl (by decide) ?_
  refine g_iconst (v := 0) C dX7_init_109 rfl (by decide) ?_
  refine g_cI4 C dX7_init_110 rfl ml_X7_64 mz_X2_init (ok_X2_init 24 0 0 0 0 (sN M 2) (kN_at hN)) (by decide) rfl rfl (Nat.le_of_ble_eq_true rfl) (fun hn110 => ?_)
  refine g_putr C 10 dX7_init_113 rfl rfl rfl (Or.inl rfl) fl_X7_67 ?_
  refine g_aload_0 C dX7_init_116 rfl ?_
  refine g_iconst (v := 0) C dX7_init_117 rfl (by decide) ?_
  refine g_puti C 11 dX7_init_118 rfl rfl rfl (Or.inl rfl) fl_X7_71 ?_
  exact K

def i7S (M : Mem) : Mem := i7S10 (i7S9 (i7S8 (i7S7 (i7S6 (i7S5 (i7S4 (i7S3 (i7S2 (i7S1 (i7S0 (M)))))))))))
set_option maxHeartbeats 4000000 in
set_option maxRecDepth 20000 in
theorem ok_X7_init (M : Mem) (hN : mN M = 1) : Ok yX7_init cX7_init 1 none 2 24 429 [.ref 0] M (RV (i7S M)) := by
  refine Ok.of (by decide) (Nat.le_of_ble_eq_true rfl) rfl (fun κ C hx => ?_)
  have C : Cx RX7 cX7_init 1 none 2 true _ κ := C
  refine g_aload_0 C dX7_init_0 rfl ?_
  refine g_objInit C dX7_init_1 rfl ml_X7_3 (by decide) (Nat.le_of_ble_eq_true rfl) ?_
  refine sg_X7_init_0 C (M) hN ?_
  have hN1 : mN (i7S0 (M)) = 3 := (nN_i7S0 (M)).trans (by rw [hN])
  refine sg_X7_init_1 C (i7S0 (M)) hN1 ?_
  have hN2 : mN (i7S1 (i7S0 (M))) = 5 := (nN_i7S1 (i7S0 (M))).trans (by rw [hN1])
  refine sg_X7_init_2 C (i7S1 (i7S0 (M))) hN2 ?_
  have hN3 : mN (i7S2 (i7S1 (i7S0 (M)))) = 9 := (nN_i7S2 (i7S1 (i7S0 (M)))).trans (by rw [hN2])
  refine sg_X7_init_3 C (i7S2 (i7S1 (i7S0 (M)))) hN3 ?_
  have hN4 : mN (i7S3 (i7S2 (i7S1 (i7S0 (M))))) = 12 := (nN_i7S3 (i7S2 (i7S1 (i7S0 (M))))).trans (by rw [hN3])
  refine sg_X7_init_4 C (i7S3 (i7S2 (i7S1 (i7S0 (M))))) hN4 ?_
  have hN5 : mN (i7S4 (i7S3 (i7S2 (i7S1 (i7S0 (M)))))) = 13 := (nN_i7S4 (i7S3 (i7S2 (i7S1 (i7S0 (M)))))).trans (by rw [hN4])
  refine sg_X7_init_5 C (i7S4 (i7S3 (i7S2 (i7S1 (i7S0 (M)))))) hN5 ?_
  have hN6 : mN (i7S5 (i7S4 (i7S3 (i7S2 (i7S1 (i7S0 (M))))))) = 14 := (nN_i7S5 (i7S4 (i7S3 (i7S2 (i7S1 (i7S0 (M))))))).trans (by rw [hN5])
  refine sg_X7_init_6 C (i7S5 (i7S4 (i7S3 (i7S2 (i7S1 (i7S0 (M))))))) hN6 ?_
  have hN7 : mN (i7S6 (i7S5 (i7S4 (i7S3 (i7S2 (i7S1 (i7S0 (M)))))))) = 15 := (nN_i7S6 (i7S5 (i7S4 (i7S3 (i7S2 (i7S1 (i7S0 (M)))))))).trans (by rw [hN6])
  refine sg_X7_init_7 C (i7S6 (i7S5 (i7S4 (i7S3 (i7S2 (i7S1 (i7S0 (M)))))))) hN7 ?_
  have hN8 : mN (i7S7 (i7S6 (i7S5 (i7S4 (i7S3 (i7S2 (i7S1 (i7S0 (M))))))))) = 16 := (nN_i7S7 (i7S6 (i7S5 (i7S4 (i7S3 (i7S2 (i7S1 (i7S0 (M))))))))).trans (by rw [hN7])
  refine sg_X7_init_8 C (i7S7 (i7S6 (i7S5 (i7S4 (i7S3 (i7S2 (i7S1 (i7S0 (M))))))))) hN8 ?_
  have hN9 : mN (i7S8 (i7S7 (i7S6 (i7S5 (i7S4 (i7S3 (i7S2 (i7S1 (i7S0 (M)))))))))) = 20 := (nN_i7S8 (i7S7 (i7S6 (i7S5 (i7S4 (i7S3 (i7S2 (i7S1 (i7S0 (M)))))))))).trans (by rw [hN8])
  refine sg_X7_init_9 C (i7S8 (i7S7 (i7S6 (i7S5 (i7S4 (i7S3 (i7S2 (i7S1 (i7S0 (M)))))))))) hN9 ?_
  have hN10 : mN (i7S9 (i7S8 (i7S7 (i7S6 (i7S5 (i7S4 (i7S3 (i7S2 (i7S1 (i7S0 (M))))))))))) = 24 := (nN_i7S9 (i7S8 (i7S7 (i7S6 (i7S5 (i7S4 (i7S3 (i7S2 (i7S1 (i7S0 (M))))))))))).trans (by rw [hN9])
  refine sg_X7_init_10 C (i7S9 (i7S8 (i7S7 (i7S6 (i7S5 (i7S4 (i7S3 (i7S2 (i7S1 (i7S0 (M))))))))))) hN10 ?_
  exact g_vret C rfl dX7_init_121 ⟨rfl, rfl⟩

