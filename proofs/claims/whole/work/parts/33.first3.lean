theorem b_nI (m : Nat) {i : Nat} (hi : i < 32) : bt (nI m) i = m.testBit i := by
  show (BitVec.ofNat 32 m).getLsbD i = _
  rw [BitVec.getLsbD_ofNat]
  simp [hi]
theorem low_nat {x : Int32} {n : Nat} (h : ∀ i, n ≤ i → i < 32 → bt x i = false) : x = nI x.toBitVec.toNat ∧ x.toBitVec.toNat < 2 ^ n := by
  constructor
  · exact b_ext (fun i hi => by rw [b_nI _ hi]; rfl)
  · exact Nat.lt_pow_two_of_testBit _ (fun i hi => by
      rcases Nat.lt_or_ge i 32 with h2 | h2
      · exact h i hi h2
      · exact b_big h2)
def aN (nr : Nat) (fo : Int32) : Nat := (alw (nI nr) fo).toBitVec.toNat
theorem aN_ok {nr : Nat} (h : nr ≤ 10) (fo : Int32) : alw (nI nr) fo = nI (aN nr fo) ∧ aN nr fo < 2 ^ nr := low_nat (fun i h1 h2 => by
  unfold alw
  rw [b_and, bt_low nr (by omega) i h2, decide_eq_false (by omega)]
  rfl)
def tS (S : Mem) (t nw nr : Nat) : Mem := trS S t (mI S nw 0) (alw (nI nr) (mI S nw 2))
noncomputable def w7V (S : Mem) (t nw th nr : Nat) (s : Int32) : Int32 := if hsB (2 * nI th) s = true then fstF (fun c => lwR (btB (tS S t nw nr) t (mN S) nr th s) s c (2 * th) 0) 4 0 else -1000000001
noncomputable def w7S (S : Mem) (t nw th nr : Nat) (s : Int32) : Mem := if hsB (2 * nI th) s = true then tS S t nw nr else S
set_option maxHeartbeats 4000000 in
set_option maxRecDepth 20000 in
theorem ok_X7_words (s : Int32) (S : Mem) (t nw th nr : Nat) (hC : CW S t nw th nr) : Ok yX7_words cX7_words 2 (some .int) 8 1 3 [.ref 0, .int s] S (RI (w7V S t nw th nr s) (w7S S t nw th nr s)) := by
  have hR := hC.1.1
  refine Ok.of (by decide) (Nat.le_of_ble_eq_true rfl) rfl (fun κ C hx => ?_)
  have C : Cx RX7 cX7_words 2 (some .int) 8 false _ κ := C
  refine g_aload_0 C dX7_words_0 rfl ?_
  refine g_getr C 8 dX7_words_1 rfl rfl rfl fl_X7_57 hC.2.1.1 ?_
  refine g_iload_1 C dX7_words_4 rfl ?_
  refine g_cD1i C dX7_words_5 rfl ml_X7_162 mz_X4_hasSaying (ok_X4_hasSaying _ t S hC.2.2.1) (by decide) rfl rfl hC.2.2.1.1 (by decide) rfl (Nat.le_of_ble_eq_true rfl) (fun hn5 => ?_)
  rw [hC.2.2.2.2.1.1]
  refine g_if_eq (tgt := 22) C dX7_words_8 rfl (by decide) (fun h8 => ?_) (fun h8 => ?_)
  · skip
    refine g_ldc C dX7_words_22 rfl kc_X7_148 ?_
    exact g_iret C rfl dX7_words_24 ⟨by unfold w7V; rw [if_neg (by rw [(bI_0 _).mp h8]; decide)], by unfold w7S; rw [if_neg (by rw [(bI_0 _).mp h8]; decide)]⟩
  · skip
    refine g_aload_0 C dX7_words_11 rfl ?_
    refine g_cV0r C dX7_words_12 rfl ml_X7_127 mz_X7_trialNow (ok_X7_trialNow S t nw th nr hC) (by decide) rfl rfl rfl rfl (Nat.le_of_ble_eq_true rfl) (fun hn12 => ?_)
    refine g_iload_1 C dX7_words_15 rfl ?_
    refine g_cD1i C dX7_words_16 rfl ml_X7_218 mz_X6_fewestWords (ok_X6_fewestWords _ (mN S) t (tS S t nw nr) (trS_K _ _ _ _) (trS_R _ _ _ _) (hC.ext (trS_ext S t (mI S nw 0) (alw (nI nr) (mI S nw 2)))).2.2.1 nr (hC.ext (trS_ext S t (mI S nw 0) (alw (nI nr) (mI S nw 2)))).2.2.2.2.2.1 (hC.ext (trS_ext S t (mI S nw 0) (alw (nI nr) (mI S nw 2)))).2.2.2.2.2.2.1 th (hC.ext (trS_ext S t (mI S nw 0) (alw (nI nr) (mI S nw 2)))).2.2.2.2.1.1 (hC.ext (trS_ext S t (mI S nw 0) (alw (nI nr) (mI S nw 2)))).2.2.2.2.1.2) (by decide) rfl rfl (trS_K S t (mI S nw 0) (alw (nI nr) (mI S nw 2))) (by decide) rfl (Nat.le_of_ble_eq_true rfl) (fun hn16 => ?_)
    refine g_goto (tgt := 24) C dX7_words_19 (by decide) ?_
    exact g_iret C rfl dX7_words_24 ⟨by unfold w7V; rw [if_pos (nf_t (fun q => h8 ((bI_0 _).mpr q)))], by unfold w7S; rw [if_pos (nf_t (fun q => h8 ((bI_0 _).mpr q)))] <;> rfl⟩

noncomputable def n7V (S : Mem) (t nw th nr : Nat) (s : Int32) : Int32 := if hsB (2 * nI th) s = true then tnV (tS S t nw nr) t (mN S) nr s else -1000000001
noncomputable def n7S (S : Mem) (t nw th nr : Nat) (s : Int32) : Mem := if hsB (2 * nI th) s = true then tS S t nw nr else S
set_option maxHeartbeats 4000000 in
set_option maxRecDepth 20000 in
theorem ok_X7_step (s : Int32) (S : Mem) (t nw th nr : Nat) (hC : CW S t nw th nr) : Ok yX7_step cX7_step 2 (some .int) 4 1 3 [.ref 0, .int s] S (RI (n7V S t nw th nr s) (n7S S t nw th nr s)) := by
  have hR := hC.1.1
  refine Ok.of (by decide) (Nat.le_of_ble_eq_true rfl) rfl (fun κ C hx => ?_)
  have C : Cx RX7 cX7_step 2 (some .int) 4 false _ κ := C
  refine g_aload_0 C dX7_step_0 rfl ?_
  refine g_getr C 8 dX7_step_1 rfl rfl rfl fl_X7_57 hC.2.1.1 ?_
  refine g_iload_1 C dX7_step_4 rfl ?_
  refine g_cD1i C dX7_step_5 rfl ml_X7_162 mz_X4_hasSaying (ok_X4_hasSaying _ t S hC.2.2.1) (by decide) rfl rfl hC.2.2.1.1 (by decide) rfl (Nat.le_of_ble_eq_true rfl) (fun hn5 => ?_)
  rw [hC.2.2.2.2.1.1]
  refine g_if_eq (tgt := 22) C dX7_step_8 rfl (by decide) (fun h8 => ?_) (fun h8 => ?_)
  · skip
    refine g_ldc C dX7_step_22 rfl kc_X7_148 ?_
    exact g_iret C rfl dX7_step_24 ⟨by unfold n7V; rw [if_neg (by rw [(bI_0 _).mp h8]; decide)], by unfold n7S; rw [if_neg (by rw [(bI_0 _).mp h8]; decide)]⟩
  · skip
    refine g_aload_0 C dX7_step_11 rfl ?_
    refine g_cV0r C dX7_step_12 rfl ml_X7_127 mz_X7_trialNow (ok_X7_trialNow S t nw th nr hC) (by decide) rfl rfl rfl rfl (Nat.le_of_ble_eq_true rfl) (fun hn12 => ?_)
    refine g_iload_1 C dX7_step_15 rfl ?_
    refine g_cD1i C dX7_step_16 rfl ml_X7_221 mz_X6_neededRules (ok_X6_neededRules _ (mN S) t (tS S t nw nr) (trS_K _ _ _ _) (trS_R _ _ _ _) (hC.ext (trS_ext S t (mI S nw 0) (alw (nI nr) (mI S nw 2)))).2.2.1 nr (hC.ext (trS_ext S t (mI S nw 0) (alw (nI nr) (mI S nw 2)))).2.2.2.2.2.1 (hC.ext (trS_ext S t (mI S nw 0) (alw (nI nr) (mI S nw 2)))).2.2.2.2.2.2.1) (by decide) rfl rfl (trS_K S t (mI S nw 0) (alw (nI nr) (mI S nw 2))) (by decide) rfl (Nat.le_of_ble_eq_true rfl) (fun hn16 => ?_)
    refine g_goto (tgt := 24) C dX7_step_19 (by decide) ?_
    exact g_iret C rfl dX7_step_24 ⟨by unfold n7V; rw [if_pos (nf_t (fun q => h8 ((bI_0 _).mpr q)))], by unfold n7S; rw [if_pos (nf_t (fun q => h8 ((bI_0 _).mpr q)))] <;> rfl⟩

noncomputable def b7V (S : Mem) (t nw th nr : Nat) (s : Int32) : Int32 := if hsB (2 * nI th) s = true then tbV (tS S t nw nr) t (mN S) nr (aN nr (mI S nw 2)) s else -1000000001
noncomputable def b7S (S : Mem) (t nw th nr : Nat) (s : Int32) : Mem := if hsB (2 * nI th) s = true then tS S t nw nr else S
set_option maxHeartbeats 4000000 in
set_option maxRecDepth 20000 in
theorem ok_X7_barred (s : Int32) (S : Mem) (t nw th nr : Nat) (hC : CW S t nw th nr) : Ok yX7_barred cX7_barred 2 (some .int) 4 1 3 [.ref 0, .int s] S (RI (b7V S t nw th nr s) (b7S S t nw th nr s)) := by
  have hR := hC.1.1
  refine Ok.of (by decide) (Nat.le_of_ble_eq_true rfl) rfl (fun κ C hx => ?_)
  have C : Cx RX7 cX7_barred 2 (some .int) 4 false _ κ := C
  refine g_aload_0 C dX7_barred_0 rfl ?_
  refine g_getr C 8 dX7_barred_1 rfl rfl rfl fl_X7_57 hC.2.1.1 ?_
  refine g_iload_1 C dX7_barred_4 rfl ?_
  refine g_cD1i C dX7_barred_5 rfl ml_X7_162 mz_X4_hasSaying (ok_X4_hasSaying _ t S hC.2.2.1) (by decide) rfl rfl hC.2.2.1.1 (by decide) rfl (Nat.le_of_ble_eq_true rfl) (fun hn5 => ?_)
  rw [hC.2.2.2.2.1.1]
  refine g_if_eq (tgt := 22) C dX7_barred_8 rfl (by decide) (fun h8 => ?_) (fun h8 => ?_)
  · skip
    refine g_ldc C dX7_barred_22 rfl kc_X7_148 ?_
    exact g_iret C rfl dX7_barred_24 ⟨by unfold b7V; rw [if_neg (by rw [(bI_0 _).mp h8]; decide)], by unfold b7S; rw [if_neg (by rw [(bI_0 _).mp h8]; decide)]⟩
  · skip
    refine g_aload_0 C dX7_barred_11 rfl ?_
    refine g_cV0r C dX7_barred_12 rfl ml_X7_127 mz_X7_trialNow (ok_X7_trialNow S t nw th nr hC) (by decide) rfl rfl rfl rfl (Nat.le_of_ble_eq_true rfl) (fun hn12 => ?_)
    refine g_iload_1 C dX7_barred_15 rfl ?_
    refine g_cD1i C dX7_barred_16 rfl ml_X7_224 mz_X6_fewestBars (ok_X6_fewestBars _ (mN S) t (tS S t nw nr) (trS_K _ _ _ _) (trS_R _ _ _ _) (hC.ext (trS_ext S t (mI S nw 0) (alw (nI nr) (mI S nw 2)))).2.2.1 nr (hC.ext (trS_ext S t (mI S nw 0) (alw (nI nr) (mI S nw 2)))).2.2.2.2.2.1 (hC.ext (trS_ext S t (mI S nw 0) (alw (nI nr) (mI S nw 2)))).2.2.2.2.2.2.1 (aN nr (mI S nw 2)) ((trS_2 _ _ _ _).trans (aN_ok hC.2.2.2.2.2.2.1.1 _).1) (aN_ok hC.2.2.2.2.2.2.1.1 _).2) (by decide) rfl rfl (trS_K S t (mI S nw 0) (alw (nI nr) (mI S nw 2))) (by decide) rfl (Nat.le_of_ble_eq_true rfl) (fun hn16 => ?_)
    refine g_goto (tgt := 24) C dX7_barred_19 (by decide) ?_
    exact g_iret C rfl dX7_barred_24 ⟨by unfold b7V; rw [if_pos (nf_t (fun q => h8 ((bI_0 _).mpr q)))], by unfold b7S; rw [if_pos (nf_t (fun q => h8 ((bI_0 _).mpr q)))] <;> rfl⟩

set_option maxHeartbeats 4000000 in
set_option maxRecDepth 20000 in
theorem ok_X7_round (S : Mem) (t nw th nr : Nat) (hC : CW S t nw th nr) : Ok yX7_round cX7_round 1 (some .int) 4 1 3 [.ref 0] S (RI (orF (fun k => rtB (tS S t nw nr) t (mN S) nr (nI k)) (fun r => one (nI r)) (2 * th)) (tS S t nw nr)) := by
  have hR := hC.1.1
  refine Ok.of (by decide) (Nat.le_of_ble_eq_true rfl) rfl (fun κ C hx => ?_)
  have C : Cx RX7 cX7_round 1 (some .int) 4 false _ κ := C
  refine g_aload_0 C dX7_round_0 rfl ?_
  refine g_cV0r C dX7_round_1 rfl ml_X7_127 mz_X7_trialNow (ok_X7_trialNow S t nw th nr hC) (by decide) rfl rfl rfl rfl (Nat.le_of_ble_eq_true rfl) (fun hn1 => ?_)
  refine g_cD0i C dX7_round_4 rfl ml_X7_233 mz_X6_circles (ok_X6_circles (mN S) t (tS S t nw nr) (trS_K _ _ _ _) (trS_R _ _ _ _) (hC.ext (trS_ext S t (mI S nw 0) (alw (nI nr) (mI S nw 2)))).2.2.1 nr (hC.ext (trS_ext S t (mI S nw 0) (alw (nI nr) (mI S nw 2)))).2.2.2.2.2.1 (hC.ext (trS_ext S t (mI S nw 0) (alw (nI nr) (mI S nw 2)))).2.2.2.2.2.2.1 th (hC.ext (trS_ext S t (mI S nw 0) (alw (nI nr) (mI S nw 2)))).2.2.2.2.1.1 (hC.ext (trS_ext S t (mI S nw 0) (alw (nI nr) (mI S nw 2)))).2.2.2.2.1.2) (by decide) rfl rfl (trS_K S t (mI S nw 0) (alw (nI nr) (mI S nw 2))) (by decide) rfl (Nat.le_of_ble_eq_true rfl) (fun hn4 => ?_)
  exact g_iret C rfl dX7_round_7 ⟨rfl, rfl⟩

def in01 (x : Int32) : Bool := decide (0 ≤ x ∧ x ≤ 1)
noncomputable def p7W (S : Mem) (t nw nr : Nat) (s : Int32) : Int32 := tpV (tS S t nw nr) t (mN S) nr (aN nr (mI S nw 2)) s
noncomputable def p7V (S : Mem) (t nw th nr : Nat) (s wh : Int32) : Int32 := if hsB (2 * nI th) s = true then (if in01 wh = true then (if wh = 0 ∧ ¬ p7W S t nw nr s = -1 then bcI (p7W S t nw nr s) else p7W S t nw nr s) else -1000000002) else -1000000001
noncomputable def p7S (S : Mem) (t nw th nr : Nat) (s wh : Int32) : Mem := if hsB (2 * nI th) s = true then (if in01 wh = true then tS S t nw nr else S) else S
set_option maxHeartbeats 4000000 in
set_option maxRecDepth 20000 in
theorem ok_X7_proof (s wh : Int32) (S : Mem) (t nw th nr : Nat) (hC : CW S t nw th nr) : Ok yX7_proof cX7_proof 4 (some .int) 4 1 3 [.ref 0, .int s, .int wh] S (RI (p7V S t nw th nr s wh) (p7S S t nw th nr s wh)) := by
  have hR := hC.1.1
  refine Ok.of (by decide) (Nat.le_of_ble_eq_true rfl) rfl (fun κ C hx => ?_)
  have C : Cx RX7 cX7_proof 4 (some .int) 4 false _ κ := C
  refine g_aload_0 C dX7_proof_0 rfl ?_
  refine g_getr C 8 dX7_proof_1 rfl rfl rfl fl_X7_57 hC.2.1.1 ?_
  refine g_iload_1 C dX7_proof_4 rfl ?_
  refine g_cD1i C dX7_proof_5 rfl ml_X7_162 mz_X4_hasSaying (ok_X4_hasSaying _ t S hC.2.2.1) (by decide) rfl rfl hC.2.2.1.1 (by decide) rfl (Nat.le_of_ble_eq_true rfl) (fun hn5 => ?_)
  rw [hC.2.2.2.2.1.1]
  refine g_if_ne (tgt := 14) C dX7_proof_8 rfl (by decide) (fun h8 => ?_) (fun h8 => ?_)
  · skip
    refine g_iload_2 C dX7_proof_14 rfl ?_
    refine g_if_lt (tgt := 23) C dX7_proof_15 rfl (by decide) (fun h15 => ?_) (fun h15 => ?_)
    · skip
      refine g_ldc C dX7_proof_23 rfl kc_X7_75 ?_
      exact g_iret C rfl dX7_proof_25 ⟨by unfold p7V; rw [if_pos (nf_t (fun q => h8 ((bI_0 _).mpr q))), if_neg (by rw [show in01 wh = false from decide_eq_false (fun z => i_not_lt z.1 h15)]; decide)], by unfold p7S; rw [if_pos (nf_t (fun q => h8 ((bI_0 _).mpr q))), if_neg (by rw [show in01 wh = false from decide_eq_false (fun z => i_not_lt z.1 h15)]; decide)]⟩
    · skip
      refine g_iload_2 C dX7_proof_18 rfl ?_
      refine g_iconst (v := 1) C dX7_proof_19 rfl (by decide) ?_
      refine g_icmp_le (tgt := 26) C dX7_proof_20 rfl (by decide) (fun h20 => ?_) (fun h20 => ?_)
      · skip
        refine g_aload_0 C dX7_proof_26 rfl ?_
        refine g_cV0r C dX7_proof_27 rfl ml_X7_127 mz_X7_trialNow (ok_X7_trialNow S t nw th nr hC) (by decide) rfl rfl rfl rfl (Nat.le_of_ble_eq_true rfl) (fun hn27 => ?_)
        refine g_iload_1 C dX7_proof_30 rfl ?_
        refine g_cD1i C dX7_proof_31 rfl ml_X7_204 mz_X6_leastProof (ok_X6_leastProof _ (mN S) t (tS S t nw nr) (trS_K _ _ _ _) (trS_R _ _ _ _) (hC.ext (trS_ext S t (mI S nw 0) (alw (nI nr) (mI S nw 2)))).2.2.1 nr (hC.ext (trS_ext S t (mI S nw 0) (alw (nI nr) (mI S nw 2)))).2.2.2.2.2.1 (hC.ext (trS_ext S t (mI S nw 0) (alw (nI nr) (mI S nw 2)))).2.2.2.2.2.2.1 (aN nr (mI S nw 2)) ((trS_2 _ _ _ _).trans (aN_ok hC.2.2.2.2.2.2.1.1 _).1) (aN_ok hC.2.2.2.2.2.2.1.1 _).2) (by decide) rfl rfl (trS_K S t (mI S nw 0) (alw (nI nr) (mI S nw 2))) (by decide) rfl (Nat.le_of_ble_eq_true rfl) (fun hn31 => ?_)
        refine g_istore_3 C rfl dX7_proof_34 rfl ?_
        refine g_iload_2 C dX7_proof_35 rfl ?_
        refine g_if_ne (tgt := 51) C dX7_proof_36 rfl (by decide) (fun h36 => ?_) (fun h36 => ?_)
        · skip
          refine g_iload_3 C dX7_proof_51 rfl ?_
          exact g_iret C rfl dX7_proof_52 ⟨by unfold p7V; rw [if_pos (nf_t (fun q => h8 ((bI_0 _).mpr q))), if_pos (show in01 wh = true from decide_eq_true ⟨lt0_n h15, h20⟩), if_neg (fun q => h36 q.1)] <;> rfl, by unfold p7S; rw [if_pos (nf_t (fun q => h8 ((bI_0 _).mpr q))), if_pos (show in01 wh = true from decide_eq_true ⟨lt0_n h15, h20⟩)] <;> rfl⟩
        · skip
          refine g_iload_3 C dX7_proof_39 rfl ?_
          refine g_iconst (v := -1) C dX7_proof_40 rfl (by decide) ?_
          refine g_icmp_eq (tgt := 51) C dX7_proof_41 rfl (by decide) (fun h41 => ?_) (fun h41 => ?_)
          · skip
            refine g_iload_3 C dX7_proof_51 rfl ?_
            exact g_iret C rfl dX7_proof_52 ⟨by unfold p7V; rw [if_pos (nf_t (fun q => h8 ((bI_0 _).mpr q))), if_pos (show in01 wh = true from decide_eq_true ⟨lt0_n h15, h20⟩), if_neg (fun q => q.2 h41)] <;> rfl, by unfold p7S; rw [if_pos (nf_t (fun q => h8 ((bI_0 _).mpr q))), if_pos (show in01 wh = true from decide_eq_true ⟨lt0_n h15, h20⟩)] <;> rfl⟩
          · skip
            refine g_iload_3 C dX7_proof_44 rfl ?_
            refine g_cS1i C dX7_proof_45 rfl ml_X7_207 mz_J6_bitCount_0f7a4 (ok_J6_bitCount _ (tS S t nw nr)) (by decide) rfl rfl (Nat.le_of_ble_eq_true rfl) (fun hn45 => ?_)
            refine g_goto (tgt := 52) C dX7_proof_48 (by decide) ?_
            exact g_iret C rfl dX7_proof_52 ⟨by unfold p7V; rw [if_pos (nf_t (fun q => h8 ((bI_0 _).mpr q))), if_pos (show in01 wh = true from decide_eq_true ⟨lt0_n h15, h20⟩), if_pos ⟨h36, h41⟩] <;> rfl, by unfold p7S; rw [if_pos (nf_t (fun q => h8 ((bI_0 _).mpr q))), if_pos (show in01 wh = true from decide_eq_true ⟨lt0_n h15, h20⟩)] <;> rfl⟩
      · skip
        refine g_ldc C dX7_proof_23 rfl kc_X7_75 ?_
        exact g_iret C rfl dX7_proof_25 ⟨by unfold p7V; rw [if_pos (nf_t (fun q => h8 ((bI_0 _).mpr q))), if_neg (by rw [show in01 wh = false from decide_eq_false (fun z => h20 z.2)]; decide)], by unfold p7S; rw [if_pos (nf_t (fun q => h8 ((bI_0 _).mpr q))), if_neg (by rw [show in01 wh = false from decide_eq_false (fun z => h20 z.2)]; decide)]⟩
  · skip
    refine g_ldc C dX7_proof_11 rfl kc_X7_148 ?_
    exact g_iret C rfl dX7_proof_13 ⟨by unfold p7V; rw [if_neg (by rw [(bI_0 _).mp h8]; decide)], by unfold p7S; rw [if_neg (by rw [(bI_0 _).mp h8]; decide)]⟩

noncomputable def g7W (S : Mem) (t nw th nr : Nat) : Int32 := tgV (tS S t nw nr) t (mN S) nr th (aN nr (mI S nw 2))
noncomputable def g7V (S : Mem) (t nw th nr : Nat) (wh : Int32) : Int32 := if in01 wh = true then (if wh = 1 ∧ ¬ g7W S t nw th nr = -1 then cstF (mA (tS S t nw nr) (t + 1)) (g7W S t nw th nr) nr else g7W S t nw th nr) else -1000000002
noncomputable def g7S (S : Mem) (t nw nr : Nat) (wh : Int32) : Mem := if in01 wh = true then tS S t nw nr else S
set_option maxHeartbeats 4000000 in
set_option maxRecDepth 20000 in
theorem ok_X7_giveUp (wh : Int32) (S : Mem) (t nw th nr : Nat) (hC : CW S t nw th nr) : Ok yX7_giveUp cX7_giveUp 3 (some .int) 4 1 3 [.ref 0, .int wh] S (RI (g7V S t nw th nr wh) (g7S S t nw nr wh)) := by
  have hR := hC.1.1
  refine Ok.of (by decide) (Nat.le_of_ble_eq_true rfl) rfl (fun κ C hx => ?_)
  have C : Cx RX7 cX7_giveUp 3 (some .int) 4 false _ κ := C
  refine g_iload_1 C dX7_giveUp_0 rfl ?_
  refine g_if_lt (tgt := 9) C dX7_giveUp_1 rfl (by decide) (fun h1 => ?_) (fun h1 => ?_)
  · skip
    refine g_ldc C dX7_giveUp_9 rfl kc_X7_75 ?_
    exact g_iret C rfl dX7_giveUp_11 ⟨by unfold g7V; rw [if_neg (by rw [show in01 wh = false from decide_eq_false (fun z => i_not_lt z.1 h1)]; decide)], by unfold g7S; rw [if_neg (by rw [show in01 wh = false from decide_eq_false (fun z => i_not_lt z.1 h1)]; decide)]⟩
  · skip
    refine g_iload_1 C dX7_giveUp_4 rfl ?_
    refine g_iconst (v := 1) C dX7_giveUp_5 rfl (by decide) ?_
    refine g_icmp_le (tgt := 12) C dX7_giveUp_6 rfl (by decide) (fun h6 => ?_) (fun h6 => ?_)
    · skip
      refine g_aload_0 C dX7_giveUp_12 rfl ?_
      refine g_cV0r C dX7_giveUp_13 rfl ml_X7_127 mz_X7_trialNow (ok_X7_trialNow S t nw th nr hC) (by decide) rfl rfl rfl rfl (Nat.le_of_ble_eq_true rfl) (fun hn13 => ?_)
      refine g_cD0i C dX7_giveUp_16 rfl ml_X7_212 mz_X6_cheapestPeace (ok_X6_cheapestPeace (mN S) t (tS S t nw nr) (trS_K _ _ _ _) (trS_R _ _ _ _) (hC.ext (trS_ext S t (mI S nw 0) (alw (nI nr) (mI S nw 2)))).2.2.1 nr (hC.ext (trS_ext S t (mI S nw 0) (alw (nI nr) (mI S nw 2)))).2.2.2.2.2.1 (hC.ext (trS_ext S t (mI S nw 0) (alw (nI nr) (mI S nw 2)))).2.2.2.2.2.2.1 th (hC.ext (trS_ext S t (mI S nw 0) (alw (nI nr) (mI S nw 2)))).2.2.2.2.1.1 (hC.ext (trS_ext S t (mI S nw 0) (alw (nI nr) (mI S nw 2)))).2.2.2.2.1.2 (aN nr (mI S nw 2)) ((trS_2 _ _ _ _).trans (aN_ok hC.2.2.2.2.2.2.1.1 _).1) (aN_ok hC.2.2.2.2.2.2.1.1 _).2 (hC.ext (trS_ext S t (mI S nw 0) (alw (nI nr) (mI S nw 2)))).2.2.2.2.2.2.2) (by decide) rfl rfl (trS_K S t (mI S nw 0) (alw (nI nr) (mI S nw 2))) (by decide) rfl (Nat.le_of_ble_eq_true rfl) (fun hn16 => ?_)
      refine g_istore_2 C rfl dX7_giveUp_19 rfl ?_
      refine g_iload_1 C dX7_giveUp_20 rfl ?_
      refine g_iconst (v := 1) C dX7_giveUp_21 rfl (by decide) ?_
      refine g_icmp_ne (tgt := 41) C dX7_giveUp_22 rfl (by decide) (fun h22 => ?_) (fun h22 => ?_)
      · skip
        refine g_iload_2 C dX7_giveUp_41 rfl ?_
        exact g_iret C rfl dX7_giveUp_42 ⟨by unfold g7V; rw [if_pos (show in01 wh = true from decide_eq_true ⟨lt0_n h1, h6⟩), if_neg (fun q => h22 q.1)] <;> rfl, by unfold g7S; rw [if_pos (show in01 wh = true from decide_eq_true ⟨lt0_n h1, h6⟩)] <;> rfl⟩
      · skip
        refine g_iload_2 C dX7_giveUp_25 rfl ?_
        refine g_iconst (v := -1) C dX7_giveUp_26 rfl (by decide) ?_
        refine g_icmp_eq (tgt := 41) C dX7_giveUp_27 rfl (by decide) (fun h27 => ?_) (fun h27 => ?_)
        · skip
          refine g_iload_2 C dX7_giveUp_41 rfl ?_
          exact g_iret C rfl dX7_giveUp_42 ⟨by unfold g7V; rw [if_pos (show in01 wh = true from decide_eq_true ⟨lt0_n h1, h6⟩), if_neg (fun q => q.2 h27)] <;> rfl, by unfold g7S; rw [if_pos (show in01 wh = true from decide_eq_true ⟨lt0_n h1, h6⟩)] <;> rfl⟩
        · skip
          refine g_aload_0 C dX7_giveUp_30 rfl ?_
          refine g_getr C 8 dX7_giveUp_31 rfl rfl rfl fl_X7_57 (hC.ext (trS_ext S t (mI S nw 0) (alw (nI nr) (mI S nw 2)))).2.1.1 ?_
          refine g_iload_2 C dX7_giveUp_34 rfl ?_
          refine g_cD1i C dX7_giveUp_35 rfl ml_X7_215 mz_X4_costOf (ok_X4_costOf _ t (tS S t nw nr) (hC.ext (trS_ext S t (mI S nw 0) (alw (nI nr) (mI S nw 2)))).2.2.1 nr (hC.ext (trS_ext S t (mI S nw 0) (alw (nI nr) (mI S nw 2)))).2.2.2.2.2.1 (hC.ext (trS_ext S t (mI S nw 0) (alw (nI nr) (mI S nw 2)))).2.2.2.2.2.2.1.1) (by decide) rfl rfl (hC.ext (trS_ext S t (mI S nw 0) (alw (nI nr) (mI S nw 2)))).2.2.1.1 (by decide) rfl (Nat.le_of_ble_eq_true rfl) (fun hn35 => ?_)
          refine g_goto (tgt := 42) C dX7_giveUp_38 (by decide) ?_
          exact g_iret C rfl dX7_giveUp_42 ⟨by unfold g7V; rw [if_pos (show in01 wh = true from decide_eq_true ⟨lt0_n h1, h6⟩), if_pos ⟨h22, h27⟩] <;> rfl, by unfold g7S; rw [if_pos (show in01 wh = true from decide_eq_true ⟨lt0_n h1, h6⟩)] <;> rfl⟩
    · skip
      refine g_ldc C dX7_giveUp_9 rfl kc_X7_75 ?_
      exact g_iret C rfl dX7_giveUp_11 ⟨by unfold g7V; rw [if_neg (by rw [show in01 wh = false from decide_eq_false (fun z => h6 z.2)]; decide)], by unfold g7S; rw [if_neg (by rw [show in01 wh = false from decide_eq_false (fun z => h6 z.2)]; decide)]⟩

set_option maxHeartbeats 4000000 in
set_option maxRecDepth 20000 in
theorem ok_X7_judge (S : Mem) (t nw th nr : Nat) (hC : CW S t nw th nr) (bn : Nat) (hbn : mI S 9 2 = nI bn) (hb : bn ≤ 15) : Ok yX7_judge cX7_judge 1 (some .int) 3 1 3 [.ref 0] S (RI (fwF (clo nr (mA (tS S t nw nr) (t + 2)) (mA (tS S t nw nr) (t + 3)) (mI (tS S t nw nr) (mN S) 2) (mI (tS S t nw nr) (mN S) 1)) (mA (tS S t nw nr) 10) (mA (tS S t nw nr) 11) bn 0) (tS S t nw nr)) := by
  have hR := hC.1.1
  refine Ok.of (by decide) (Nat.le_of_ble_eq_true rfl) rfl (fun κ C hx => ?_)
  have C : Cx RX7 cX7_judge 1 (some .int) 3 false _ κ := C
  refine g_aload_0 C dX7_judge_0 rfl ?_
  refine g_getr C 3 dX7_judge_1 rfl rfl rfl fl_X7_33 (hR 0 3 9 rfl) ?_
  refine g_aload_0 C dX7_judge_4 rfl ?_
  refine g_cV0r C dX7_judge_5 rfl ml_X7_127 mz_X7_trialNow (ok_X7_trialNow S t nw th nr hC) (by decide) rfl rfl rfl rfl (Nat.le_of_ble_eq_true rfl) (fun hn5 => ?_)
  refine g_cD0i C dX7_judge_8 rfl ml_X7_131 mz_X6_conclusions (ok_X6_conclusions (mN S) t (tS S t nw nr) (trS_K _ _ _ _) (trS_R _ _ _ _) (hC.ext (trS_ext S t (mI S nw 0) (alw (nI nr) (mI S nw 2)))).2.2.1 nr (hC.ext (trS_ext S t (mI S nw 0) (alw (nI nr) (mI S nw 2)))).2.2.2.2.2.1 (hC.ext (trS_ext S t (mI S nw 0) (alw (nI nr) (mI S nw 2)))).2.2.2.2.2.2.1) (by decide) rfl rfl (trS_K S t (mI S nw 0) (alw (nI nr) (mI S nw 2))) (by decide) rfl (Nat.le_of_ble_eq_true rfl) (fun hn8 => ?_)
  refine g_cV1i C dX7_judge_11 rfl ml_X7_269 mz_X0_firstWrong (ok_X0_firstWrong _ (tS S t nw nr) (hC.ext (trS_ext S t (mI S nw 0) (alw (nI nr) (mI S nw 2)))).1.1 bn (by rw [show mI (tS S t nw nr) 9 = mI S 9 from ((trS_ext S t (mI S nw 0) (alw (nI nr) (mI S nw 2))).2 9 (by have := hC.1.2.1; omega)).2.1]; exact hbn) hb) (by decide) rfl rfl rfl rfl (Nat.le_of_ble_eq_true rfl) (fun hn11 => ?_)
  exact g_iret C rfl dX7_judge_14 ⟨rfl, rfl⟩

