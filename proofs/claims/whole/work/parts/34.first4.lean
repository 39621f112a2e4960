def fdC (c : Int32) : Bool := decide (0 ≤ c ∧ c ≤ 255)
def fe7V (tn : Nat) (c : Int32) : Int32 := if fdC c = true then (if tn < 240 then nI (tn + 1) else -1000000004) else -1000000002
def fe7S (S : Mem) (tn : Nat) (c : Int32) : Mem := if fdC c = true then apS S tn c else S
theorem ap_len {S : Mem} {tn : Nat} {c : Int32} (h : tn < 240) : mI (apS S tn c) 1 1 = nI (tn + 1) := by
  unfold apS
  rw [if_pos h]
  rfl
set_option maxHeartbeats 4000000 in
set_option maxRecDepth 20000 in
theorem ok_X7_feed (c : Int32) (S : Mem) (hR : Rs S) (tn : Nat) (htn : mI S 1 1 = nI tn) (ht : tn ≤ 240) : Ok yX7_feed cX7_feed 2 (some .int) 1 0 0 [.ref 0, .int c] S (RI (fe7V tn c) (fe7S S tn c)) := by
  refine Ok.of (by decide) (Nat.le_of_ble_eq_true rfl) rfl (fun κ C hx => ?_)
  have C : Cx RX7 cX7_feed 2 (some .int) 1 false _ κ := C
  refine g_iload_1 C dX7_feed_0 rfl ?_
  refine g_if_lt (tgt := 11) C dX7_feed_1 rfl (by decide) (fun h1 => ?_) (fun h1 => ?_)
  · skip
    refine g_ldc C dX7_feed_11 rfl kc_X7_75 ?_
    exact g_iret C rfl dX7_feed_13 ⟨by unfold fe7V; rw [if_neg (by rw [show fdC c = false from decide_eq_false (fun z => i_not_lt z.1 h1)]; decide)], by unfold fe7S; rw [if_neg (by rw [show fdC c = false from decide_eq_false (fun z => i_not_lt z.1 h1)]; decide)]⟩
  · skip
    refine g_iload_1 C dX7_feed_4 rfl ?_
    refine g_sipush (v := 255) C dX7_feed_5 rfl (by decide) ?_
    refine g_icmp_le (tgt := 14) C dX7_feed_8 rfl (by decide) (fun h8 => ?_) (fun h8 => ?_)
    · skip
      refine g_aload_0 C dX7_feed_14 rfl ?_
      refine g_getr C 0 dX7_feed_15 rfl rfl rfl fl_X7_12 (hR 0 0 1 rfl) ?_
      refine g_iload_1 C dX7_feed_18 rfl ?_
      refine g_cV1i C dX7_feed_19 rfl ml_X7_76 mz_X5_append (ok_X5_append _ S hR tn htn ht) (by decide) rfl rfl rfl rfl (Nat.le_of_ble_eq_true rfl) (fun hn19 => ?_)
      refine g_if_eq (tgt := 35) C dX7_feed_22 rfl (by decide) (fun h22 => ?_) (fun h22 => ?_)
      · skip
        refine g_ldc C dX7_feed_35 rfl kc_X7_84 ?_
        exact g_iret C rfl dX7_feed_37 ⟨by unfold fe7V; rw [if_pos (show fdC c = true from decide_eq_true ⟨lt0_n h1, h8⟩), if_neg (of_decide_eq_false ((bI_0 _).mp h22))], by unfold fe7S; rw [if_pos (show fdC c = true from decide_eq_true ⟨lt0_n h1, h8⟩)]⟩
      · skip
        refine g_aload_0 C dX7_feed_25 rfl ?_
        refine g_getr C 0 dX7_feed_26 rfl rfl rfl fl_X7_12 ((show Rs (apS S tn c) by unfold apS; split <;> exact hR) 0 0 1 rfl) ?_
        refine g_cV0i C dX7_feed_29 rfl ml_X7_80 mz_X5_length (ok_X5_length _) (by decide) rfl rfl rfl rfl (Nat.le_of_ble_eq_true rfl) (fun hn29 => ?_)
        refine g_goto (tgt := 37) C dX7_feed_32 (by decide) ?_
        exact g_iret C rfl dX7_feed_37 ⟨by unfold fe7V; rw [if_pos (show fdC c = true from decide_eq_true ⟨lt0_n h1, h8⟩), if_pos (of_decide_eq_true (nf_t (fun q => h22 ((bI_0 _).mpr q)))), ap_len (of_decide_eq_true (nf_t (fun q => h22 ((bI_0 _).mpr q))))], by unfold fe7S; rw [if_pos (show fdC c = true from decide_eq_true ⟨lt0_n h1, h8⟩)]⟩
    · skip
      refine g_ldc C dX7_feed_11 rfl kc_X7_75 ?_
      exact g_iret C rfl dX7_feed_13 ⟨by unfold fe7V; rw [if_neg (by rw [show fdC c = false from decide_eq_false (fun z => h8 z.2)]; decide)], by unfold fe7S; rw [if_neg (by rw [show fdC c = false from decide_eq_false (fun z => h8 z.2)]; decide)]⟩

def wr7V (th bn : Nat) (s x : Int32) : Int32 := if hsB (2 * nI th) s = true then (if in01 x = true then (if bn < 15 then nI (bn + 1) else -1000000004) else -1000000002) else -1000000001
def wr7S (S : Mem) (th bn : Nat) (s x : Int32) : Mem := if hsB (2 * nI th) s = true then (if in01 x = true then baS S bn s (bI (decide (x = 1))) else S) else S
theorem ba_len {S : Mem} {bn : Nat} {s b : Int32} (h : bn < 15) : mI (baS S bn s b) 9 2 = nI (bn + 1) := by
  unfold baS
  rw [if_pos h]
  rfl
set_option maxHeartbeats 4000000 in
set_option maxRecDepth 20000 in
theorem ok_X7_write (s x : Int32) (S : Mem) (t nw th nr : Nat) (hC : CW S t nw th nr) (bn : Nat) (hbn : mI S 9 2 = nI bn) (hb : bn ≤ 15) : Ok yX7_write cX7_write 3 (some .int) 2 0 0 [.ref 0, .int s, .int x] S (RI (wr7V th bn s x) (wr7S S th bn s x)) := by
  have hR := hC.1.1
  refine Ok.of (by decide) (Nat.le_of_ble_eq_true rfl) rfl (fun κ C hx => ?_)
  have C : Cx RX7 cX7_write 3 (some .int) 2 false _ κ := C
  refine g_aload_0 C dX7_write_0 rfl ?_
  refine g_getr C 8 dX7_write_1 rfl rfl rfl fl_X7_57 hC.2.1.1 ?_
  refine g_iload_1 C dX7_write_4 rfl ?_
  refine g_cD1i C dX7_write_5 rfl ml_X7_162 mz_X4_hasSaying (ok_X4_hasSaying _ t S hC.2.2.1) (by decide) rfl rfl hC.2.2.1.1 (by decide) rfl (Nat.le_of_ble_eq_true rfl) (fun hn5 => ?_)
  rw [hC.2.2.2.2.1.1]
  refine g_if_ne (tgt := 14) C dX7_write_8 rfl (by decide) (fun h8 => ?_) (fun h8 => ?_)
  · skip
    refine g_iload_2 C dX7_write_14 rfl ?_
    refine g_if_lt (tgt := 23) C dX7_write_15 rfl (by decide) (fun h15 => ?_) (fun h15 => ?_)
    · skip
      refine g_ldc C dX7_write_23 rfl kc_X7_75 ?_
      exact g_iret C rfl dX7_write_25 ⟨by unfold wr7V; rw [if_pos (nf_t (fun q => h8 ((bI_0 _).mpr q))), if_neg (by rw [show in01 x = false from decide_eq_false (fun z => i_not_lt z.1 h15)]; decide)], by unfold wr7S; rw [if_pos (nf_t (fun q => h8 ((bI_0 _).mpr q))), if_neg (by rw [show in01 x = false from decide_eq_false (fun z => i_not_lt z.1 h15)]; decide)]⟩
    · skip
      refine g_iload_2 C dX7_write_18 rfl ?_
      refine g_iconst (v := 1) C dX7_write_19 rfl (by decide) ?_
      refine g_icmp_le (tgt := 26) C dX7_write_20 rfl (by decide) (fun h20 => ?_) (fun h20 => ?_)
      · skip
        refine g_aload_0 C dX7_write_26 rfl ?_
        refine g_getr C 3 dX7_write_27 rfl rfl rfl fl_X7_33 (hR 0 3 9 rfl) ?_
        refine g_iload_1 C dX7_write_30 rfl ?_
        refine g_iload_2 C dX7_write_31 rfl ?_
        refine g_iconst (v := 1) C dX7_write_32 rfl (by decide) ?_
        refine g_icmp_ne (tgt := 40) C dX7_write_33 rfl (by decide) (fun h33 => ?_) (fun h33 => ?_)
        · skip
          refine g_iconst (v := 0) C dX7_write_40 rfl (by decide) ?_
          refine g_cV2i C dX7_write_41 rfl ml_X7_266 mz_X0_add (ok_X0_add _ _ (by first | exact Or.inl rfl | exact Or.inr rfl) S hR bn hbn hb) (by decide) rfl rfl rfl rfl (Nat.le_of_ble_eq_true rfl) (fun hn41 => ?_)
          refine g_if_eq (tgt := 57) C dX7_write_44 rfl (by decide) (fun h44 => ?_) (fun h44 => ?_)
          · skip
            refine g_ldc C dX7_write_57 rfl kc_X7_84 ?_
            exact g_iret C rfl dX7_write_59 ⟨by unfold wr7V; rw [if_pos (nf_t (fun q => h8 ((bI_0 _).mpr q))), if_pos (show in01 x = true from decide_eq_true ⟨lt0_n h15, h20⟩), if_neg (of_decide_eq_false ((bI_0 _).mp h44))], by unfold wr7S; rw [if_pos (nf_t (fun q => h8 ((bI_0 _).mpr q))), if_pos (show in01 x = true from decide_eq_true ⟨lt0_n h15, h20⟩), decide_eq_false h33] <;> rfl⟩
          · skip
            refine g_aload_0 C dX7_write_47 rfl ?_
            refine g_getr C 3 dX7_write_48 rfl rfl rfl fl_X7_33 ((show Rs (baS S bn s _) by unfold baS; split <;> exact hR) 0 3 9 rfl) ?_
            refine g_cV0i C dX7_write_51 rfl ml_X7_143 mz_X0_size (ok_X0_size _) (by decide) rfl rfl rfl rfl (Nat.le_of_ble_eq_true rfl) (fun hn51 => ?_)
            refine g_goto (tgt := 59) C dX7_write_54 (by decide) ?_
            exact g_iret C rfl dX7_write_59 ⟨by unfold wr7V; rw [if_pos (nf_t (fun q => h8 ((bI_0 _).mpr q))), if_pos (show in01 x = true from decide_eq_true ⟨lt0_n h15, h20⟩), if_pos (of_decide_eq_true (nf_t (fun q => h44 ((bI_0 _).mpr q)))), ba_len (of_decide_eq_true (nf_t (fun q => h44 ((bI_0 _).mpr q))))], by unfold wr7S; rw [if_pos (nf_t (fun q => h8 ((bI_0 _).mpr q))), if_pos (show in01 x = true from decide_eq_true ⟨lt0_n h15, h20⟩), decide_eq_false h33] <;> rfl⟩
        · skip
          refine g_iconst (v := 1) C dX7_write_36 rfl (by decide) ?_
          refine g_goto (tgt := 41) C dX7_write_37 (by decide) ?_
          refine g_cV2i C dX7_write_41 rfl ml_X7_266 mz_X0_add (ok_X0_add _ _ (by first | exact Or.inl rfl | exact Or.inr rfl) S hR bn hbn hb) (by decide) rfl rfl rfl rfl (Nat.le_of_ble_eq_true rfl) (fun hn41 => ?_)
          refine g_if_eq (tgt := 57) C dX7_write_44 rfl (by decide) (fun h44 => ?_) (fun h44 => ?_)
          · skip
            refine g_ldc C dX7_write_57 rfl kc_X7_84 ?_
            exact g_iret C rfl dX7_write_59 ⟨by unfold wr7V; rw [if_pos (nf_t (fun q => h8 ((bI_0 _).mpr q))), if_pos (show in01 x = true from decide_eq_true ⟨lt0_n h15, h20⟩), if_neg (of_decide_eq_false ((bI_0 _).mp h44))], by unfold wr7S; rw [if_pos (nf_t (fun q => h8 ((bI_0 _).mpr q))), if_pos (show in01 x = true from decide_eq_true ⟨lt0_n h15, h20⟩), decide_eq_true h33] <;> rfl⟩
          · skip
            refine g_aload_0 C dX7_write_47 rfl ?_
            refine g_getr C 3 dX7_write_48 rfl rfl rfl fl_X7_33 ((show Rs (baS S bn s _) by unfold baS; split <;> exact hR) 0 3 9 rfl) ?_
            refine g_cV0i C dX7_write_51 rfl ml_X7_143 mz_X0_size (ok_X0_size _) (by decide) rfl rfl rfl rfl (Nat.le_of_ble_eq_true rfl) (fun hn51 => ?_)
            refine g_goto (tgt := 59) C dX7_write_54 (by decide) ?_
            exact g_iret C rfl dX7_write_59 ⟨by unfold wr7V; rw [if_pos (nf_t (fun q => h8 ((bI_0 _).mpr q))), if_pos (show in01 x = true from decide_eq_true ⟨lt0_n h15, h20⟩), if_pos (of_decide_eq_true (nf_t (fun q => h44 ((bI_0 _).mpr q)))), ba_len (of_decide_eq_true (nf_t (fun q => h44 ((bI_0 _).mpr q))))], by unfold wr7S; rw [if_pos (nf_t (fun q => h8 ((bI_0 _).mpr q))), if_pos (show in01 x = true from decide_eq_true ⟨lt0_n h15, h20⟩), decide_eq_true h33] <;> rfl⟩
      · skip
        refine g_ldc C dX7_write_23 rfl kc_X7_75 ?_
        exact g_iret C rfl dX7_write_25 ⟨by unfold wr7V; rw [if_pos (nf_t (fun q => h8 ((bI_0 _).mpr q))), if_neg (by rw [show in01 x = false from decide_eq_false (fun z => h20 z.2)]; decide)], by unfold wr7S; rw [if_pos (nf_t (fun q => h8 ((bI_0 _).mpr q))), if_neg (by rw [show in01 x = false from decide_eq_false (fun z => h20 z.2)]; decide)]⟩
  · skip
    refine g_ldc C dX7_write_11 rfl kc_X7_148 ?_
    exact g_iret C rfl dX7_write_13 ⟨by unfold wr7V; rw [if_neg (by rw [(bI_0 _).mp h8]; decide)], by unfold wr7S; rw [if_neg (by rw [(bI_0 _).mp h8]; decide)]⟩

noncomputable def as7V (th an : Nat) (x s : Int32) : Int32 := if subB x (one (2 * nI th) - 1) = true ∧ hsB (2 * nI th) s = true then (if an < 6 then nI (an + 1) else -1000000004) else -1000000001
noncomputable def as7S (S : Mem) (th an : Nat) (x s b : Int32) : Mem := if subB x (one (2 * nI th) - 1) = true ∧ hsB (2 * nI th) s = true then qaS S an x s b else S
theorem qa_len {S : Mem} {an : Nat} {x s b : Int32} (h : an < 6) : mI (qaS S an x s b) 5 3 = nI (an + 1) := by
  unfold qaS
  rw [if_pos h]
  rfl
set_option maxHeartbeats 4000000 in
set_option maxRecDepth 20000 in
theorem ok_X7_ask (x s b : Int32) (h01 : b = 0 ∨ b = 1) (S : Mem) (t nw th nr : Nat) (hC : CW S t nw th nr) (an : Nat) (han : mI S 5 3 = nI an) (ha : an ≤ 6) : Ok yX7_ask cX7_ask 4 (some .int) 3 0 0 [.ref 0, .int x, .int s, .int b] S (RI (as7V th an x s) (as7S S th an x s b)) := by
  have hR := hC.1.1
  refine Ok.of (by decide) (Nat.le_of_ble_eq_true rfl) rfl (fun κ C hx => ?_)
  have C : Cx RX7 cX7_ask 4 (some .int) 3 false _ κ := C
  refine g_aload_0 C dX7_ask_0 rfl ?_
  refine g_getr C 8 dX7_ask_1 rfl rfl rfl fl_X7_57 hC.2.1.1 ?_
  refine g_iload_1 C dX7_ask_4 rfl ?_
  refine g_cD1i C dX7_ask_5 rfl ml_X7_201 mz_X4_hasSayings (ok_X4_hasSayings _ t S hC.2.2.1) (by decide) rfl rfl hC.2.2.1.1 (by decide) rfl (Nat.le_of_ble_eq_true rfl) (fun hn5 => ?_)
  rw [hC.2.2.2.2.1.1]
  refine g_if_eq (tgt := 22) C dX7_ask_8 rfl (by decide) (fun h8 => ?_) (fun h8 => ?_)
  · skip
    refine g_ldc C dX7_ask_22 rfl kc_X7_148 ?_
    exact g_iret C rfl dX7_ask_24 ⟨by unfold as7V; rw [if_neg (fun q => by rw [(bI_0 _).mp h8] at q; exact absurd q.1 (by decide))], by unfold as7S; rw [if_neg (fun q => by rw [(bI_0 _).mp h8] at q; exact absurd q.1 (by decide))]⟩
  · skip
    refine g_aload_0 C dX7_ask_11 rfl ?_
    refine g_getr C 8 dX7_ask_12 rfl rfl rfl fl_X7_57 hC.2.1.1 ?_
    refine g_iload_2 C dX7_ask_15 rfl ?_
    refine g_cD1i C dX7_ask_16 rfl ml_X7_162 mz_X4_hasSaying (ok_X4_hasSaying _ t S hC.2.2.1) (by decide) rfl rfl hC.2.2.1.1 (by decide) rfl (Nat.le_of_ble_eq_true rfl) (fun hn16 => ?_)
    rw [hC.2.2.2.2.1.1]
    refine g_if_ne (tgt := 25) C dX7_ask_19 rfl (by decide) (fun h19 => ?_) (fun h19 => ?_)
    · skip
      refine g_aload_0 C dX7_ask_25 rfl ?_
      refine g_getr C 2 dX7_ask_26 rfl rfl rfl fl_X7_26 (hR 0 2 5 rfl) ?_
      refine g_iload_1 C dX7_ask_29 rfl ?_
      refine g_iload_2 C dX7_ask_30 rfl ?_
      refine g_iload_3 C dX7_ask_31 rfl ?_
      refine g_cV3i C dX7_ask_32 rfl ml_X7_244 mz_X3_add (ok_X3_add _ _ _ h01 S hR an han ha) (by decide) rfl rfl rfl rfl (Nat.le_of_ble_eq_true rfl) (fun hn32 => ?_)
      refine g_if_eq (tgt := 48) C dX7_ask_35 rfl (by decide) (fun h35 => ?_) (fun h35 => ?_)
      · skip
        refine g_ldc C dX7_ask_48 rfl kc_X7_84 ?_
        exact g_iret C rfl dX7_ask_50 ⟨by unfold as7V; rw [if_pos ⟨(nf_t (fun q => h8 ((bI_0 _).mpr q))), (nf_t (fun q => h19 ((bI_0 _).mpr q)))⟩, if_neg (of_decide_eq_false ((bI_0 _).mp h35))], by unfold as7S; rw [if_pos ⟨(nf_t (fun q => h8 ((bI_0 _).mpr q))), (nf_t (fun q => h19 ((bI_0 _).mpr q)))⟩]⟩
      · skip
        refine g_aload_0 C dX7_ask_38 rfl ?_
        refine g_getr C 2 dX7_ask_39 rfl rfl rfl fl_X7_26 ((show Rs (qaS S an x s b) by unfold qaS; split <;> exact hR) 0 2 5 rfl) ?_
        refine g_cV0i C dX7_ask_42 rfl ml_X7_140 mz_X3_size (ok_X3_size _) (by decide) rfl rfl rfl rfl (Nat.le_of_ble_eq_true rfl) (fun hn42 => ?_)
        refine g_goto (tgt := 50) C dX7_ask_45 (by decide) ?_
        exact g_iret C rfl dX7_ask_50 ⟨by unfold as7V; rw [if_pos ⟨(nf_t (fun q => h8 ((bI_0 _).mpr q))), (nf_t (fun q => h19 ((bI_0 _).mpr q)))⟩, if_pos (of_decide_eq_true (nf_t (fun q => h35 ((bI_0 _).mpr q)))), qa_len (of_decide_eq_true (nf_t (fun q => h35 ((bI_0 _).mpr q))))], by unfold as7S; rw [if_pos ⟨(nf_t (fun q => h8 ((bI_0 _).mpr q))), (nf_t (fun q => h19 ((bI_0 _).mpr q)))⟩]⟩
    · skip
      refine g_ldc C dX7_ask_22 rfl kc_X7_148 ?_
      exact g_iret C rfl dX7_ask_24 ⟨by unfold as7V; rw [if_neg (fun q => by rw [(bI_0 _).mp h19] at q; exact absurd q.2 (by decide))], by unfold as7S; rw [if_neg (fun q => by rw [(bI_0 _).mp h19] at q; exact absurd q.2 (by decide))]⟩

