def QN (S : Mem) : Prop := ∀ i z, mQ S 4 i = some z → z < mN S ∧ mK S z = 2
theorem QN.m {S : Mem} (h : QN S) : QM S := fun i z e => (h i z e).2
theorem QN.ext {S T : Mem} (h : QN S) (h44 : 44 ≤ mN S) (hE : Ext S T) : QN T := fun i z e => by
  rw [(hE.2 4 (by omega)).2.2.2.2.2] at e
  have h1 := h i z e
  rw [(hE.2 z h1.1).1]
  exact ⟨by have := hE.1; omega, h1.2⟩
def moS (S : Mem) (a b c e : Int32) : Mem := sI (sI (sI (sI (sN S 2) (mN S) 0 a) (mN S) 1 b) (mN S) 2 c) (mN S) 3 e
theorem moS_ext (S : Mem) (a b c e : Int32) : Ext S (moS S a b c e) := ((((Ext.new S 2).i (Nat.le_refl _) 0 _).i (Nat.le_refl _) 1 _).i (Nat.le_refl _) 2 _).i (Nat.le_refl _) 3 _
def neS (S : Mem) (un nw : Nat) (a b c e : Int32) : Mem := chS (moS S a b c e) un nw (mN S)
def HB (S : Mem) (un : Nat) : Prop := QN S ∧ mI S 3 1 = nI un ∧ un ≤ 20
theorem HB.ext {S T : Mem} {un : Nat} (h : HB S un) (h44 : 44 ≤ mN S) (hE : Ext S T) : HB T un := ⟨h.1.ext h44 hE, by rw [(hE.2 3 (by omega)).2.1]; exact h.2.1, h.2.2⟩
def s7V (S : Mem) (th nw : Nat) (s : Int32) : Int32 := if hsB (2 * nI th) s = true then bI (hasB (mI S nw 0) s) else -1000000001
def s7S (S : Mem) (th nw un : Nat) (s b : Int32) : Mem := if hsB (2 * nI th) s = true then neS S un nw (withI (mI S nw 0) s b) (mI S nw 1) (mI S nw 2) (mI S nw 3) else S
def f7V (S : Mem) (nr nw : Nat) (s : Int32) : Int32 := if hsB (nI nr) s = true then bI (hasB (mI S nw 2) s) else -1000000001
def f7S (S : Mem) (nr nw un : Nat) (s b : Int32) : Mem := if hsB (nI nr) s = true then neS S un nw (mI S nw 0) (mI S nw 1) (withI (mI S nw 2) s b) (mI S nw 3) else S
set_option maxHeartbeats 4000000 in
set_option maxRecDepth 20000 in
theorem ok_X7_see (s b : Int32) (S : Mem) (t nw th nr : Nat) (hC : CW S t nw th nr) (un : Nat) (hU : HB S un) : Ok yX7_see cX7_see 4 (some .int) 3 1 4 [.ref 0, .int s, .int b] S (RI (s7V S th nw s) (s7S S th nw un s b)) := by
  have hR := hC.1.1
  refine Ok.of (by decide) (Nat.le_of_ble_eq_true rfl) rfl (fun κ C hx => ?_)
  have C : Cx RX7 cX7_see 4 (some .int) 3 false _ κ := C
  refine g_aload_0 C dX7_see_0 rfl ?_
  refine g_getr C 8 dX7_see_1 rfl rfl rfl fl_X7_57 hC.2.1.1 ?_
  refine g_iload_1 C dX7_see_4 rfl ?_
  refine g_cD1i C dX7_see_5 rfl ml_X7_162 mz_X4_hasSaying (ok_X4_hasSaying _ t S hC.2.2.1) (by decide) rfl rfl hC.2.2.1.1 (by decide) rfl (Nat.le_of_ble_eq_true rfl) (fun hn5 => ?_)
  rw [hC.2.2.2.2.1.1]
  refine g_if_ne (tgt := 14) C dX7_see_8 rfl (by decide) (fun h8 => ?_) (fun h8 => ?_)
  · skip
    refine g_aload_0 C dX7_see_14 rfl ?_
    refine g_getr C 10 dX7_see_15 rfl rfl rfl fl_X7_67 hC.2.1.2 ?_
    refine g_getiD C 0 dX7_see_18 rfl hC.2.2.2.1 (by decide) (by decide) rfl fl_X7_115 ?_
    refine g_iload_1 C dX7_see_21 rfl ?_
    refine g_cS2i C dX7_see_22 rfl ml_X7_158 mz_X7_has (ok_X7_has _ _ S) (by decide) rfl rfl (Nat.le_of_ble_eq_true rfl) (fun hn22 => ?_)
    refine g_if_eq (tgt := 32) C dX7_see_25 rfl (by decide) (fun h25 => ?_) (fun h25 => ?_)
    · skip
      refine g_iconst (v := 0) C dX7_see_32 rfl (by decide) ?_
      refine g_istore_3 C rfl dX7_see_33 rfl ?_
      refine g_aload_0 C dX7_see_34 rfl ?_
      refine g_new (rc := 0) (rs := 0) C 2 dX7_see_35 rfl (by decide) cl_X7_37 ic_X2 in_X2 (fun h => absurd h (by have := hC.1.2.1; omega)) ?_
      refine g_dup C dX7_see_38 rfl rfl ?_
      refine g_aload_0 C dX7_see_39 rfl ?_
      refine g_getr C 10 dX7_see_40 rfl rfl rfl fl_X7_67 (hC.ext (Ext.new S 2)).2.1.2 ?_
      refine g_getiD C 0 dX7_see_43 rfl (hC.ext (Ext.new S 2)).2.2.2.1 (by decide) (by decide) rfl fl_X7_115 ?_
      rw [show mI (sN S 2) nw = mI S nw from ((Ext.new S 2).2 nw hC.1.2.2.2).2.1]
      refine g_iload_1 C dX7_see_46 rfl ?_
      refine g_iload_2 C dX7_see_47 rfl ?_
      refine g_cS3i C dX7_see_48 rfl ml_X7_165 mz_X7_put (ok_X7_put _ _ _ (sN S 2)) (by decide) rfl rfl (Nat.le_of_ble_eq_true rfl) (fun hn48 => ?_)
      refine g_aload_0 C dX7_see_51 rfl ?_
      refine g_getr C 10 dX7_see_52 rfl rfl rfl fl_X7_67 (hC.ext (Ext.new S 2)).2.1.2 ?_
      refine g_getiD C 1 dX7_see_55 rfl (hC.ext (Ext.new S 2)).2.2.2.1 (by decide) (by decide) rfl fl_X7_118 ?_
      rw [show mI (sN S 2) nw = mI S nw from ((Ext.new S 2).2 nw hC.1.2.2.2).2.1]
      refine g_aload_0 C dX7_see_58 rfl ?_
      refine g_getr C 10 dX7_see_59 rfl rfl rfl fl_X7_67 (hC.ext (Ext.new S 2)).2.1.2 ?_
      refine g_getiD C 2 dX7_see_62 rfl (hC.ext (Ext.new S 2)).2.2.2.1 (by decide) (by decide) rfl fl_X7_121 ?_
      rw [show mI (sN S 2) nw = mI S nw from ((Ext.new S 2).2 nw hC.1.2.2.2).2.1]
      refine g_aload_0 C dX7_see_65 rfl ?_
      refine g_getr C 10 dX7_see_66 rfl rfl rfl fl_X7_67 (hC.ext (Ext.new S 2)).2.1.2 ?_
      refine g_getiD C 3 dX7_see_69 rfl (hC.ext (Ext.new S 2)).2.2.2.1 (by decide) (by decide) rfl fl_X7_124 ?_
      rw [show mI (sN S 2) nw = mI S nw from ((Ext.new S 2).2 nw hC.1.2.2.2).2.1]
      refine g_cI4 C dX7_see_72 rfl ml_X7_64 mz_X2_init (ok_X2_init (mN S) _ _ _ _ (sN S 2) mK_sN) (by decide) rfl rfl (Nat.le_of_ble_eq_true rfl) (fun hn72 => ?_)
      refine g_cV1v C dX7_see_75 rfl ml_X7_169 mz_X7_change (ok_X7_change (mN S) _ t nw th nr (hC.ext (moS_ext S _ _ _ _)) (hU.ext hC.1.2.1 (moS_ext S _ _ _ _)).1.m un (hU.ext hC.1.2.1 (moS_ext S _ _ _ _)).2.1 hU.2.2) (by decide) rfl rfl rfl rfl (Nat.le_of_ble_eq_true rfl) (fun hn75 => ?_)
      refine g_iload_3 C dX7_see_78 rfl ?_
      exact g_iret C rfl dX7_see_79 ⟨by unfold s7V; rw [if_pos (nf_t (fun q => h8 ((bI_0 _).mpr q))), (bI_0 _).mp h25]; rfl, by unfold s7S; rw [if_pos (nf_t (fun q => h8 ((bI_0 _).mpr q)))]; rfl⟩
    · skip
      refine g_iconst (v := 1) C dX7_see_28 rfl (by decide) ?_
      refine g_goto (tgt := 33) C dX7_see_29 (by decide) ?_
      refine g_istore_3 C rfl dX7_see_33 rfl ?_
      refine g_aload_0 C dX7_see_34 rfl ?_
      refine g_new (rc := 0) (rs := 0) C 2 dX7_see_35 rfl (by decide) cl_X7_37 ic_X2 in_X2 (fun h => absurd h (by have := hC.1.2.1; omega)) ?_
      refine g_dup C dX7_see_38 rfl rfl ?_
      refine g_aload_0 C dX7_see_39 rfl ?_
      refine g_getr C 10 dX7_see_40 rfl rfl rfl fl_X7_67 (hC.ext (Ext.new S 2)).2.1.2 ?_
      refine g_getiD C 0 dX7_see_43 rfl (hC.ext (Ext.new S 2)).2.2.2.1 (by decide) (by decide) rfl fl_X7_115 ?_
      rw [show mI (sN S 2) nw = mI S nw from ((Ext.new S 2).2 nw hC.1.2.2.2).2.1]
      refine g_iload_1 C dX7_see_46 rfl ?_
      refine g_iload_2 C dX7_see_47 rfl ?_
      refine g_cS3i C dX7_see_48 rfl ml_X7_165 mz_X7_put (ok_X7_put _ _ _ (sN S 2)) (by decide) rfl rfl (Nat.le_of_ble_eq_true rfl) (fun hn48 => ?_)
      refine g_aload_0 C dX7_see_51 rfl ?_
      refine g_getr C 10 dX7_see_52 rfl rfl rfl fl_X7_67 (hC.ext (Ext.new S 2)).2.1.2 ?_
      refine g_getiD C 1 dX7_see_55 rfl (hC.ext (Ext.new S 2)).2.2.2.1 (by decide) (by decide) rfl fl_X7_118 ?_
      rw [show mI (sN S 2) nw = mI S nw from ((Ext.new S 2).2 nw hC.1.2.2.2).2.1]
      refine g_aload_0 C dX7_see_58 rfl ?_
      refine g_getr C 10 dX7_see_59 rfl rfl rfl fl_X7_67 (hC.ext (Ext.new S 2)).2.1.2 ?_
      refine g_getiD C 2 dX7_see_62 rfl (hC.ext (Ext.new S 2)).2.2.2.1 (by decide) (by decide) rfl fl_X7_121 ?_
      rw [show mI (sN S 2) nw = mI S nw from ((Ext.new S 2).2 nw hC.1.2.2.2).2.1]
      refine g_aload_0 C dX7_see_65 rfl ?_
      refine g_getr C 10 dX7_see_66 rfl rfl rfl fl_X7_67 (hC.ext (Ext.new S 2)).2.1.2 ?_
      refine g_getiD C 3 dX7_see_69 rfl (hC.ext (Ext.new S 2)).2.2.2.1 (by decide) (by decide) rfl fl_X7_124 ?_
      rw [show mI (sN S 2) nw = mI S nw from ((Ext.new S 2).2 nw hC.1.2.2.2).2.1]
      refine g_cI4 C dX7_see_72 rfl ml_X7_64 mz_X2_init (ok_X2_init (mN S) _ _ _ _ (sN S 2) mK_sN) (by decide) rfl rfl (Nat.le_of_ble_eq_true rfl) (fun hn72 => ?_)
      refine g_cV1v C dX7_see_75 rfl ml_X7_169 mz_X7_change (ok_X7_change (mN S) _ t nw th nr (hC.ext (moS_ext S _ _ _ _)) (hU.ext hC.1.2.1 (moS_ext S _ _ _ _)).1.m un (hU.ext hC.1.2.1 (moS_ext S _ _ _ _)).2.1 hU.2.2) (by decide) rfl rfl rfl rfl (Nat.le_of_ble_eq_true rfl) (fun hn75 => ?_)
      refine g_iload_3 C dX7_see_78 rfl ?_
      exact g_iret C rfl dX7_see_79 ⟨by unfold s7V; rw [if_pos (nf_t (fun q => h8 ((bI_0 _).mpr q))), (nf_t (fun q => h25 ((bI_0 _).mpr q)))]; rfl, by unfold s7S; rw [if_pos (nf_t (fun q => h8 ((bI_0 _).mpr q)))]; rfl⟩
  · skip
    refine g_ldc C dX7_see_11 rfl kc_X7_148 ?_
    exact g_iret C rfl dX7_see_13 ⟨by unfold s7V; rw [if_neg (by rw [(bI_0 _).mp h8]; decide)], by unfold s7S; rw [if_neg (by rw [(bI_0 _).mp h8]; decide)]⟩

set_option maxHeartbeats 4000000 in
set_option maxRecDepth 20000 in
theorem ok_X7_forbid (s b : Int32) (S : Mem) (t nw th nr : Nat) (hC : CW S t nw th nr) (un : Nat) (hU : HB S un) : Ok yX7_forbid cX7_forbid 4 (some .int) 3 1 4 [.ref 0, .int s, .int b] S (RI (f7V S nr nw s) (f7S S nr nw un s b)) := by
  have hR := hC.1.1
  refine Ok.of (by decide) (Nat.le_of_ble_eq_true rfl) rfl (fun κ C hx => ?_)
  have C : Cx RX7 cX7_forbid 4 (some .int) 3 false _ κ := C
  refine g_aload_0 C dX7_forbid_0 rfl ?_
  refine g_getr C 8 dX7_forbid_1 rfl rfl rfl fl_X7_57 hC.2.1.1 ?_
  refine g_iload_1 C dX7_forbid_4 rfl ?_
  refine g_cD1i C dX7_forbid_5 rfl ml_X7_145 mz_X4_hasRule (ok_X4_hasRule _ t S hC.2.2.1) (by decide) rfl rfl hC.2.2.1.1 (by decide) rfl (Nat.le_of_ble_eq_true rfl) (fun hn5 => ?_)
  rw [hC.2.2.2.2.2.1]
  refine g_if_ne (tgt := 14) C dX7_forbid_8 rfl (by decide) (fun h8 => ?_) (fun h8 => ?_)
  · skip
    refine g_aload_0 C dX7_forbid_14 rfl ?_
    refine g_getr C 10 dX7_forbid_15 rfl rfl rfl fl_X7_67 hC.2.1.2 ?_
    refine g_getiD C 2 dX7_forbid_18 rfl hC.2.2.2.1 (by decide) (by decide) rfl fl_X7_121 ?_
    refine g_iload_1 C dX7_forbid_21 rfl ?_
    refine g_cS2i C dX7_forbid_22 rfl ml_X7_158 mz_X7_has (ok_X7_has _ _ S) (by decide) rfl rfl (Nat.le_of_ble_eq_true rfl) (fun hn22 => ?_)
    refine g_if_eq (tgt := 32) C dX7_forbid_25 rfl (by decide) (fun h25 => ?_) (fun h25 => ?_)
    · skip
      refine g_iconst (v := 0) C dX7_forbid_32 rfl (by decide) ?_
      refine g_istore_3 C rfl dX7_forbid_33 rfl ?_
      refine g_aload_0 C dX7_forbid_34 rfl ?_
      refine g_new (rc := 0) (rs := 0) C 2 dX7_forbid_35 rfl (by decide) cl_X7_37 ic_X2 in_X2 (fun h => absurd h (by have := hC.1.2.1; omega)) ?_
      refine g_dup C dX7_forbid_38 rfl rfl ?_
      refine g_aload_0 C dX7_forbid_39 rfl ?_
      refine g_getr C 10 dX7_forbid_40 rfl rfl rfl fl_X7_67 (hC.ext (Ext.new S 2)).2.1.2 ?_
      refine g_getiD C 0 dX7_forbid_43 rfl (hC.ext (Ext.new S 2)).2.2.2.1 (by decide) (by decide) rfl fl_X7_115 ?_
      rw [show mI (sN S 2) nw = mI S nw from ((Ext.new S 2).2 nw hC.1.2.2.2).2.1]
      refine g_aload_0 C dX7_forbid_46 rfl ?_
      refine g_getr C 10 dX7_forbid_47 rfl rfl rfl fl_X7_67 (hC.ext (Ext.new S 2)).2.1.2 ?_
      refine g_getiD C 1 dX7_forbid_50 rfl (hC.ext (Ext.new S 2)).2.2.2.1 (by decide) (by decide) rfl fl_X7_118 ?_
      rw [show mI (sN S 2) nw = mI S nw from ((Ext.new S 2).2 nw hC.1.2.2.2).2.1]
      refine g_aload_0 C dX7_forbid_53 rfl ?_
      refine g_getr C 10 dX7_forbid_54 rfl rfl rfl fl_X7_67 (hC.ext (Ext.new S 2)).2.1.2 ?_
      refine g_getiD C 2 dX7_forbid_57 rfl (hC.ext (Ext.new S 2)).2.2.2.1 (by decide) (by decide) rfl fl_X7_121 ?_
      rw [show mI (sN S 2) nw = mI S nw from ((Ext.new S 2).2 nw hC.1.2.2.2).2.1]
      refine g_iload_1 C dX7_forbid_60 rfl ?_
      refine g_iload_2 C dX7_forbid_61 rfl ?_
      refine g_cS3i C dX7_forbid_62 rfl ml_X7_165 mz_X7_put (ok_X7_put _ _ _ (sN S 2)) (by decide) rfl rfl (Nat.le_of_ble_eq_true rfl) (fun hn62 => ?_)
      refine g_aload_0 C dX7_forbid_65 rfl ?_
      refine g_getr C 10 dX7_forbid_66 rfl rfl rfl fl_X7_67 (hC.ext (Ext.new S 2)).2.1.2 ?_
      refine g_getiD C 3 dX7_forbid_69 rfl (hC.ext (Ext.new S 2)).2.2.2.1 (by decide) (by decide) rfl fl_X7_124 ?_
      rw [show mI (sN S 2) nw = mI S nw from ((Ext.new S 2).2 nw hC.1.2.2.2).2.1]
      refine g_cI4 C dX7_forbid_72 rfl ml_X7_64 mz_X2_init (ok_X2_init (mN S) _ _ _ _ (sN S 2) mK_sN) (by decide) rfl rfl (Nat.le_of_ble_eq_true rfl) (fun hn72 => ?_)
      refine g_cV1v C dX7_forbid_75 rfl ml_X7_169 mz_X7_change (ok_X7_change (mN S) _ t nw th nr (hC.ext (moS_ext S _ _ _ _)) (hU.ext hC.1.2.1 (moS_ext S _ _ _ _)).1.m un (hU.ext hC.1.2.1 (moS_ext S _ _ _ _)).2.1 hU.2.2) (by decide) rfl rfl rfl rfl (Nat.le_of_ble_eq_true rfl) (fun hn75 => ?_)
      refine g_iload_3 C dX7_forbid_78 rfl ?_
      exact g_iret C rfl dX7_forbid_79 ⟨by unfold f7V; rw [if_pos (nf_t (fun q => h8 ((bI_0 _).mpr q))), (bI_0 _).mp h25]; rfl, by unfold f7S; rw [if_pos (nf_t (fun q => h8 ((bI_0 _).mpr q)))]; rfl⟩
    · skip
      refine g_iconst (v := 1) C dX7_forbid_28 rfl (by decide) ?_
      refine g_goto (tgt := 33) C dX7_forbid_29 (by decide) ?_
      refine g_istore_3 C rfl dX7_forbid_33 rfl ?_
      refine g_aload_0 C dX7_forbid_34 rfl ?_
      refine g_new (rc := 0) (rs := 0) C 2 dX7_forbid_35 rfl (by decide) cl_X7_37 ic_X2 in_X2 (fun h => absurd h (by have := hC.1.2.1; omega)) ?_
      refine g_dup C dX7_forbid_38 rfl rfl ?_
      refine g_aload_0 C dX7_forbid_39 rfl ?_
      refine g_getr C 10 dX7_forbid_40 rfl rfl rfl fl_X7_67 (hC.ext (Ext.new S 2)).2.1.2 ?_
      refine g_getiD C 0 dX7_forbid_43 rfl (hC.ext (Ext.new S 2)).2.2.2.1 (by decide) (by decide) rfl fl_X7_115 ?_
      rw [show mI (sN S 2) nw = mI S nw from ((Ext.new S 2).2 nw hC.1.2.2.2).2.1]
      refine g_aload_0 C dX7_forbid_46 rfl ?_
      refine g_getr C 10 dX7_forbid_47 rfl rfl rfl fl_X7_67 (hC.ext (Ext.new S 2)).2.1.2 ?_
      refine g_getiD C 1 dX7_forbid_50 rfl (hC.ext (Ext.new S 2)).2.2.2.1 (by decide) (by decide) rfl fl_X7_118 ?_
      rw [show mI (sN S 2) nw = mI S nw from ((Ext.new S 2).2 nw hC.1.2.2.2).2.1]
      refine g_aload_0 C dX7_forbid_53 rfl ?_
      refine g_getr C 10 dX7_forbid_54 rfl rfl rfl fl_X7_67 (hC.ext (Ext.new S 2)).2.1.2 ?_
      refine g_getiD C 2 dX7_forbid_57 rfl (hC.ext (Ext.new S 2)).2.2.2.1 (by decide) (by decide) rfl fl_X7_121 ?_
      rw [show mI (sN S 2) nw = mI S nw from ((Ext.new S 2).2 nw hC.1.2.2.2).2.1]
      refine g_iload_1 C dX7_forbid_60 rfl ?_
      refine g_iload_2 C dX7_forbid_61 rfl ?_
      refine g_cS3i C dX7_forbid_62 rfl ml_X7_165 mz_X7_put (ok_X7_put _ _ _ (sN S 2)) (by decide) rfl rfl (Nat.le_of_ble_eq_true rfl) (fun hn62 => ?_)
      refine g_aload_0 C dX7_forbid_65 rfl ?_
      refine g_getr C 10 dX7_forbid_66 rfl rfl rfl fl_X7_67 (hC.ext (Ext.new S 2)).2.1.2 ?_
      refine g_getiD C 3 dX7_forbid_69 rfl (hC.ext (Ext.new S 2)).2.2.2.1 (by decide) (by decide) rfl fl_X7_124 ?_
      rw [show mI (sN S 2) nw = mI S nw from ((Ext.new S 2).2 nw hC.1.2.2.2).2.1]
      refine g_cI4 C dX7_forbid_72 rfl ml_X7_64 mz_X2_init (ok_X2_init (mN S) _ _ _ _ (sN S 2) mK_sN) (by decide) rfl rfl (Nat.le_of_ble_eq_true rfl) (fun hn72 => ?_)
      refine g_cV1v C dX7_forbid_75 rfl ml_X7_169 mz_X7_change (ok_X7_change (mN S) _ t nw th nr (hC.ext (moS_ext S _ _ _ _)) (hU.ext hC.1.2.1 (moS_ext S _ _ _ _)).1.m un (hU.ext hC.1.2.1 (moS_ext S _ _ _ _)).2.1 hU.2.2) (by decide) rfl rfl rfl rfl (Nat.le_of_ble_eq_true rfl) (fun hn75 => ?_)
      refine g_iload_3 C dX7_forbid_78 rfl ?_
      exact g_iret C rfl dX7_forbid_79 ⟨by unfold f7V; rw [if_pos (nf_t (fun q => h8 ((bI_0 _).mpr q))), (nf_t (fun q => h25 ((bI_0 _).mpr q)))]; rfl, by unfold f7S; rw [if_pos (nf_t (fun q => h8 ((bI_0 _).mpr q)))]; rfl⟩
  · skip
    refine g_ldc C dX7_forbid_11 rfl kc_X7_148 ?_
    exact g_iret C rfl dX7_forbid_13 ⟨by unfold f7V; rw [if_neg (by rw [(bI_0 _).mp h8]; decide)], by unfold f7S; rw [if_neg (by rw [(bI_0 _).mp h8]; decide)]⟩

def d7V (S : Mem) (th nw : Nat) : Int32 := if nI th = 0 then -1000000003 else mI S nw 1
def d7S (S : Mem) (th nw un : Nat) : Mem := if nI th = 0 then S else neS S un nw (mI S nw 0) 0 (mI S nw 2) (mI S nw 3)
noncomputable def e7C (S : Mem) (t nw nr : Nat) : Int32 := clo nr (mA S (t + 2)) (mA S (t + 3)) (alw (nI nr) (mI S nw 2)) (mI S nw 0 ||| mI S nw 1)
noncomputable def e7V (S : Mem) (t nw th nr : Nat) : Int32 := if nI th = 0 then -1000000003 else if mI S nw 3 ≤ 9000 then e7C S t nw nr else -1000000004
noncomputable def e7S (S : Mem) (t nw th nr un : Nat) : Mem := if nI th = 0 then S else if mI S nw 3 ≤ 9000 then neS S un nw (mI S nw 0) (e7C S t nw nr) (mI S nw 2) (mI S nw 3 + 1) else S
set_option maxHeartbeats 4000000 in
set_option maxRecDepth 20000 in
theorem ok_X7_drop (S : Mem) (t nw th nr : Nat) (hC : CW S t nw th nr) (un : Nat) (hU : HB S un) : Ok yX7_drop cX7_drop 2 (some .int) 3 1 4 [.ref 0] S (RI (d7V S th nw) (d7S S th nw un)) := by
  have hR := hC.1.1
  refine Ok.of (by decide) (Nat.le_of_ble_eq_true rfl) rfl (fun κ C hx => ?_)
  have C : Cx RX7 cX7_drop 2 (some .int) 3 false _ κ := C
  refine g_aload_0 C dX7_drop_0 rfl ?_
  refine g_getr C 8 dX7_drop_1 rfl rfl rfl fl_X7_57 hC.2.1.1 ?_
  refine g_cD0i C dX7_drop_4 rfl ml_X7_173 mz_X4_isNone (ok_X4_isNone t S hC.2.2.1) (by decide) rfl rfl hC.2.2.1.1 (by decide) rfl (Nat.le_of_ble_eq_true rfl) (fun hn4 => ?_)
  rw [hC.2.2.2.2.1.1]
  refine g_if_eq (tgt := 13) C dX7_drop_7 rfl (by decide) (fun h7 => ?_) (fun h7 => ?_)
  · skip
    refine g_aload_0 C dX7_drop_13 rfl ?_
    refine g_getr C 10 dX7_drop_14 rfl rfl rfl fl_X7_67 hC.2.1.2 ?_
    refine g_getiD C 1 dX7_drop_17 rfl hC.2.2.2.1 (by decide) (by decide) rfl fl_X7_118 ?_
    refine g_istore_1 C rfl dX7_drop_20 rfl ?_
    refine g_aload_0 C dX7_drop_21 rfl ?_
    refine g_new (rc := 0) (rs := 0) C 2 dX7_drop_22 rfl (by decide) cl_X7_37 ic_X2 in_X2 (fun h => absurd h (by have := hC.1.2.1; omega)) ?_
    refine g_dup C dX7_drop_25 rfl rfl ?_
    refine g_aload_0 C dX7_drop_26 rfl ?_
    refine g_getr C 10 dX7_drop_27 rfl rfl rfl fl_X7_67 (hC.ext (Ext.new S 2)).2.1.2 ?_
    refine g_getiD C 0 dX7_drop_30 rfl (hC.ext (Ext.new S 2)).2.2.2.1 (by decide) (by decide) rfl fl_X7_115 ?_
    rw [show mI (sN S 2) nw = mI S nw from ((Ext.new S 2).2 nw hC.1.2.2.2).2.1]
    refine g_iconst (v := 0) C dX7_drop_33 rfl (by decide) ?_
    refine g_aload_0 C dX7_drop_34 rfl ?_
    refine g_getr C 10 dX7_drop_35 rfl rfl rfl fl_X7_67 (hC.ext (Ext.new S 2)).2.1.2 ?_
    refine g_getiD C 2 dX7_drop_38 rfl (hC.ext (Ext.new S 2)).2.2.2.1 (by decide) (by decide) rfl fl_X7_121 ?_
    rw [show mI (sN S 2) nw = mI S nw from ((Ext.new S 2).2 nw hC.1.2.2.2).2.1]
    refine g_aload_0 C dX7_drop_41 rfl ?_
    refine g_getr C 10 dX7_drop_42 rfl rfl rfl fl_X7_67 (hC.ext (Ext.new S 2)).2.1.2 ?_
    refine g_getiD C 3 dX7_drop_45 rfl (hC.ext (Ext.new S 2)).2.2.2.1 (by decide) (by decide) rfl fl_X7_124 ?_
    rw [show mI (sN S 2) nw = mI S nw from ((Ext.new S 2).2 nw hC.1.2.2.2).2.1]
    refine g_cI4 C dX7_drop_48 rfl ml_X7_64 mz_X2_init (ok_X2_init (mN S) _ _ _ _ (sN S 2) mK_sN) (by decide) rfl rfl (Nat.le_of_ble_eq_true rfl) (fun hn48 => ?_)
    refine g_cV1v C dX7_drop_51 rfl ml_X7_169 mz_X7_change (ok_X7_change (mN S) _ t nw th nr (hC.ext (moS_ext S _ _ _ _)) (hU.ext hC.1.2.1 (moS_ext S _ _ _ _)).1.m un (hU.ext hC.1.2.1 (moS_ext S _ _ _ _)).2.1 hU.2.2) (by decide) rfl rfl rfl rfl (Nat.le_of_ble_eq_true rfl) (fun hn51 => ?_)
    refine g_iload_1 C dX7_drop_54 rfl ?_
    exact g_iret C rfl dX7_drop_55 ⟨by unfold d7V; rw [if_neg (of_decide_eq_false ((bI_0 _).mp h7))], by unfold d7S; rw [if_neg (of_decide_eq_false ((bI_0 _).mp h7))]; rfl⟩
  · skip
    refine g_ldc C dX7_drop_10 rfl kc_X7_177 ?_
    exact g_iret C rfl dX7_drop_12 ⟨by unfold d7V; rw [if_pos (of_decide_eq_true (nf_t (fun q => h7 ((bI_0 _).mpr q))))], by unfold d7S; rw [if_pos (of_decide_eq_true (nf_t (fun q => h7 ((bI_0 _).mpr q))))]⟩

set_option maxHeartbeats 4000000 in
set_option maxRecDepth 20000 in
theorem ok_X7_debate (S : Mem) (t nw th nr : Nat) (hC : CW S t nw th nr) (un : Nat) (hU : HB S un) : Ok yX7_debate cX7_debate 2 (some .int) 3 1 4 [.ref 0] S (RI (e7V S t nw th nr) (e7S S t nw th nr un)) := by
  have hR := hC.1.1
  refine Ok.of (by decide) (Nat.le_of_ble_eq_true rfl) rfl (fun κ C hx => ?_)
  have C : Cx RX7 cX7_debate 2 (some .int) 3 false _ κ := C
  refine g_aload_0 C dX7_debate_0 rfl ?_
  refine g_getr C 8 dX7_debate_1 rfl rfl rfl fl_X7_57 hC.2.1.1 ?_
  refine g_cD0i C dX7_debate_4 rfl ml_X7_173 mz_X4_isNone (ok_X4_isNone t S hC.2.2.1) (by decide) rfl rfl hC.2.2.1.1 (by decide) rfl (Nat.le_of_ble_eq_true rfl) (fun hn4 => ?_)
  rw [hC.2.2.2.2.1.1]
  refine g_if_eq (tgt := 13) C dX7_debate_7 rfl (by decide) (fun h7 => ?_) (fun h7 => ?_)
  · skip
    refine g_aload_0 C dX7_debate_13 rfl ?_
    refine g_getr C 10 dX7_debate_14 rfl rfl rfl fl_X7_67 hC.2.1.2 ?_
    refine g_getiD C 3 dX7_debate_17 rfl hC.2.2.2.1 (by decide) (by decide) rfl fl_X7_124 ?_
    refine g_sipush (v := 9000) C dX7_debate_20 rfl (by decide) ?_
    refine g_icmp_le (tgt := 29) C dX7_debate_23 rfl (by decide) (fun h23 => ?_) (fun h23 => ?_)
    · skip
      refine g_aload_0 C dX7_debate_29 rfl ?_
      refine g_getr C 8 dX7_debate_30 rfl rfl rfl fl_X7_57 hC.2.1.1 ?_
      refine g_aload_0 C dX7_debate_33 rfl ?_
      refine g_getr C 10 dX7_debate_34 rfl rfl rfl fl_X7_67 hC.2.1.2 ?_
      refine g_getiD C 0 dX7_debate_37 rfl hC.2.2.2.1 (by decide) (by decide) rfl fl_X7_115 ?_
      refine g_aload_0 C dX7_debate_40 rfl ?_
      refine g_getr C 10 dX7_debate_41 rfl rfl rfl fl_X7_67 hC.2.1.2 ?_
      refine g_getiD C 1 dX7_debate_44 rfl hC.2.2.2.1 (by decide) (by decide) rfl fl_X7_118 ?_
      refine g_ior C dX7_debate_47 rfl ?_
      refine g_aload_0 C dX7_debate_48 rfl ?_
      refine g_cV0i C dX7_debate_49 rfl ml_X7_178 mz_X7_rulesGoneBy (ok_X7_rulesGoneBy S t nw th nr hC) (by decide) rfl rfl rfl rfl (Nat.le_of_ble_eq_true rfl) (fun hn49 => ?_)
      refine g_cD2i C dX7_debate_52 rfl ml_X7_181 mz_X4_closure (ok_X4_closure _ _ t S hC.2.2.1 nr hC.2.2.2.2.2.1 hC.2.2.2.2.2.2.1) (by decide) rfl rfl hC.2.2.1.1 (by decide) rfl (Nat.le_of_ble_eq_true rfl) (fun hn52 => ?_)
      refine g_istore_1 C rfl dX7_debate_55 rfl ?_
      refine g_aload_0 C dX7_debate_56 rfl ?_
      refine g_new (rc := 0) (rs := 0) C 2 dX7_debate_57 rfl (by decide) cl_X7_37 ic_X2 in_X2 (fun h => absurd h (by have := hC.1.2.1; omega)) ?_
      refine g_dup C dX7_debate_60 rfl rfl ?_
      refine g_aload_0 C dX7_debate_61 rfl ?_
      refine g_getr C 10 dX7_debate_62 rfl rfl rfl fl_X7_67 (hC.ext (Ext.new S 2)).2.1.2 ?_
      refine g_getiD C 0 dX7_debate_65 rfl (hC.ext (Ext.new S 2)).2.2.2.1 (by decide) (by decide) rfl fl_X7_115 ?_
      rw [show mI (sN S 2) nw = mI S nw from ((Ext.new S 2).2 nw hC.1.2.2.2).2.1]
      refine g_iload_1 C dX7_debate_68 rfl ?_
      refine g_aload_0 C dX7_debate_69 rfl ?_
      refine g_getr C 10 dX7_debate_70 rfl rfl rfl fl_X7_67 (hC.ext (Ext.new S 2)).2.1.2 ?_
      refine g_getiD C 2 dX7_debate_73 rfl (hC.ext (Ext.new S 2)).2.2.2.1 (by decide) (by decide) rfl fl_X7_121 ?_
      rw [show mI (sN S 2) nw = mI S nw from ((Ext.new S 2).2 nw hC.1.2.2.2).2.1]
      refine g_aload_0 C dX7_debate_76 rfl ?_
      refine g_getr C 10 dX7_debate_77 rfl rfl rfl fl_X7_67 (hC.ext (Ext.new S 2)).2.1.2 ?_
      refine g_getiD C 3 dX7_debate_80 rfl (hC.ext (Ext.new S 2)).2.2.2.1 (by decide) (by decide) rfl fl_X7_124 ?_
      rw [show mI (sN S 2) nw = mI S nw from ((Ext.new S 2).2 nw hC.1.2.2.2).2.1]
      refine g_iconst (v := 1) C dX7_debate_83 rfl (by decide) ?_
      refine g_iadd C dX7_debate_84 rfl ?_
      refine g_cI4 C dX7_debate_85 rfl ml_X7_64 mz_X2_init (ok_X2_init (mN S) _ _ _ _ (sN S 2) mK_sN) (by decide) rfl rfl (Nat.le_of_ble_eq_true rfl) (fun hn85 => ?_)
      refine g_cV1v C dX7_debate_88 rfl ml_X7_169 mz_X7_change (ok_X7_change (mN S) _ t nw th nr (hC.ext (moS_ext S _ _ _ _)) (hU.ext hC.1.2.1 (moS_ext S _ _ _ _)).1.m un (hU.ext hC.1.2.1 (moS_ext S _ _ _ _)).2.1 hU.2.2) (by decide) rfl rfl rfl rfl (Nat.le_of_ble_eq_true rfl) (fun hn88 => ?_)
      refine g_iload_1 C dX7_debate_91 rfl ?_
      exact g_iret C rfl dX7_debate_92 ⟨by unfold e7V; rw [if_neg (of_decide_eq_false ((bI_0 _).mp h7)), if_pos h23]; rfl, by unfold e7S; rw [if_neg (of_decide_eq_false ((bI_0 _).mp h7)), if_pos h23]; rfl⟩
    · skip
      refine g_ldc C dX7_debate_26 rfl kc_X7_84 ?_
      exact g_iret C rfl dX7_debate_28 ⟨by unfold e7V; rw [if_neg (of_decide_eq_false ((bI_0 _).mp h7)), if_neg h23], by unfold e7S; rw [if_neg (of_decide_eq_false ((bI_0 _).mp h7)), if_neg h23]⟩
  · skip
    refine g_ldc C dX7_debate_10 rfl kc_X7_177 ?_
    exact g_iret C rfl dX7_debate_12 ⟨by unfold e7V; rw [if_pos (of_decide_eq_true (nf_t (fun q => h7 ((bI_0 _).mpr q))))], by unfold e7S; rw [if_pos (of_decide_eq_true (nf_t (fun q => h7 ((bI_0 _).mpr q))))]⟩

def k7V (S : Mem) (v : Int32) : Int32 := if 0 ≤ v then mI S 0 11 else -1000000002
def k7S (S : Mem) (v : Int32) : Mem := if 0 ≤ v then sI S 0 11 v else S
set_option maxHeartbeats 4000000 in
set_option maxRecDepth 20000 in
theorem ok_X7_seed (v : Int32) (S : Mem) : Ok yX7_seed cX7_seed 3 (some .int) 0 0 0 [.ref 0, .int v] S (RI (k7V S v) (k7S S v)) := by
  refine Ok.of (by decide) (Nat.le_of_ble_eq_true rfl) rfl (fun κ C hx => ?_)
  have C : Cx RX7 cX7_seed 3 (some .int) 0 false _ κ := C
  refine g_iload_1 C dX7_seed_0 rfl ?_
  refine g_if_ge (tgt := 7) C dX7_seed_1 rfl (by decide) (fun h1 => ?_) (fun h1 => ?_)
  · skip
    refine g_aload_0 C dX7_seed_7 rfl ?_
    refine g_geti C 11 dX7_seed_8 rfl rfl rfl fl_X7_71 ?_
    refine g_istore_2 C rfl dX7_seed_11 rfl ?_
    refine g_aload_0 C dX7_seed_12 rfl ?_
    refine g_iload_1 C dX7_seed_13 rfl ?_
    refine g_puti C 11 dX7_seed_14 rfl rfl rfl (Or.inl rfl) fl_X7_71 ?_
    refine g_iload_2 C dX7_seed_17 rfl ?_
    exact g_iret C rfl dX7_seed_18 ⟨by unfold k7V; rw [if_pos h1], by unfold k7S; rw [if_pos h1]⟩
  · skip
    refine g_ldc C dX7_seed_4 rfl kc_X7_75 ?_
    exact g_iret C rfl dX7_seed_6 ⟨by unfold k7V; rw [if_neg h1], by unfold k7S; rw [if_neg h1]⟩

noncomputable def l7V (S : Mem) (t nw th nr : Nat) (x : Int32) : Int32 := if subB x (one (2 * nI th) - 1) = true then clo nr (mA S (t + 2)) (mA S (t + 3)) (alw (nI nr) (mI S nw 2)) x else -1000000001
set_option maxHeartbeats 4000000 in
set_option maxRecDepth 20000 in
theorem ok_X7_follows (x : Int32) (S : Mem) (t nw th nr : Nat) (hC : CW S t nw th nr) : Ok yX7_follows cX7_follows 2 (some .int) 3 0 0 [.ref 0, .int x] S (RI (l7V S t nw th nr x) S) := by
  refine Ok.of (by decide) (Nat.le_of_ble_eq_true rfl) rfl (fun κ C hx => ?_)
  have C : Cx RX7 cX7_follows 2 (some .int) 3 false _ κ := C
  refine g_aload_0 C dX7_follows_0 rfl ?_
  refine g_getr C 8 dX7_follows_1 rfl rfl rfl fl_X7_57 hC.2.1.1 ?_
  refine g_iload_1 C dX7_follows_4 rfl ?_
  refine g_cD1i C dX7_follows_5 rfl ml_X7_201 mz_X4_hasSayings (ok_X4_hasSayings _ t S hC.2.2.1) (by decide) rfl rfl hC.2.2.1.1 (by decide) rfl (Nat.le_of_ble_eq_true rfl) (fun hn5 => ?_)
  rw [hC.2.2.2.2.1.1]
  refine g_if_ne (tgt := 14) C dX7_follows_8 rfl (by decide) (fun h8 => ?_) (fun h8 => ?_)
  · skip
    refine g_aload_0 C dX7_follows_14 rfl ?_
    refine g_getr C 8 dX7_follows_15 rfl rfl rfl fl_X7_57 hC.2.1.1 ?_
    refine g_iload_1 C dX7_follows_18 rfl ?_
    refine g_aload_0 C dX7_follows_19 rfl ?_
    refine g_cV0i C dX7_follows_20 rfl ml_X7_178 mz_X7_rulesGoneBy (ok_X7_rulesGoneBy S t nw th nr hC) (by decide) rfl rfl rfl rfl (Nat.le_of_ble_eq_true rfl) (fun hn20 => ?_)
    refine g_cD2i C dX7_follows_23 rfl ml_X7_181 mz_X4_closure (ok_X4_closure _ _ t S hC.2.2.1 nr hC.2.2.2.2.2.1 hC.2.2.2.2.2.2.1) (by decide) rfl rfl hC.2.2.1.1 (by decide) rfl (Nat.le_of_ble_eq_true rfl) (fun hn23 => ?_)
    exact g_iret C rfl dX7_follows_26 ⟨by unfold l7V; rw [if_pos (nf_t (fun q => h8 ((bI_0 _).mpr q)))], rfl⟩
  · skip
    refine g_ldc C dX7_follows_11 rfl kc_X7_148 ?_
    exact g_iret C rfl dX7_follows_13 ⟨by unfold l7V; rw [if_neg (by rw [(bI_0 _).mp h8]; decide)], rfl⟩

set_option maxHeartbeats 4000000 in
set_option maxRecDepth 20000 in
theorem ok_X7_never (S : Mem) (t nw th nr : Nat) (hC : CW S t nw th nr) : Ok yX7_never cX7_never 1 (some .int) 2 0 0 [.ref 0] S (RI ((one (2 * nI th) - 1) &&& (orF (fun r => hasB (alw (nI nr) (mI S nw 2)) (nI r)) (fun r => one (mA S (t + 2) r)) nr ^^^ (-1))) S) := by
  refine Ok.of (by decide) (Nat.le_of_ble_eq_true rfl) rfl (fun κ C hx => ?_)
  have C : Cx RX7 cX7_never 1 (some .int) 2 false _ κ := C
  refine g_aload_0 C dX7_never_0 rfl ?_
  refine g_getr C 8 dX7_never_1 rfl rfl rfl fl_X7_57 hC.2.1.1 ?_
  refine g_cD0i C dX7_never_4 rfl ml_X7_227 mz_X4_allSayings (ok_X4_allSayings t S hC.2.2.1) (by decide) rfl rfl hC.2.2.1.1 (by decide) rfl (Nat.le_of_ble_eq_true rfl) (fun hn4 => ?_)
  rw [hC.2.2.2.2.1.1]
  refine g_aload_0 C dX7_never_7 rfl ?_
  refine g_getr C 8 dX7_never_8 rfl rfl rfl fl_X7_57 hC.2.1.1 ?_
  refine g_aload_0 C dX7_never_11 rfl ?_
  refine g_cV0i C dX7_never_12 rfl ml_X7_178 mz_X7_rulesGoneBy (ok_X7_rulesGoneBy S t nw th nr hC) (by decide) rfl rfl rfl rfl (Nat.le_of_ble_eq_true rfl) (fun hn12 => ?_)
  refine g_cD1i C dX7_never_15 rfl ml_X7_230 mz_X4_concludedBy (ok_X4_concludedBy _ t S hC.2.2.1 nr hC.2.2.2.2.2.1 hC.2.2.2.2.2.2.1.1) (by decide) rfl rfl hC.2.2.1.1 (by decide) rfl (Nat.le_of_ble_eq_true rfl) (fun hn15 => ?_)
  refine g_iconst (v := -1) C dX7_never_18 rfl (by decide) ?_
  refine g_ixor C dX7_never_19 rfl ?_
  refine g_iand C dX7_never_20 rfl ?_
  exact g_iret C rfl dX7_never_21 ⟨rfl, rfl⟩

set_option maxHeartbeats 4000000 in
set_option maxRecDepth 20000 in
theorem ok_X7_tear (S : Mem) (hR : Rs S) : Ok yX7_tear cX7_tear 2 (some .int) 1 0 0 [.ref 0] S (RI (mI S 5 3 + mI S 9 2) (sI (sI S 5 3 0) 9 2 0)) := by
  refine Ok.of (by decide) (Nat.le_of_ble_eq_true rfl) rfl (fun κ C hx => ?_)
  have C : Cx RX7 cX7_tear 2 (some .int) 1 false _ κ := C
  refine g_aload_0 C dX7_tear_0 rfl ?_
  refine g_getr C 2 dX7_tear_1 rfl rfl rfl fl_X7_26 (hR 0 2 5 rfl) ?_
  refine g_cV0i C dX7_tear_4 rfl ml_X7_140 mz_X3_size (ok_X3_size _) (by decide) rfl rfl rfl rfl (Nat.le_of_ble_eq_true rfl) (fun hn4 => ?_)
  refine g_aload_0 C dX7_tear_7 rfl ?_
  refine g_getr C 3 dX7_tear_8 rfl rfl rfl fl_X7_33 (hR 0 3 9 rfl) ?_
  refine g_cV0i C dX7_tear_11 rfl ml_X7_143 mz_X0_size (ok_X0_size _) (by decide) rfl rfl rfl rfl (Nat.le_of_ble_eq_true rfl) (fun hn11 => ?_)
  refine g_iadd C dX7_tear_14 rfl ?_
  refine g_istore_1 C rfl dX7_tear_15 rfl ?_
  refine g_aload_0 C dX7_tear_16 rfl ?_
  refine g_getr C 2 dX7_tear_17 rfl rfl rfl fl_X7_26 (hR 0 2 5 rfl) ?_
  refine g_cV0v C dX7_tear_20 rfl ml_X7_107 mz_X3_clear (ok_X3_clear _) (by decide) rfl rfl rfl rfl (Nat.le_of_ble_eq_true rfl) (fun hn20 => ?_)
  refine g_aload_0 C dX7_tear_23 rfl ?_
  refine g_getr C 3 dX7_tear_24 rfl rfl rfl fl_X7_33 (hR 0 3 9 rfl) ?_
  refine g_cV0v C dX7_tear_27 rfl ml_X7_108 mz_X0_clear (ok_X0_clear _) (by decide) rfl rfl rfl rfl (Nat.le_of_ble_eq_true rfl) (fun hn27 => ?_)
  refine g_iload_1 C dX7_tear_30 rfl ?_
  exact g_iret C rfl dX7_tear_31 ⟨rfl, rfl⟩

