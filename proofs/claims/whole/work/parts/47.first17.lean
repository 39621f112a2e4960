set_option maxHeartbeats 4000000 in
set_option maxRecDepth 20000 in
theorem ok_X7_town (S : Mem) (hR : Rs S) (tn : Nat) (hX : Tx (mA S 2) tn) (h1 : mI S 1 1 = nI tn) (dr : Nat) (hdr : 16 ≤ dr) (hK : TwK S dr) (h44 : 44 ≤ mN S) (hdn : dr + 3 < 44) (t : Nat) (h8 : mR S 0 8 = some t) (h9 : mR S 0 9 = some dr) : Ok yX7_town cX7_town 2 (some .int) 6 1 4 [.ref 0] S (RX (twQ S dr t tn)) := by
  refine Ok.of (by decide) (Nat.le_of_ble_eq_true rfl) rfl (fun κ C hx => ?_)
  have C : Cx RX7 cX7_town 2 (some .int) 6 false _ κ := C
  refine g_aload_0 C dX7_town_0 rfl ?_
  refine g_getr C 0 dX7_town_1 rfl rfl rfl fl_X7_12 (hR 0 0 1 rfl) ?_
  refine g_aload_0 C dX7_town_4 rfl ?_
  refine g_getr C 9 dX7_town_5 rfl rfl rfl fl_X7_61 h9 ?_
  refine g_cV1w C dX7_town_8 rfl ml_X7_85 mz_X5_readInto (ok_X5_readIntoS S hR tn hX h1 dr hdr hK) (by decide) rfl rfl rfl rfl (Nat.le_of_ble_eq_true rfl) (fun S8 hp8 hn8 => ?_)
  obtain ⟨D, g2, rfl, hF, f1, hq⟩ := hp8
  refine g_aload_0 C dX7_town_11 rfl ?_
  refine g_getr C 0 dX7_town_12 rfl rfl rfl fl_X7_12 ((hF.R hR) 0 0 1 rfl) ?_
  refine g_cV0v C dX7_town_15 rfl ml_X7_89 mz_X5_forgetText (ok_X5_forgetText _) (by decide) rfl rfl rfl rfl (Nat.le_of_ble_eq_true rfl) (fun hn15 => ?_)
  rw [uS_sI]
  refine g_aload_0 C dX7_town_18 rfl ?_
  refine g_getr C 0 dX7_town_19 rfl rfl rfl fl_X7_12 ((hF.R hR) 0 0 1 rfl) ?_
  refine g_cV0i C dX7_town_22 rfl ml_X7_92 mz_X5_faultKind (ok_X5_faultKind _) (by decide) rfl rfl rfl rfl (Nat.le_of_ble_eq_true rfl) (fun hn22 => ?_)
  rw [show mI (uS D (upd g2 1 0)) 1 4 = g2 4 from rfl]
  refine g_if_eq (tgt := 39) C dX7_town_25 rfl (by decide) (fun h25 => ?_) (fun h25 => ?_)
  · skip
    cases hpr : prF (mA S 2) tn (tn + 1) (0, 0, 0, mA S (dr + 1), mA S (dr + 2), mA S (dr + 3), 0) with
    | inl f =>
      obtain ⟨k, pl⟩ := f
      rw [hpr] at hq
      exact absurd (hq.2.1.symm.trans h25) (nI_k0 hq.1.1 hq.1.2)
    | inr τ =>
      rw [hpr] at hq
      refine g_aload_0 C dX7_town_39 rfl ?_
      refine g_getr C 8 dX7_town_40 rfl rfl rfl fl_X7_57 (by show mR D 0 8 = _; rw [hF.1.2.2.1]; exact h8) ?_
      refine g_astore_1 C rfl dX7_town_43 rfl ?_
      refine g_aload_0 C dX7_town_44 rfl ?_
      refine g_aload_0 C dX7_town_45 rfl ?_
      refine g_getr C 9 dX7_town_46 rfl rfl rfl fl_X7_61 (by show mR D 0 9 = _; rw [hF.1.2.2.1]; exact h9) ?_
      refine g_putr C 8 dX7_town_49 rfl rfl rfl (Or.inl rfl) fl_X7_57 ?_
      refine g_aload_0 C dX7_town_52 rfl ?_
      refine g_aload_1 C dX7_town_53 rfl ?_
      refine g_putr C 9 dX7_town_54 rfl rfl rfl (Or.inl rfl) fl_X7_61 ?_
      have hRM : Rs (sR (sR (uS D (upd g2 1 0)) 0 8 (some dr)) 0 9 (some t)) := ((show Rs (uS D (upd g2 1 0)) from hF.R hR).up (Or.inl rfl) _).up (Or.inr (Or.inl rfl)) _
      have hNM : mN (sR (sR (uS D (upd g2 1 0)) 0 8 (some dr)) 0 9 (some t)) = mN S := by rw [qN_sR, qN_sR, qN_uS]; exact hF.1.1
      have hKM : mK (sR (sR (uS D (upd g2 1 0)) 0 8 (some dr)) 0 9 (some t)) dr = 4 := by rw [qK_sR, qK_sR, qK_uS]; exact (hF.K hK).1
      have hTM : mR (sR (sR (uS D (upd g2 1 0)) 0 8 (some dr)) 0 9 (some t)) 0 8 = some dr := by rw [qR_sR, u2_nj _ _ _ (by decide), qR_sR, u2_at]
      have hI5 : mI (sR (sR (uS D (upd g2 1 0)) 0 8 (some dr)) 0 9 (some t)) dr 5 = τ.2.2.2.2.2.2 := by rw [qI_sR, qI_sR, uS_ne D _ (dr_1 hdr)]; exact hq.2.2.2.2.2.1
      have hI4 : mI (sR (sR (uS D (upd g2 1 0)) 0 8 (some dr)) 0 9 (some t)) dr 4 = nI τ.2.2.1 := by rw [qI_sR, qI_sR, uS_ne D _ (dr_1 hdr)]; exact hq.2.2.2.2.1
      have hE : twQ S dr t tn (nI τ.2.2.1) (be7S (sR (sR (uS D (upd g2 1 0)) 0 8 (some dr)) 0 9 (some t)) τ.2.2.2.2.2.2) := by
        unfold twQ
        rw [hpr]
        exact ⟨hq.1, rfl, D, upd g2 1 0, rfl, hF, rfl, hq.2.2.1, hq.2.2.2⟩
      generalize (sR (sR (uS D (upd g2 1 0)) 0 8 (some dr)) 0 9 (some t)) = M at hRM hNM hKM hTM hI5 hI4 hE ⊢
      refine g_aload_0 C dX7_town_57 rfl ?_
      refine g_cV0v C dX7_town_58 rfl ml_X7_95 mz_X7_beginAnew (ok_X7_beginAnew M hRM (by omega) dr (by omega) hTM hKM) (by decide) rfl rfl rfl rfl (Nat.le_of_ble_eq_true rfl) (fun hn58 => ?_)
      rw [hI5]
      refine g_aload_0 C dX7_town_61 rfl ?_
      refine g_getr C 8 dX7_town_62 rfl rfl rfl fl_X7_57 (by rw [be7S_e, be7c_R, be7_Rj M _ (by omega) (by decide)]; exact hTM) ?_
      refine g_getiD C 4 dX7_town_65 rfl (show mK (be7S M τ.2.2.2.2.2.2) dr = 4 by rw [be7S_e, be7c_K, be7_K M _ (by omega)]; exact hKM) (by decide) (by decide) rfl fl_X7_98 ?_
      rw [be7S_e, be7c_I _ (by omega) (by omega) (by omega), be7_I M _ (by omega), hI4]
      exact g_iret C rfl dX7_town_68 ⟨_, rfl, hE⟩
  · skip
    refine g_bipush (v := -10) C dX7_town_28 rfl (by decide) ?_
    refine g_aload_0 C dX7_town_30 rfl ?_
    refine g_getr C 0 dX7_town_31 rfl rfl rfl fl_X7_12 ((hF.R hR) 0 0 1 rfl) ?_
    refine g_cV0i C dX7_town_34 rfl ml_X7_92 mz_X5_faultKind (ok_X5_faultKind _) (by decide) rfl rfl rfl rfl (Nat.le_of_ble_eq_true rfl) (fun hn34 => ?_)
    rw [show mI (uS D (upd g2 1 0)) 1 4 = g2 4 from rfl]
    refine g_isub C dX7_town_37 rfl ?_
    exact g_iret C rfl dX7_town_38 ⟨_, rfl, by
    unfold twQ
    cases hpr : prF (mA S 2) tn (tn + 1) (0, 0, 0, mA S (dr + 1), mA S (dr + 2), mA S (dr + 3), 0) with
    | inl f => obtain ⟨k, pl⟩ := f; rw [hpr] at hq; exact ⟨hq.1, by rw [hq.2.1], D, _, rfl, hF, rfl, hq.2.2⟩
    | inr τ => rw [hpr] at hq; exact absurd hq.2.1 h25⟩

