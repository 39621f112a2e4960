set_option maxHeartbeats 4000000 in
set_option maxRecDepth 20000 in
theorem cs_0 {κ : Kx} {b L : Nat} {xs : Nat → Int32} (C : Cx RL cL_law 4 (some .boolean) 20 false (fun r _ => r = some (.int 1)) κ) (hsc : Sc9 κ b L xs) (hL : L ≤ 256) {rc rs i : Nat} (hi : i + 4 ≤ L) {S : Mem} (hR : Rel9 S) (K : ∀ S2, Rel9 S2 → G κ rc rs S2 859 [.float 0, .ref 0, .ref 25, .int (nI i)] []) : G κ (rc + 1) (rs + 4) S 164 [.float 0, .ref 0, .ref 25, .int (nI i)] [] := by
  obtain ⟨t, dr, nw, T, q, X, sd, H, A, B, I, h, d, w⟩ := hR
  refine g_aload_1 C dL_law_164 rfl ?_
  refine g_scrK (k := 1) C hsc dL_law_165 dL_law_166 dL_law_167 (by decide) dL_law_168 dL_law_169 (by omega) hL rfl ?_
  obtain ⟨v, S1, k1, S2, k2, rl⟩ := two_feed (xs (i + 1)) h d w
  refine g_cV1i C dL_law_170 rfl ml_L_13 mz_X7_feed k1 (by decide) rfl rfl rfl rfl (Nat.le_of_ble_eq_true rfl) (fun _ => ?_)
  refine g_aload_2 C dL_law_173 rfl ?_
  refine g_scrK (k := 1) C hsc dL_law_174 dL_law_175 dL_law_176 (by decide) dL_law_177 dL_law_178 (by omega) hL rfl ?_
  refine g_cV1i C dL_law_179 rfl ml_L_17 mz_X8_feed k2 (by decide) rfl rfl rfl rfl (Nat.le_of_ble_eq_true rfl) (fun _ => ?_)
  refine g_icmp_eq (tgt := 859) C dL_law_182 rfl (by decide) (fun _ => ?_) (fun h => absurd rfl h)
  exact g_mono (by omega) (by omega) (K S2 rl)

set_option maxHeartbeats 4000000 in
set_option maxRecDepth 20000 in
theorem cs_1 {κ : Kx} {b L : Nat} {xs : Nat → Int32} (C : Cx RL cL_law 4 (some .boolean) 20 false (fun r _ => r = some (.int 1)) κ) (hsc : Sc9 κ b L xs) (hL : L ≤ 256) {rc rs i : Nat} (hi : i + 4 ≤ L) {S : Mem} (hR : Rel9 S) (K : ∀ S2, Rel9 S2 → G κ rc rs S2 859 [.float 0, .ref 0, .ref 25, .int (nI i)] []) : G κ (rc + 1) (rs + 4) S 187 [.float 0, .ref 0, .ref 25, .int (nI i)] [] := by
  obtain ⟨t, dr, nw, T, q, X, sd, H, A, B, I, h, d, w⟩ := hR
  have hdr : 16 ≤ dr ∧ dr + 3 < 44 := by rcases h.1.t2 with e | e <;> omega
  refine g_aload_1 C dL_law_187 rfl ?_
  refine g_cV0x C dL_law_188 rfl ml_L_18 mz_X7_town (ok_X7_town S h.1.1.1 X.1 (by rw [h.2.2.2.1.2.1]; exact w.2.2.1) h.2.2.2.1.1 dr hdr.1 (TwK_of h.1.1.1 h.1.1.2.2 h.1.t2) h.1.1.2.1 hdr.2 t h.1.2.2.1 h.1.2.2.2.1) (by decide) rfl rfl rfl rfl (Nat.le_of_ble_eq_true rfl) (fun v1 S1 hq1 hn1 => ?_)
  obtain ⟨gx, t2, dr2, nw2, T2, q2, X2, H2, A2, B2, I2, hF2, hW2, hD2⟩ := st_town h w hq1
  have d1 := d.gx gx
  refine g_aload_2 C dL_law_191 rfl ?_
  refine g_cV0x C dL_law_192 rfl ml_L_22 mz_X8_town (ok_X8_town S1 hF2.1.1.1 X.1 d1.2.2.1.1 (by rw [d1.2.2.1.2.1]; exact w.2.2.1)) (by decide) rfl rfl rfl rfl (Nat.le_of_ble_eq_true rfl) (fun v2 S2 hq2 hn2 => ?_)
  obtain ⟨ev, d2, hx⟩ := hD2 S1 d1 v2 S2 hq2
  subst ev
  have rl : Rel9 S2 := ⟨t2, dr2, nw2, T2, q2, X2, sd, H2, A2, B2, I2, hF2.hx hx (fun a ha => by unfold M99; omega), d2, hW2⟩
  refine g_icmp_eq (tgt := 859) C dL_law_195 rfl (by decide) (fun _ => ?_) (fun h => absurd rfl h)
  exact g_mono (by omega) (by omega) (K S2 rl)

set_option maxHeartbeats 4000000 in
set_option maxRecDepth 20000 in
theorem cs_2 {κ : Kx} {b L : Nat} {xs : Nat → Int32} (C : Cx RL cL_law 4 (some .boolean) 20 false (fun r _ => r = some (.int 1)) κ) (hsc : Sc9 κ b L xs) (hL : L ≤ 256) {rc rs i : Nat} (hi : i + 4 ≤ L) {S : Mem} (hR : Rel9 S) (K : ∀ S2, Rel9 S2 → G κ rc rs S2 859 [.float 0, .ref 0, .ref 25, .int (nI i)] []) : G κ (rc + 1) (rs + 4) S 200 [.float 0, .ref 0, .ref 25, .int (nI i)] [] := by
  obtain ⟨t, dr, nw, T, q, X, sd, H, A, B, I, h, d, w⟩ := hR
  refine g_aload_1 C dL_law_200 rfl ?_
  obtain ⟨v, S1, k1, S2, k2, rl⟩ := two_fault h d w
  refine g_cV0i C dL_law_201 rfl ml_L_23 mz_X7_fault k1 (by decide) rfl rfl rfl rfl (Nat.le_of_ble_eq_true rfl) (fun _ => ?_)
  refine g_aload_2 C dL_law_204 rfl ?_
  refine g_cV0i C dL_law_205 rfl ml_L_26 mz_X8_fault k2 (by decide) rfl rfl rfl rfl (Nat.le_of_ble_eq_true rfl) (fun _ => ?_)
  refine g_icmp_eq (tgt := 859) C dL_law_208 rfl (by decide) (fun _ => ?_) (fun h => absurd rfl h)
  exact g_mono (by omega) (by omega) (K S2 rl)

set_option maxHeartbeats 4000000 in
set_option maxRecDepth 20000 in
theorem cs_3 {κ : Kx} {b L : Nat} {xs : Nat → Int32} (C : Cx RL cL_law 4 (some .boolean) 20 false (fun r _ => r = some (.int 1)) κ) (hsc : Sc9 κ b L xs) (hL : L ≤ 256) {rc rs i : Nat} (hi : i + 4 ≤ L) {S : Mem} (hR : Rel9 S) (K : ∀ S2, Rel9 S2 → G κ rc rs S2 859 [.float 0, .ref 0, .ref 25, .int (nI i)] []) : G κ (rc + 1) (rs + 1 + 3) S 213 [.float 0, .ref 0, .ref 25, .int (nI i)] [] := by
  obtain ⟨t, dr, nw, T, q, X, sd, H, A, B, I, h, d, w⟩ := hR
  refine g_aload_1 C dL_law_213 rfl ?_
  refine g_scrK (k := 1) C hsc dL_law_214 dL_law_215 dL_law_216 (by decide) dL_law_217 dL_law_218 (by omega) hL rfl ?_
  obtain ⟨v, S1, k1, S2, k2, rl⟩ := two_told (xs (i + 1)) h d w
  refine g_cV1i C dL_law_219 rfl ml_L_27 mz_X7_told k1 (by decide) rfl rfl rfl rfl (Nat.le_of_ble_eq_true rfl) (fun _ => ?_)
  refine g_aload_2 C dL_law_222 rfl ?_
  refine g_scrK (k := 1) C hsc dL_law_223 dL_law_224 dL_law_225 (by decide) dL_law_226 dL_law_227 (by omega) hL rfl ?_
  refine g_cV1i C dL_law_228 rfl ml_L_30 mz_X8_told k2 (by decide) rfl rfl rfl rfl (Nat.le_of_ble_eq_true rfl) (fun _ => ?_)
  refine g_icmp_eq (tgt := 859) C dL_law_231 rfl (by decide) (fun _ => ?_) (fun h => absurd rfl h)
  exact g_mono (by omega) (by omega) (K S2 rl)

set_option maxHeartbeats 4000000 in
set_option maxRecDepth 20000 in
theorem cs_4 {κ : Kx} {b L : Nat} {xs : Nat → Int32} (C : Cx RL cL_law 4 (some .boolean) 20 false (fun r _ => r = some (.int 1)) κ) (hsc : Sc9 κ b L xs) (hL : L ≤ 256) {rc rs i : Nat} (hi : i + 4 ≤ L) {S : Mem} (hR : Rel9 S) (K : ∀ S2, Rel9 S2 → G κ rc rs S2 859 [.float 0, .ref 0, .ref 25, .int (nI i)] []) : G κ (rc + 1) (rs + 4) S 236 [.float 0, .ref 0, .ref 25, .int (nI i)] [] := by
  obtain ⟨t, dr, nw, T, q, X, sd, H, A, B, I, h, d, w⟩ := hR
  refine g_aload_1 C dL_law_236 rfl ?_
  refine g_scrK (k := 1) C hsc dL_law_237 dL_law_238 dL_law_239 (by decide) dL_law_240 dL_law_241 (by omega) hL rfl ?_
  refine g_scrK (k := 2) C hsc dL_law_242 dL_law_243 dL_law_244 (by decide) dL_law_245 dL_law_246 (by omega) hL rfl ?_
  obtain ⟨v, S1, k1, S2, k2, rl⟩ := two_rule (xs (i + 1)) (xs (i + 2)) h d w
  refine g_cV2i C dL_law_247 rfl ml_L_31 mz_X7_rule k1 (by decide) rfl rfl rfl rfl (Nat.le_of_ble_eq_true rfl) (fun _ => ?_)
  refine g_aload_2 C dL_law_250 rfl ?_
  refine g_scrK (k := 1) C hsc dL_law_251 dL_law_252 dL_law_253 (by decide) dL_law_254 dL_law_255 (by omega) hL rfl ?_
  refine g_scrK (k := 2) C hsc dL_law_256 dL_law_257 dL_law_258 (by decide) dL_law_259 dL_law_260 (by omega) hL rfl ?_
  refine g_cV2i C dL_law_261 rfl ml_L_35 mz_X8_rule k2 (by decide) rfl rfl rfl rfl (Nat.le_of_ble_eq_true rfl) (fun _ => ?_)
  refine g_icmp_eq (tgt := 859) C dL_law_264 rfl (by decide) (fun _ => ?_) (fun h => absurd rfl h)
  exact g_mono (by omega) (by omega) (K S2 rl)

set_option maxHeartbeats 4000000 in
set_option maxRecDepth 20000 in
theorem cs_5 {κ : Kx} {b L : Nat} {xs : Nat → Int32} (C : Cx RL cL_law 4 (some .boolean) 20 false (fun r _ => r = some (.int 1)) κ) (hsc : Sc9 κ b L xs) (hL : L ≤ 256) {rc rs i : Nat} (hi : i + 4 ≤ L) {S : Mem} (hR : Rel9 S) (K : ∀ S2, Rel9 S2 → G κ rc rs S2 859 [.float 0, .ref 0, .ref 25, .int (nI i)] []) : G κ (rc + 1) (rs + 4) S 269 [.float 0, .ref 0, .ref 25, .int (nI i)] [] := by
  obtain ⟨t, dr, nw, T, q, X, sd, H, A, B, I, h, d, w⟩ := hR
  refine g_aload_1 C dL_law_269 rfl ?_
  refine g_scrK (k := 1) C hsc dL_law_270 dL_law_271 dL_law_272 (by decide) dL_law_273 dL_law_274 (by omega) hL rfl ?_
  refine g_scrK (k := 2) C hsc dL_law_275 dL_law_276 dL_law_277 (by decide) dL_law_278 dL_law_279 (by omega) hL rfl ?_
  refine g_if_eq (tgt := 287) C dL_law_280 rfl (by decide) (fun hb => ?_) (fun hb => ?_)
  · skip
    refine g_iconst (v := 0) C dL_law_287 rfl (by decide) ?_
    obtain ⟨v, S1, k1, S2, k2, rl⟩ := two_see (xs (i + 1)) 0 h d w
    refine g_cV2i C dL_law_288 rfl ml_L_36 mz_X7_see k1 (by decide) rfl rfl rfl rfl (Nat.le_of_ble_eq_true rfl) (fun _ => ?_)
    refine g_aload_2 C dL_law_291 rfl ?_
    refine g_scrK (k := 1) C hsc dL_law_292 dL_law_293 dL_law_294 (by decide) dL_law_295 dL_law_296 (by omega) hL rfl ?_
    refine g_scrK (k := 2) C hsc dL_law_297 dL_law_298 dL_law_299 (by decide) dL_law_300 dL_law_301 (by omega) hL rfl ?_
    refine g_if_eq (tgt := 309) C dL_law_302 rfl (by decide) (fun _ => ?_) (fun h => absurd hb h)
    refine g_iconst (v := 0) C dL_law_309 rfl (by decide) ?_
    refine g_cV2i C dL_law_310 rfl ml_L_40 mz_X8_see k2 (by decide) rfl rfl rfl rfl (Nat.le_of_ble_eq_true rfl) (fun _ => ?_)
    refine g_icmp_eq (tgt := 859) C dL_law_313 rfl (by decide) (fun _ => ?_) (fun h => absurd rfl h)
    exact g_mono (by omega) (by omega) (K S2 rl)
  · skip
    refine g_iconst (v := 1) C dL_law_283 rfl (by decide) ?_
    refine g_goto (tgt := 288) C dL_law_284 (by decide) ?_
    obtain ⟨v, S1, k1, S2, k2, rl⟩ := two_see (xs (i + 1)) 1 h d w
    refine g_cV2i C dL_law_288 rfl ml_L_36 mz_X7_see k1 (by decide) rfl rfl rfl rfl (Nat.le_of_ble_eq_true rfl) (fun _ => ?_)
    refine g_aload_2 C dL_law_291 rfl ?_
    refine g_scrK (k := 1) C hsc dL_law_292 dL_law_293 dL_law_294 (by decide) dL_law_295 dL_law_296 (by omega) hL rfl ?_
    refine g_scrK (k := 2) C hsc dL_law_297 dL_law_298 dL_law_299 (by decide) dL_law_300 dL_law_301 (by omega) hL rfl ?_
    refine g_if_eq (tgt := 309) C dL_law_302 rfl (by decide) (fun h => absurd h hb) (fun _ => ?_)
    refine g_iconst (v := 1) C dL_law_305 rfl (by decide) ?_
    refine g_goto (tgt := 310) C dL_law_306 (by decide) ?_
    refine g_cV2i C dL_law_310 rfl ml_L_40 mz_X8_see k2 (by decide) rfl rfl rfl rfl (Nat.le_of_ble_eq_true rfl) (fun _ => ?_)
    refine g_icmp_eq (tgt := 859) C dL_law_313 rfl (by decide) (fun _ => ?_) (fun h => absurd rfl h)
    exact g_mono (by omega) (by omega) (K S2 rl)

set_option maxHeartbeats 4000000 in
set_option maxRecDepth 20000 in
theorem cs_6 {κ : Kx} {b L : Nat} {xs : Nat → Int32} (C : Cx RL cL_law 4 (some .boolean) 20 false (fun r _ => r = some (.int 1)) κ) (hsc : Sc9 κ b L xs) (hL : L ≤ 256) {rc rs i : Nat} (hi : i + 4 ≤ L) {S : Mem} (hR : Rel9 S) (K : ∀ S2, Rel9 S2 → G κ rc rs S2 859 [.float 0, .ref 0, .ref 25, .int (nI i)] []) : G κ (rc + 1) (rs + 4) S 318 [.float 0, .ref 0, .ref 25, .int (nI i)] [] := by
  obtain ⟨t, dr, nw, T, q, X, sd, H, A, B, I, h, d, w⟩ := hR
  refine g_aload_1 C dL_law_318 rfl ?_
  refine g_scrK (k := 1) C hsc dL_law_319 dL_law_320 dL_law_321 (by decide) dL_law_322 dL_law_323 (by omega) hL rfl ?_
  refine g_scrK (k := 2) C hsc dL_law_324 dL_law_325 dL_law_326 (by decide) dL_law_327 dL_law_328 (by omega) hL rfl ?_
  refine g_if_eq (tgt := 336) C dL_law_329 rfl (by decide) (fun hb => ?_) (fun hb => ?_)
  · skip
    refine g_iconst (v := 0) C dL_law_336 rfl (by decide) ?_
    obtain ⟨v, S1, k1, S2, k2, rl⟩ := two_forbid (xs (i + 1)) 0 h d w
    refine g_cV2i C dL_law_337 rfl ml_L_41 mz_X7_forbid k1 (by decide) rfl rfl rfl rfl (Nat.le_of_ble_eq_true rfl) (fun _ => ?_)
    refine g_aload_2 C dL_law_340 rfl ?_
    refine g_scrK (k := 1) C hsc dL_law_341 dL_law_342 dL_law_343 (by decide) dL_law_344 dL_law_345 (by omega) hL rfl ?_
    refine g_scrK (k := 2) C hsc dL_law_346 dL_law_347 dL_law_348 (by decide) dL_law_349 dL_law_350 (by omega) hL rfl ?_
    refine g_if_eq (tgt := 358) C dL_law_351 rfl (by decide) (fun _ => ?_) (fun h => absurd hb h)
    refine g_iconst (v := 0) C dL_law_358 rfl (by decide) ?_
    refine g_cV2i C dL_law_359 rfl ml_L_44 mz_X8_forbid k2 (by decide) rfl rfl rfl rfl (Nat.le_of_ble_eq_true rfl) (fun _ => ?_)
    refine g_icmp_eq (tgt := 859) C dL_law_362 rfl (by decide) (fun _ => ?_) (fun h => absurd rfl h)
    exact g_mono (by omega) (by omega) (K S2 rl)
  · skip
    refine g_iconst (v := 1) C dL_law_332 rfl (by decide) ?_
    refine g_goto (tgt := 337) C dL_law_333 (by decide) ?_
    obtain ⟨v, S1, k1, S2, k2, rl⟩ := two_forbid (xs (i + 1)) 1 h d w
    refine g_cV2i C dL_law_337 rfl ml_L_41 mz_X7_forbid k1 (by decide) rfl rfl rfl rfl (Nat.le_of_ble_eq_true rfl) (fun _ => ?_)
    refine g_aload_2 C dL_law_340 rfl ?_
    refine g_scrK (k := 1) C hsc dL_law_341 dL_law_342 dL_law_343 (by decide) dL_law_344 dL_law_345 (by omega) hL rfl ?_
    refine g_scrK (k := 2) C hsc dL_law_346 dL_law_347 dL_law_348 (by decide) dL_law_349 dL_law_350 (by omega) hL rfl ?_
    refine g_if_eq (tgt := 358) C dL_law_351 rfl (by decide) (fun h => absurd h hb) (fun _ => ?_)
    refine g_iconst (v := 1) C dL_law_354 rfl (by decide) ?_
    refine g_goto (tgt := 359) C dL_law_355 (by decide) ?_
    refine g_cV2i C dL_law_359 rfl ml_L_44 mz_X8_forbid k2 (by decide) rfl rfl rfl rfl (Nat.le_of_ble_eq_true rfl) (fun _ => ?_)
    refine g_icmp_eq (tgt := 859) C dL_law_362 rfl (by decide) (fun _ => ?_) (fun h => absurd rfl h)
    exact g_mono (by omega) (by omega) (K S2 rl)

set_option maxHeartbeats 4000000 in
set_option maxRecDepth 20000 in
theorem cs_7 {κ : Kx} {b L : Nat} {xs : Nat → Int32} (C : Cx RL cL_law 4 (some .boolean) 20 false (fun r _ => r = some (.int 1)) κ) (hsc : Sc9 κ b L xs) (hL : L ≤ 256) {rc rs i : Nat} (hi : i + 4 ≤ L) {S : Mem} (hR : Rel9 S) (K : ∀ S2, Rel9 S2 → G κ rc rs S2 859 [.float 0, .ref 0, .ref 25, .int (nI i)] []) : G κ (rc + 1) (rs + 4) S 367 [.float 0, .ref 0, .ref 25, .int (nI i)] [] := by
  obtain ⟨t, dr, nw, T, q, X, sd, H, A, B, I, h, d, w⟩ := hR
  refine g_aload_1 C dL_law_367 rfl ?_
  obtain ⟨v, S1, k1, S2, k2, rl⟩ := two_debate h d w
  refine g_cV0i C dL_law_368 rfl ml_L_45 mz_X7_debate k1 (by decide) rfl rfl rfl rfl (Nat.le_of_ble_eq_true rfl) (fun _ => ?_)
  refine g_aload_2 C dL_law_371 rfl ?_
  refine g_cV0i C dL_law_372 rfl ml_L_48 mz_X8_debate k2 (by decide) rfl rfl rfl rfl (Nat.le_of_ble_eq_true rfl) (fun _ => ?_)
  refine g_icmp_eq (tgt := 859) C dL_law_375 rfl (by decide) (fun _ => ?_) (fun h => absurd rfl h)
  exact g_mono (by omega) (by omega) (K S2 rl)

set_option maxHeartbeats 4000000 in
set_option maxRecDepth 20000 in
theorem cs_8 {κ : Kx} {b L : Nat} {xs : Nat → Int32} (C : Cx RL cL_law 4 (some .boolean) 20 false (fun r _ => r = some (.int 1)) κ) (hsc : Sc9 κ b L xs) (hL : L ≤ 256) {rc rs i : Nat} (hi : i + 4 ≤ L) {S : Mem} (hR : Rel9 S) (K : ∀ S2, Rel9 S2 → G κ rc rs S2 859 [.float 0, .ref 0, .ref 25, .int (nI i)] []) : G κ (rc + 1) (rs + 4) S 380 [.float 0, .ref 0, .ref 25, .int (nI i)] [] := by
  obtain ⟨t, dr, nw, T, q, X, sd, H, A, B, I, h, d, w⟩ := hR
  refine g_aload_1 C dL_law_380 rfl ?_
  obtain ⟨v, S1, k1, S2, k2, rl⟩ := two_drop h d w
  refine g_cV0i C dL_law_381 rfl ml_L_49 mz_X7_drop k1 (by decide) rfl rfl rfl rfl (Nat.le_of_ble_eq_true rfl) (fun _ => ?_)
  refine g_aload_2 C dL_law_384 rfl ?_
  refine g_cV0i C dL_law_385 rfl ml_L_52 mz_X8_drop k2 (by decide) rfl rfl rfl rfl (Nat.le_of_ble_eq_true rfl) (fun _ => ?_)
  refine g_icmp_eq (tgt := 859) C dL_law_388 rfl (by decide) (fun _ => ?_) (fun h => absurd rfl h)
  exact g_mono (by omega) (by omega) (K S2 rl)

set_option maxHeartbeats 4000000 in
set_option maxRecDepth 20000 in
theorem cs_9 {κ : Kx} {b L : Nat} {xs : Nat → Int32} (C : Cx RL cL_law 4 (some .boolean) 20 false (fun r _ => r = some (.int 1)) κ) (hsc : Sc9 κ b L xs) (hL : L ≤ 256) {rc rs i : Nat} (hi : i + 4 ≤ L) {S : Mem} (hR : Rel9 S) (K : ∀ S2, Rel9 S2 → G κ rc rs S2 859 [.float 0, .ref 0, .ref 25, .int (nI i)] []) : G κ (rc + 1) (rs + 4) S 393 [.float 0, .ref 0, .ref 25, .int (nI i)] [] := by
  obtain ⟨t, dr, nw, T, q, X, sd, H, A, B, I, h, d, w⟩ := hR
  refine g_aload_1 C dL_law_393 rfl ?_
  refine g_scrK (k := 1) C hsc dL_law_394 dL_law_395 dL_law_396 (by decide) dL_law_397 dL_law_398 (by omega) hL rfl ?_
  obtain ⟨v, S1, k1, S2, k2, rl⟩ := two_drift (xs (i + 1)) h d w
  refine g_cV1i C dL_law_399 rfl ml_L_53 mz_X7_drift k1 (by decide) rfl rfl rfl rfl (Nat.le_of_ble_eq_true rfl) (fun _ => ?_)
  refine g_aload_2 C dL_law_402 rfl ?_
  refine g_scrK (k := 1) C hsc dL_law_403 dL_law_404 dL_law_405 (by decide) dL_law_406 dL_law_407 (by omega) hL rfl ?_
  refine g_cV1i C dL_law_408 rfl ml_L_56 mz_X8_drift k2 (by decide) rfl rfl rfl rfl (Nat.le_of_ble_eq_true rfl) (fun _ => ?_)
  refine g_icmp_eq (tgt := 859) C dL_law_411 rfl (by decide) (fun _ => ?_) (fun h => absurd rfl h)
  exact g_mono (by omega) (by omega) (K S2 rl)

set_option maxHeartbeats 4000000 in
set_option maxRecDepth 20000 in
theorem cs_10 {κ : Kx} {b L : Nat} {xs : Nat → Int32} (C : Cx RL cL_law 4 (some .boolean) 20 false (fun r _ => r = some (.int 1)) κ) (hsc : Sc9 κ b L xs) (hL : L ≤ 256) {rc rs i : Nat} (hi : i + 4 ≤ L) {S : Mem} (hR : Rel9 S) (K : ∀ S2, Rel9 S2 → G κ rc rs S2 859 [.float 0, .ref 0, .ref 25, .int (nI i)] []) : G κ (rc + 1) (rs + 4) S 416 [.float 0, .ref 0, .ref 25, .int (nI i)] [] := by
  obtain ⟨t, dr, nw, T, q, X, sd, H, A, B, I, h, d, w⟩ := hR
  refine g_aload_1 C dL_law_416 rfl ?_
  obtain ⟨v, S1, k1, S2, k2, rl⟩ := two_undo h d w
  refine g_cV0i C dL_law_417 rfl ml_L_57 mz_X7_undo k1 (by decide) rfl rfl rfl rfl (Nat.le_of_ble_eq_true rfl) (fun _ => ?_)
  refine g_aload_2 C dL_law_420 rfl ?_
  refine g_cV0i C dL_law_421 rfl ml_L_60 mz_X8_undo k2 (by decide) rfl rfl rfl rfl (Nat.le_of_ble_eq_true rfl) (fun _ => ?_)
  refine g_icmp_eq (tgt := 859) C dL_law_424 rfl (by decide) (fun _ => ?_) (fun h => absurd rfl h)
  exact g_mono (by omega) (by omega) (K S2 rl)

set_option maxHeartbeats 4000000 in
set_option maxRecDepth 20000 in
theorem cs_11 {κ : Kx} {b L : Nat} {xs : Nat → Int32} (C : Cx RL cL_law 4 (some .boolean) 20 false (fun r _ => r = some (.int 1)) κ) (hsc : Sc9 κ b L xs) (hL : L ≤ 256) {rc rs i : Nat} (hi : i + 4 ≤ L) {S : Mem} (hR : Rel9 S) (K : ∀ S2, Rel9 S2 → G κ rc rs S2 859 [.float 0, .ref 0, .ref 25, .int (nI i)] []) : G κ (rc + 1) (rs + 4) S 429 [.float 0, .ref 0, .ref 25, .int (nI i)] [] := by
  obtain ⟨t, dr, nw, T, q, X, sd, H, A, B, I, h, d, w⟩ := hR
  refine g_aload_1 C dL_law_429 rfl ?_
  refine g_scrK (k := 1) C hsc dL_law_430 dL_law_431 dL_law_432 (by decide) dL_law_433 dL_law_434 (by omega) hL rfl ?_
  obtain ⟨v, S1, k1, S2, k2, rl⟩ := two_follows (xs (i + 1)) h d w
  refine g_cV1i C dL_law_435 rfl ml_L_61 mz_X7_follows k1 (by decide) rfl rfl rfl rfl (Nat.le_of_ble_eq_true rfl) (fun _ => ?_)
  refine g_aload_2 C dL_law_438 rfl ?_
  refine g_scrK (k := 1) C hsc dL_law_439 dL_law_440 dL_law_441 (by decide) dL_law_442 dL_law_443 (by omega) hL rfl ?_
  refine g_cV1i C dL_law_444 rfl ml_L_64 mz_X8_follows k2 (by decide) rfl rfl rfl rfl (Nat.le_of_ble_eq_true rfl) (fun _ => ?_)
  refine g_icmp_eq (tgt := 859) C dL_law_447 rfl (by decide) (fun _ => ?_) (fun h => absurd rfl h)
  exact g_mono (by omega) (by omega) (K S2 rl)

set_option maxHeartbeats 4000000 in
set_option maxRecDepth 20000 in
theorem cs_12 {κ : Kx} {b L : Nat} {xs : Nat → Int32} (C : Cx RL cL_law 4 (some .boolean) 20 false (fun r _ => r = some (.int 1)) κ) (hsc : Sc9 κ b L xs) (hL : L ≤ 256) {rc rs i : Nat} (hi : i + 4 ≤ L) {S : Mem} (hR : Rel9 S) (K : ∀ S2, Rel9 S2 → G κ rc rs S2 859 [.float 0, .ref 0, .ref 25, .int (nI i)] []) : G κ (rc + 1) (rs + 1 + 3) S 452 [.float 0, .ref 0, .ref 25, .int (nI i)] [] := by
  obtain ⟨t, dr, nw, T, q, X, sd, H, A, B, I, h, d, w⟩ := hR
  refine g_aload_1 C dL_law_452 rfl ?_
  refine g_scrK (k := 1) C hsc dL_law_453 dL_law_454 dL_law_455 (by decide) dL_law_456 dL_law_457 (by omega) hL rfl ?_
  refine g_scrK (k := 2) C hsc dL_law_458 dL_law_459 dL_law_460 (by decide) dL_law_461 dL_law_462 (by omega) hL rfl ?_
  obtain ⟨v, S1, k1, S2, k2, rl⟩ := two_proof (xs (i + 1)) (xs (i + 2)) h d w
  refine g_cV2i C dL_law_463 rfl ml_L_65 mz_X7_proof k1 (by decide) rfl rfl rfl rfl (Nat.le_of_ble_eq_true rfl) (fun _ => ?_)
  refine g_aload_2 C dL_law_466 rfl ?_
  refine g_scrK (k := 1) C hsc dL_law_467 dL_law_468 dL_law_469 (by decide) dL_law_470 dL_law_471 (by omega) hL rfl ?_
  refine g_scrK (k := 2) C hsc dL_law_472 dL_law_473 dL_law_474 (by decide) dL_law_475 dL_law_476 (by omega) hL rfl ?_
  refine g_cV2i C dL_law_477 rfl ml_L_68 mz_X8_proof k2 (by decide) rfl rfl rfl rfl (Nat.le_of_ble_eq_true rfl) (fun _ => ?_)
  refine g_icmp_eq (tgt := 859) C dL_law_480 rfl (by decide) (fun _ => ?_) (fun h => absurd rfl h)
  exact g_mono (by omega) (by omega) (K S2 rl)

set_option maxHeartbeats 4000000 in
set_option maxRecDepth 20000 in
theorem cs_13 {κ : Kx} {b L : Nat} {xs : Nat → Int32} (C : Cx RL cL_law 4 (some .boolean) 20 false (fun r _ => r = some (.int 1)) κ) (hsc : Sc9 κ b L xs) (hL : L ≤ 256) {rc rs i : Nat} (hi : i + 4 ≤ L) {S : Mem} (hR : Rel9 S) (K : ∀ S2, Rel9 S2 → G κ rc rs S2 859 [.float 0, .ref 0, .ref 25, .int (nI i)] []) : G κ (rc + 1) (rs + 1 + 3) S 485 [.float 0, .ref 0, .ref 25, .int (nI i)] [] := by
  obtain ⟨t, dr, nw, T, q, X, sd, H, A, B, I, h, d, w⟩ := hR
  refine g_aload_1 C dL_law_485 rfl ?_
  refine g_scrK (k := 1) C hsc dL_law_486 dL_law_487 dL_law_488 (by decide) dL_law_489 dL_law_490 (by omega) hL rfl ?_
  obtain ⟨v, S1, k1, S2, k2, rl⟩ := two_giveUp (xs (i + 1)) h d w
  refine g_cV1i C dL_law_491 rfl ml_L_69 mz_X7_giveUp k1 (by decide) rfl rfl rfl rfl (Nat.le_of_ble_eq_true rfl) (fun _ => ?_)
  refine g_aload_2 C dL_law_494 rfl ?_
  refine g_scrK (k := 1) C hsc dL_law_495 dL_law_496 dL_law_497 (by decide) dL_law_498 dL_law_499 (by omega) hL rfl ?_
  refine g_cV1i C dL_law_500 rfl ml_L_72 mz_X8_giveUp k2 (by decide) rfl rfl rfl rfl (Nat.le_of_ble_eq_true rfl) (fun _ => ?_)
  refine g_icmp_eq (tgt := 859) C dL_law_503 rfl (by decide) (fun _ => ?_) (fun h => absurd rfl h)
  exact g_mono (by omega) (by omega) (K S2 rl)

set_option maxHeartbeats 4000000 in
set_option maxRecDepth 20000 in
theorem cs_14 {κ : Kx} {b L : Nat} {xs : Nat → Int32} (C : Cx RL cL_law 4 (some .boolean) 20 false (fun r _ => r = some (.int 1)) κ) (hsc : Sc9 κ b L xs) (hL : L ≤ 256) {rc rs i : Nat} (hi : i + 4 ≤ L) {S : Mem} (hR : Rel9 S) (K : ∀ S2, Rel9 S2 → G κ rc rs S2 859 [.float 0, .ref 0, .ref 25, .int (nI i)] []) : G κ (rc + 1) (rs + 1 + 3) S 508 [.float 0, .ref 0, .ref 25, .int (nI i)] [] := by
  obtain ⟨t, dr, nw, T, q, X, sd, H, A, B, I, h, d, w⟩ := hR
  refine g_aload_1 C dL_law_508 rfl ?_
  refine g_scrK (k := 1) C hsc dL_law_509 dL_law_510 dL_law_511 (by decide) dL_law_512 dL_law_513 (by omega) hL rfl ?_
  obtain ⟨v, S1, k1, S2, k2, rl⟩ := two_words (xs (i + 1)) h d w
  refine g_cV1i C dL_law_514 rfl ml_L_73 mz_X7_words k1 (by decide) rfl rfl rfl rfl (Nat.le_of_ble_eq_true rfl) (fun _ => ?_)
  refine g_aload_2 C dL_law_517 rfl ?_
  refine g_scrK (k := 1) C hsc dL_law_518 dL_law_519 dL_law_520 (by decide) dL_law_521 dL_law_522 (by omega) hL rfl ?_
  refine g_cV1i C dL_law_523 rfl ml_L_76 mz_X8_words k2 (by decide) rfl rfl rfl rfl (Nat.le_of_ble_eq_true rfl) (fun _ => ?_)
  refine g_icmp_eq (tgt := 859) C dL_law_526 rfl (by decide) (fun _ => ?_) (fun h => absurd rfl h)
  exact g_mono (by omega) (by omega) (K S2 rl)

set_option maxHeartbeats 4000000 in
set_option maxRecDepth 20000 in
theorem cs_15 {κ : Kx} {b L : Nat} {xs : Nat → Int32} (C : Cx RL cL_law 4 (some .boolean) 20 false (fun r _ => r = some (.int 1)) κ) (hsc : Sc9 κ b L xs) (hL : L ≤ 256) {rc rs i : Nat} (hi : i + 4 ≤ L) {S : Mem} (hR : Rel9 S) (K : ∀ S2, Rel9 S2 → G κ rc rs S2 859 [.float 0, .ref 0, .ref 25, .int (nI i)] []) : G κ (rc + 1) (rs + 1 + 3) S 531 [.float 0, .ref 0, .ref 25, .int (nI i)] [] := by
  obtain ⟨t, dr, nw, T, q, X, sd, H, A, B, I, h, d, w⟩ := hR
  refine g_aload_1 C dL_law_531 rfl ?_
  refine g_scrK (k := 1) C hsc dL_law_532 dL_law_533 dL_law_534 (by decide) dL_law_535 dL_law_536 (by omega) hL rfl ?_
  obtain ⟨v, S1, k1, S2, k2, rl⟩ := two_step (xs (i + 1)) h d w
  refine g_cV1i C dL_law_537 rfl ml_L_77 mz_X7_step k1 (by decide) rfl rfl rfl rfl (Nat.le_of_ble_eq_true rfl) (fun _ => ?_)
  refine g_aload_2 C dL_law_540 rfl ?_
  refine g_scrK (k := 1) C hsc dL_law_541 dL_law_542 dL_law_543 (by decide) dL_law_544 dL_law_545 (by omega) hL rfl ?_
  refine g_cV1i C dL_law_546 rfl ml_L_80 mz_X8_step k2 (by decide) rfl rfl rfl rfl (Nat.le_of_ble_eq_true rfl) (fun _ => ?_)
  refine g_icmp_eq (tgt := 859) C dL_law_549 rfl (by decide) (fun _ => ?_) (fun h => absurd rfl h)
  exact g_mono (by omega) (by omega) (K S2 rl)

set_option maxHeartbeats 4000000 in
set_option maxRecDepth 20000 in
theorem cs_16 {κ : Kx} {b L : Nat} {xs : Nat → Int32} (C : Cx RL cL_law 4 (some .boolean) 20 false (fun r _ => r = some (.int 1)) κ) (hsc : Sc9 κ b L xs) (hL : L ≤ 256) {rc rs i : Nat} (hi : i + 4 ≤ L) {S : Mem} (hR : Rel9 S) (K : ∀ S2, Rel9 S2 → G κ rc rs S2 859 [.float 0, .ref 0, .ref 25, .int (nI i)] []) : G κ (rc + 1) (rs + 1 + 3) S 554 [.float 0, .ref 0, .ref 25, .int (nI i)] [] := by
  obtain ⟨t, dr, nw, T, q, X, sd, H, A, B, I, h, d, w⟩ := hR
  refine g_aload_1 C dL_law_554 rfl ?_
  refine g_scrK (k := 1) C hsc dL_law_555 dL_law_556 dL_law_557 (by decide) dL_law_558 dL_law_559 (by omega) hL rfl ?_
  obtain ⟨v, S1, k1, S2, k2, rl⟩ := two_barred (xs (i + 1)) h d w
  refine g_cV1i C dL_law_560 rfl ml_L_81 mz_X7_barred k1 (by decide) rfl rfl rfl rfl (Nat.le_of_ble_eq_true rfl) (fun _ => ?_)
  refine g_aload_2 C dL_law_563 rfl ?_
  refine g_scrK (k := 1) C hsc dL_law_564 dL_law_565 dL_law_566 (by decide) dL_law_567 dL_law_568 (by omega) hL rfl ?_
  refine g_cV1i C dL_law_569 rfl ml_L_84 mz_X8_barred k2 (by decide) rfl rfl rfl rfl (Nat.le_of_ble_eq_true rfl) (fun _ => ?_)
  refine g_icmp_eq (tgt := 859) C dL_law_572 rfl (by decide) (fun _ => ?_) (fun h => absurd rfl h)
  exact g_mono (by omega) (by omega) (K S2 rl)

set_option maxHeartbeats 4000000 in
set_option maxRecDepth 20000 in
theorem cs_17 {κ : Kx} {b L : Nat} {xs : Nat → Int32} (C : Cx RL cL_law 4 (some .boolean) 20 false (fun r _ => r = some (.int 1)) κ) (hsc : Sc9 κ b L xs) (hL : L ≤ 256) {rc rs i : Nat} (hi : i + 4 ≤ L) {S : Mem} (hR : Rel9 S) (K : ∀ S2, Rel9 S2 → G κ rc rs S2 859 [.float 0, .ref 0, .ref 25, .int (nI i)] []) : G κ (rc + 1) (rs + 4) S 577 [.float 0, .ref 0, .ref 25, .int (nI i)] [] := by
  obtain ⟨t, dr, nw, T, q, X, sd, H, A, B, I, h, d, w⟩ := hR
  refine g_aload_1 C dL_law_577 rfl ?_
  obtain ⟨v, S1, k1, S2, k2, rl⟩ := two_never h d w
  refine g_cV0i C dL_law_578 rfl ml_L_85 mz_X7_never k1 (by decide) rfl rfl rfl rfl (Nat.le_of_ble_eq_true rfl) (fun _ => ?_)
  refine g_aload_2 C dL_law_581 rfl ?_
  refine g_cV0i C dL_law_582 rfl ml_L_88 mz_X8_never k2 (by decide) rfl rfl rfl rfl (Nat.le_of_ble_eq_true rfl) (fun _ => ?_)
  refine g_icmp_eq (tgt := 859) C dL_law_585 rfl (by decide) (fun _ => ?_) (fun h => absurd rfl h)
  exact g_mono (by omega) (by omega) (K S2 rl)

set_option maxHeartbeats 4000000 in
set_option maxRecDepth 20000 in
theorem cs_18 {κ : Kx} {b L : Nat} {xs : Nat → Int32} (C : Cx RL cL_law 4 (some .boolean) 20 false (fun r _ => r = some (.int 1)) κ) (hsc : Sc9 κ b L xs) (hL : L ≤ 256) {rc rs i : Nat} (hi : i + 4 ≤ L) {S : Mem} (hR : Rel9 S) (K : ∀ S2, Rel9 S2 → G κ rc rs S2 859 [.float 0, .ref 0, .ref 25, .int (nI i)] []) : G κ (rc + 1) (rs + 1 + 3) S 590 [.float 0, .ref 0, .ref 25, .int (nI i)] [] := by
  obtain ⟨t, dr, nw, T, q, X, sd, H, A, B, I, h, d, w⟩ := hR
  refine g_aload_1 C dL_law_590 rfl ?_
  obtain ⟨v, S1, k1, S2, k2, rl⟩ := two_round h d w
  refine g_cV0i C dL_law_591 rfl ml_L_89 mz_X7_round k1 (by decide) rfl rfl rfl rfl (Nat.le_of_ble_eq_true rfl) (fun _ => ?_)
  refine g_aload_2 C dL_law_594 rfl ?_
  refine g_cV0i C dL_law_595 rfl ml_L_92 mz_X8_round k2 (by decide) rfl rfl rfl rfl (Nat.le_of_ble_eq_true rfl) (fun _ => ?_)
  refine g_icmp_eq (tgt := 859) C dL_law_598 rfl (by decide) (fun _ => ?_) (fun h => absurd rfl h)
  exact g_mono (by omega) (by omega) (K S2 rl)

set_option maxHeartbeats 4000000 in
set_option maxRecDepth 20000 in
theorem cs_19 {κ : Kx} {b L : Nat} {xs : Nat → Int32} (C : Cx RL cL_law 4 (some .boolean) 20 false (fun r _ => r = some (.int 1)) κ) (hsc : Sc9 κ b L xs) (hL : L ≤ 256) {rc rs i : Nat} (hi : i + 4 ≤ L) {S : Mem} (hR : Rel9 S) (K : ∀ S2, Rel9 S2 → G κ rc rs S2 859 [.float 0, .ref 0, .ref 25, .int (nI i)] []) : G κ (rc + 1) (rs + 4) S 603 [.float 0, .ref 0, .ref 25, .int (nI i)] [] := by
  obtain ⟨t, dr, nw, T, q, X, sd, H, A, B, I, h, d, w⟩ := hR
  refine g_aload_1 C dL_law_603 rfl ?_
  refine g_scrK (k := 1) C hsc dL_law_604 dL_law_605 dL_law_606 (by decide) dL_law_607 dL_law_608 (by omega) hL rfl ?_
  refine g_scrK (k := 2) C hsc dL_law_609 dL_law_610 dL_law_611 (by decide) dL_law_612 dL_law_613 (by omega) hL rfl ?_
  obtain ⟨v, S1, k1, S2, k2, rl⟩ := two_vote (xs (i + 1)) (xs (i + 2)) h d w
  refine g_cV2i C dL_law_614 rfl ml_L_93 mz_X7_vote k1 (by decide) rfl rfl rfl rfl (Nat.le_of_ble_eq_true rfl) (fun _ => ?_)
  refine g_aload_2 C dL_law_617 rfl ?_
  refine g_scrK (k := 1) C hsc dL_law_618 dL_law_619 dL_law_620 (by decide) dL_law_621 dL_law_622 (by omega) hL rfl ?_
  refine g_scrK (k := 2) C hsc dL_law_623 dL_law_624 dL_law_625 (by decide) dL_law_626 dL_law_627 (by omega) hL rfl ?_
  refine g_cV2i C dL_law_628 rfl ml_L_96 mz_X8_vote k2 (by decide) rfl rfl rfl rfl (Nat.le_of_ble_eq_true rfl) (fun _ => ?_)
  refine g_icmp_eq (tgt := 859) C dL_law_631 rfl (by decide) (fun _ => ?_) (fun h => absurd rfl h)
  exact g_mono (by omega) (by omega) (K S2 rl)

set_option maxHeartbeats 4000000 in
set_option maxRecDepth 20000 in
theorem cs_20 {κ : Kx} {b L : Nat} {xs : Nat → Int32} (C : Cx RL cL_law 4 (some .boolean) 20 false (fun r _ => r = some (.int 1)) κ) (hsc : Sc9 κ b L xs) (hL : L ≤ 256) {rc rs i : Nat} (hi : i + 4 ≤ L) {S : Mem} (hR : Rel9 S) (K : ∀ S2, Rel9 S2 → G κ rc rs S2 859 [.float 0, .ref 0, .ref 25, .int (nI i)] []) : G κ (rc + 1) (rs + 4) S 636 [.float 0, .ref 0, .ref 25, .int (nI i)] [] := by
  obtain ⟨t, dr, nw, T, q, X, sd, H, A, B, I, h, d, w⟩ := hR
  refine g_aload_1 C dL_law_636 rfl ?_
  refine g_scrK (k := 1) C hsc dL_law_637 dL_law_638 dL_law_639 (by decide) dL_law_640 dL_law_641 (by omega) hL rfl ?_
  refine g_scrK (k := 2) C hsc dL_law_642 dL_law_643 dL_law_644 (by decide) dL_law_645 dL_law_646 (by omega) hL rfl ?_
  refine g_scrK (k := 3) C hsc dL_law_647 dL_law_648 dL_law_649 (by decide) dL_law_650 dL_law_651 (by omega) hL rfl ?_
  refine g_if_eq (tgt := 659) C dL_law_652 rfl (by decide) (fun hb => ?_) (fun hb => ?_)
  · skip
    refine g_iconst (v := 0) C dL_law_659 rfl (by decide) ?_
    obtain ⟨v, S1, k1, S2, k2, rl⟩ := two_ask (xs (i + 1)) (xs (i + 2)) 0 (Or.inl rfl) h d w
    refine g_cV3i C dL_law_660 rfl ml_L_97 mz_X7_ask k1 (by decide) rfl rfl rfl rfl (Nat.le_of_ble_eq_true rfl) (fun _ => ?_)
    refine g_aload_2 C dL_law_663 rfl ?_
    refine g_scrK (k := 1) C hsc dL_law_664 dL_law_665 dL_law_666 (by decide) dL_law_667 dL_law_668 (by omega) hL rfl ?_
    refine g_scrK (k := 2) C hsc dL_law_669 dL_law_670 dL_law_671 (by decide) dL_law_672 dL_law_673 (by omega) hL rfl ?_
    refine g_scrK (k := 3) C hsc dL_law_674 dL_law_675 dL_law_676 (by decide) dL_law_677 dL_law_678 (by omega) hL rfl ?_
    refine g_if_eq (tgt := 686) C dL_law_679 rfl (by decide) (fun _ => ?_) (fun h => absurd hb h)
    refine g_iconst (v := 0) C dL_law_686 rfl (by decide) ?_
    refine g_cV3i C dL_law_687 rfl ml_L_101 mz_X8_ask k2 (by decide) rfl rfl rfl rfl (Nat.le_of_ble_eq_true rfl) (fun _ => ?_)
    refine g_icmp_eq (tgt := 859) C dL_law_690 rfl (by decide) (fun _ => ?_) (fun h => absurd rfl h)
    exact g_mono (by omega) (by omega) (K S2 rl)
  · skip
    refine g_iconst (v := 1) C dL_law_655 rfl (by decide) ?_
    refine g_goto (tgt := 660) C dL_law_656 (by decide) ?_
    obtain ⟨v, S1, k1, S2, k2, rl⟩ := two_ask (xs (i + 1)) (xs (i + 2)) 1 (Or.inr rfl) h d w
    refine g_cV3i C dL_law_660 rfl ml_L_97 mz_X7_ask k1 (by decide) rfl rfl rfl rfl (Nat.le_of_ble_eq_true rfl) (fun _ => ?_)
    refine g_aload_2 C dL_law_663 rfl ?_
    refine g_scrK (k := 1) C hsc dL_law_664 dL_law_665 dL_law_666 (by decide) dL_law_667 dL_law_668 (by omega) hL rfl ?_
    refine g_scrK (k := 2) C hsc dL_law_669 dL_law_670 dL_law_671 (by decide) dL_law_672 dL_law_673 (by omega) hL rfl ?_
    refine g_scrK (k := 3) C hsc dL_law_674 dL_law_675 dL_law_676 (by decide) dL_law_677 dL_law_678 (by omega) hL rfl ?_
    refine g_if_eq (tgt := 686) C dL_law_679 rfl (by decide) (fun h => absurd h hb) (fun _ => ?_)
    refine g_iconst (v := 1) C dL_law_682 rfl (by decide) ?_
    refine g_goto (tgt := 687) C dL_law_683 (by decide) ?_
    refine g_cV3i C dL_law_687 rfl ml_L_101 mz_X8_ask k2 (by decide) rfl rfl rfl rfl (Nat.le_of_ble_eq_true rfl) (fun _ => ?_)
    refine g_icmp_eq (tgt := 859) C dL_law_690 rfl (by decide) (fun _ => ?_) (fun h => absurd rfl h)
    exact g_mono (by omega) (by omega) (K S2 rl)

set_option maxHeartbeats 4000000 in
set_option maxRecDepth 20000 in
theorem cs_21 {κ : Kx} {b L : Nat} {xs : Nat → Int32} (C : Cx RL cL_law 4 (some .boolean) 20 false (fun r _ => r = some (.int 1)) κ) (hsc : Sc9 κ b L xs) (hL : L ≤ 256) {rc rs i : Nat} (hi : i + 4 ≤ L) {S : Mem} (hR : Rel9 S) (K : ∀ S2, Rel9 S2 → G κ rc rs S2 859 [.float 0, .ref 0, .ref 25, .int (nI i)] []) : G κ (rc + 1) (rs + 4) S 695 [.float 0, .ref 0, .ref 25, .int (nI i)] [] := by
  obtain ⟨t, dr, nw, T, q, X, sd, H, A, B, I, h, d, w⟩ := hR
  refine g_aload_1 C dL_law_695 rfl ?_
  refine g_scrK (k := 1) C hsc dL_law_696 dL_law_697 dL_law_698 (by decide) dL_law_699 dL_law_700 (by omega) hL rfl ?_
  obtain ⟨v, S1, k1, S2, k2, rl⟩ := two_believed (xs (i + 1)) h d w
  refine g_cV1i C dL_law_701 rfl ml_L_102 mz_X7_believed k1 (by decide) rfl rfl rfl rfl (Nat.le_of_ble_eq_true rfl) (fun _ => ?_)
  refine g_aload_2 C dL_law_704 rfl ?_
  refine g_scrK (k := 1) C hsc dL_law_705 dL_law_706 dL_law_707 (by decide) dL_law_708 dL_law_709 (by omega) hL rfl ?_
  refine g_cV1i C dL_law_710 rfl ml_L_105 mz_X8_believed k2 (by decide) rfl rfl rfl rfl (Nat.le_of_ble_eq_true rfl) (fun _ => ?_)
  refine g_icmp_eq (tgt := 859) C dL_law_713 rfl (by decide) (fun _ => ?_) (fun h => absurd rfl h)
  exact g_mono (by omega) (by omega) (K S2 rl)

set_option maxHeartbeats 4000000 in
set_option maxRecDepth 20000 in
theorem cs_22 {κ : Kx} {b L : Nat} {xs : Nat → Int32} (C : Cx RL cL_law 4 (some .boolean) 20 false (fun r _ => r = some (.int 1)) κ) (hsc : Sc9 κ b L xs) (hL : L ≤ 256) {rc rs i : Nat} (hi : i + 4 ≤ L) {S : Mem} (hR : Rel9 S) (K : ∀ S2, Rel9 S2 → G κ rc rs S2 859 [.float 0, .ref 0, .ref 25, .int (nI i)] []) : G κ (rc + 1) (rs + 4) S 718 [.float 0, .ref 0, .ref 25, .int (nI i)] [] := by
  obtain ⟨t, dr, nw, T, q, X, sd, H, A, B, I, h, d, w⟩ := hR
  refine g_aload_1 C dL_law_718 rfl ?_
  obtain ⟨v, S1, k1, S2, k2, rl⟩ := two_askNext h d w
  refine g_cV0i C dL_law_719 rfl ml_L_106 mz_X7_askNext k1 (by decide) rfl rfl rfl rfl (Nat.le_of_ble_eq_true rfl) (fun _ => ?_)
  refine g_aload_2 C dL_law_722 rfl ?_
  refine g_cV0i C dL_law_723 rfl ml_L_109 mz_X8_askNext k2 (by decide) rfl rfl rfl rfl (Nat.le_of_ble_eq_true rfl) (fun _ => ?_)
  refine g_icmp_eq (tgt := 859) C dL_law_726 rfl (by decide) (fun _ => ?_) (fun h => absurd rfl h)
  exact g_mono (by omega) (by omega) (K S2 rl)

set_option maxHeartbeats 4000000 in
set_option maxRecDepth 20000 in
theorem cs_23 {κ : Kx} {b L : Nat} {xs : Nat → Int32} (C : Cx RL cL_law 4 (some .boolean) 20 false (fun r _ => r = some (.int 1)) κ) (hsc : Sc9 κ b L xs) (hL : L ≤ 256) {rc rs i : Nat} (hi : i + 4 ≤ L) {S : Mem} (hR : Rel9 S) (K : ∀ S2, Rel9 S2 → G κ rc rs S2 859 [.float 0, .ref 0, .ref 25, .int (nI i)] []) : G κ (rc + 1) (rs + 4) S 731 [.float 0, .ref 0, .ref 25, .int (nI i)] [] := by
  obtain ⟨t, dr, nw, T, q, X, sd, H, A, B, I, h, d, w⟩ := hR
  refine g_aload_1 C dL_law_731 rfl ?_
  refine g_scrK (k := 1) C hsc dL_law_732 dL_law_733 dL_law_734 (by decide) dL_law_735 dL_law_736 (by omega) hL rfl ?_
  refine g_scrK (k := 2) C hsc dL_law_737 dL_law_738 dL_law_739 (by decide) dL_law_740 dL_law_741 (by omega) hL rfl ?_
  obtain ⟨v, S1, k1, S2, k2, rl⟩ := two_write (xs (i + 1)) (xs (i + 2)) h d w
  refine g_cV2i C dL_law_742 rfl ml_L_110 mz_X7_write k1 (by decide) rfl rfl rfl rfl (Nat.le_of_ble_eq_true rfl) (fun _ => ?_)
  refine g_aload_2 C dL_law_745 rfl ?_
  refine g_scrK (k := 1) C hsc dL_law_746 dL_law_747 dL_law_748 (by decide) dL_law_749 dL_law_750 (by omega) hL rfl ?_
  refine g_scrK (k := 2) C hsc dL_law_751 dL_law_752 dL_law_753 (by decide) dL_law_754 dL_law_755 (by omega) hL rfl ?_
  refine g_cV2i C dL_law_756 rfl ml_L_113 mz_X8_write k2 (by decide) rfl rfl rfl rfl (Nat.le_of_ble_eq_true rfl) (fun _ => ?_)
  refine g_icmp_eq (tgt := 859) C dL_law_759 rfl (by decide) (fun _ => ?_) (fun h => absurd rfl h)
  exact g_mono (by omega) (by omega) (K S2 rl)

set_option maxHeartbeats 4000000 in
set_option maxRecDepth 20000 in
theorem cs_24 {κ : Kx} {b L : Nat} {xs : Nat → Int32} (C : Cx RL cL_law 4 (some .boolean) 20 false (fun r _ => r = some (.int 1)) κ) (hsc : Sc9 κ b L xs) (hL : L ≤ 256) {rc rs i : Nat} (hi : i + 4 ≤ L) {S : Mem} (hR : Rel9 S) (K : ∀ S2, Rel9 S2 → G κ rc rs S2 859 [.float 0, .ref 0, .ref 25, .int (nI i)] []) : G κ (rc + 1) (rs + 4) S 764 [.float 0, .ref 0, .ref 25, .int (nI i)] [] := by
  obtain ⟨t, dr, nw, T, q, X, sd, H, A, B, I, h, d, w⟩ := hR
  refine g_aload_1 C dL_law_764 rfl ?_
  obtain ⟨v, S1, k1, S2, k2, rl⟩ := two_tear h d w
  refine g_cV0i C dL_law_765 rfl ml_L_114 mz_X7_tear k1 (by decide) rfl rfl rfl rfl (Nat.le_of_ble_eq_true rfl) (fun _ => ?_)
  refine g_aload_2 C dL_law_768 rfl ?_
  refine g_cV0i C dL_law_769 rfl ml_L_117 mz_X8_tear k2 (by decide) rfl rfl rfl rfl (Nat.le_of_ble_eq_true rfl) (fun _ => ?_)
  refine g_icmp_eq (tgt := 859) C dL_law_772 rfl (by decide) (fun _ => ?_) (fun h => absurd rfl h)
  exact g_mono (by omega) (by omega) (K S2 rl)

set_option maxHeartbeats 4000000 in
set_option maxRecDepth 20000 in
theorem cs_25 {κ : Kx} {b L : Nat} {xs : Nat → Int32} (C : Cx RL cL_law 4 (some .boolean) 20 false (fun r _ => r = some (.int 1)) κ) (hsc : Sc9 κ b L xs) (hL : L ≤ 256) {rc rs i : Nat} (hi : i + 4 ≤ L) {S : Mem} (hR : Rel9 S) (K : ∀ S2, Rel9 S2 → G κ rc rs S2 859 [.float 0, .ref 0, .ref 25, .int (nI i)] []) : G κ (rc + 1) (rs + 1 + 3) S 777 [.float 0, .ref 0, .ref 25, .int (nI i)] [] := by
  obtain ⟨t, dr, nw, T, q, X, sd, H, A, B, I, h, d, w⟩ := hR
  refine g_aload_1 C dL_law_777 rfl ?_
  obtain ⟨v, S1, k1, S2, k2, rl⟩ := two_judge h d w
  refine g_cV0i C dL_law_778 rfl ml_L_118 mz_X7_judge k1 (by decide) rfl rfl rfl rfl (Nat.le_of_ble_eq_true rfl) (fun _ => ?_)
  refine g_aload_2 C dL_law_781 rfl ?_
  refine g_cV0i C dL_law_782 rfl ml_L_121 mz_X8_judge k2 (by decide) rfl rfl rfl rfl (Nat.le_of_ble_eq_true rfl) (fun _ => ?_)
  refine g_icmp_eq (tgt := 859) C dL_law_785 rfl (by decide) (fun _ => ?_) (fun h => absurd rfl h)
  exact g_mono (by omega) (by omega) (K S2 rl)

set_option maxHeartbeats 4000000 in
set_option maxRecDepth 20000 in
theorem cs_26 {κ : Kx} {b L : Nat} {xs : Nat → Int32} (C : Cx RL cL_law 4 (some .boolean) 20 false (fun r _ => r = some (.int 1)) κ) (hsc : Sc9 κ b L xs) (hL : L ≤ 256) {rc rs i : Nat} (hi : i + 4 ≤ L) {S : Mem} (hR : Rel9 S) (K : ∀ S2, Rel9 S2 → G κ rc rs S2 859 [.float 0, .ref 0, .ref 25, .int (nI i)] []) : G κ (rc + 1) (rs + 4) S 790 [.float 0, .ref 0, .ref 25, .int (nI i)] [] := by
  obtain ⟨t, dr, nw, T, q, X, sd, H, A, B, I, h, d, w⟩ := hR
  refine g_aload_1 C dL_law_790 rfl ?_
  refine g_scrK (k := 1) C hsc dL_law_791 dL_law_792 dL_law_793 (by decide) dL_law_794 dL_law_795 (by omega) hL rfl ?_
  obtain ⟨v, S1, k1, S2, k2, rl⟩ := two_seed (xs (i + 1)) h d w
  refine g_cV1i C dL_law_796 rfl ml_L_122 mz_X7_seed k1 (by decide) rfl rfl rfl rfl (Nat.le_of_ble_eq_true rfl) (fun _ => ?_)
  refine g_aload_2 C dL_law_799 rfl ?_
  refine g_scrK (k := 1) C hsc dL_law_800 dL_law_801 dL_law_802 (by decide) dL_law_803 dL_law_804 (by omega) hL rfl ?_
  refine g_cV1i C dL_law_805 rfl ml_L_125 mz_X8_seed k2 (by decide) rfl rfl rfl rfl (Nat.le_of_ble_eq_true rfl) (fun _ => ?_)
  refine g_icmp_eq (tgt := 859) C dL_law_808 rfl (by decide) (fun _ => ?_) (fun h => absurd rfl h)
  exact g_mono (by omega) (by omega) (K S2 rl)

set_option maxHeartbeats 4000000 in
set_option maxRecDepth 20000 in
theorem cs_27 {κ : Kx} {b L : Nat} {xs : Nat → Int32} (C : Cx RL cL_law 4 (some .boolean) 20 false (fun r _ => r = some (.int 1)) κ) (hsc : Sc9 κ b L xs) (hL : L ≤ 256) {rc rs i : Nat} (hi : i + 4 ≤ L) {S : Mem} (hR : Rel9 S) (K : ∀ S2, Rel9 S2 → G κ rc rs S2 859 [.float 0, .ref 0, .ref 25, .int (nI i)] []) : G κ (rc + 1) (rs + 4) S 813 [.float 0, .ref 0, .ref 25, .int (nI i)] [] := by
  obtain ⟨t, dr, nw, T, q, X, sd, H, A, B, I, h, d, w⟩ := hR
  refine g_aload_1 C dL_law_813 rfl ?_
  refine g_scrK (k := 1) C hsc dL_law_814 dL_law_815 dL_law_816 (by decide) dL_law_817 dL_law_818 (by omega) hL rfl ?_
  obtain ⟨v, S1, k1, S2, k2, rl⟩ := two_keep (xs (i + 1)) h d w
  refine g_cV1i C dL_law_819 rfl ml_L_126 mz_X7_keep k1 (by decide) rfl rfl rfl rfl (Nat.le_of_ble_eq_true rfl) (fun _ => ?_)
  refine g_aload_2 C dL_law_822 rfl ?_
  refine g_scrK (k := 1) C hsc dL_law_823 dL_law_824 dL_law_825 (by decide) dL_law_826 dL_law_827 (by omega) hL rfl ?_
  refine g_cV1i C dL_law_828 rfl ml_L_129 mz_X8_keep k2 (by decide) rfl rfl rfl rfl (Nat.le_of_ble_eq_true rfl) (fun _ => ?_)
  refine g_icmp_eq (tgt := 859) C dL_law_831 rfl (by decide) (fun _ => ?_) (fun h => absurd rfl h)
  exact g_mono (by omega) (by omega) (K S2 rl)

set_option maxHeartbeats 4000000 in
set_option maxRecDepth 20000 in
theorem cs_28 {κ : Kx} {b L : Nat} {xs : Nat → Int32} (C : Cx RL cL_law 4 (some .boolean) 20 false (fun r _ => r = some (.int 1)) κ) (hsc : Sc9 κ b L xs) (hL : L ≤ 256) {rc rs i : Nat} (hi : i + 4 ≤ L) {S : Mem} (hR : Rel9 S) (K : ∀ S2, Rel9 S2 → G κ rc rs S2 859 [.float 0, .ref 0, .ref 25, .int (nI i)] []) : G κ (rc + 1) (rs + 4) S 836 [.float 0, .ref 0, .ref 25, .int (nI i)] [] := by
  obtain ⟨t, dr, nw, T, q, X, sd, H, A, B, I, h, d, w⟩ := hR
  refine g_aload_1 C dL_law_836 rfl ?_
  refine g_scrK (k := 1) C hsc dL_law_837 dL_law_838 dL_law_839 (by decide) dL_law_840 dL_law_841 (by omega) hL rfl ?_
  obtain ⟨v, S1, k1, S2, k2, rl⟩ := two_goBack (xs (i + 1)) h d w
  refine g_cV1i C dL_law_842 rfl ml_L_130 mz_X7_goBack k1 (by decide) rfl rfl rfl rfl (Nat.le_of_ble_eq_true rfl) (fun _ => ?_)
  refine g_aload_2 C dL_law_845 rfl ?_
  refine g_scrK (k := 1) C hsc dL_law_846 dL_law_847 dL_law_848 (by decide) dL_law_849 dL_law_850 (by omega) hL rfl ?_
  refine g_cV1i C dL_law_851 rfl ml_L_133 mz_X8_goBack k2 (by decide) rfl rfl rfl rfl (Nat.le_of_ble_eq_true rfl) (fun _ => ?_)
  refine g_icmp_eq (tgt := 859) C dL_law_854 rfl (by decide) (fun _ => ?_) (fun h => absurd rfl h)
  exact g_mono (by omega) (by omega) (K S2 rl)

