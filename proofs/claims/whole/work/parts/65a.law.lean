/-! the calls of the law, 1 -/
theorem lc_addDocument {κ : xK} {D : va_G} {Y : Nat → ClassId} {A : Nat → Prop} {cells slots b L : Nat} {xs : Nat → Int32} {θ : xS} {ρ : xG} {ad : xL} {n i : Int} (C : XB κ D Y A cL_law RL 9 room_1) (hN : xGN κ.2.2.2.2.1) (S : xSc κ A b L xs) (hL : L ≤ 2048) (I : xI n θ) (hn : n < 512) (ho : oK Y ρ) (hi : 0 ≤ i ∧ i + 4 ≤ L) (hc : cells + 40 ≤ 603072) (hs : slots + 400 ≤ 7198826) (kk : ∀ (θ2 : xS) (ρ2 : xG) (ad2 : xL), xI (n + 1) θ2 → oK Y ρ2 → X κ D A 9 (cells + 40) (slots + 400) 2605 [some (.ref b), some (.ref (ad2 0 0)), some (.ref (ad2 20 0)), some (.ref (ad2 61 0)), some (.ref (ad2 62 0)), some (.int (iI i)), none, none, none] [] ad2 (jG Y θ2 θ2 ρ2 ad2)) : X κ D A 9 cells slots 224 [some (.ref b), some (.ref (ad 0 0)), some (.ref (ad 20 0)), some (.ref (ad 61 0)), some (.ref (ad 62 0)), some (.int (iI i)), none, none, none] [] ad (jG Y θ θ ρ ad) := by
  refine X_aload_n C rfl dL_law_224 ?_
  refine X_aload_n C rfl dL_law_225 ?_
  refine X_callSW C hN (w_addDocument C.hlc I ho) cw_addDocument (As := [.ref (ad 0 0), .ref (ad 61 0)]) rfl rfl rfl (xroom_of rfl rfl (show cells + 12 ≤ 603072 by omega) (show slots + 224 ≤ 7198826 by omega)) dL_law_226 (fun r ad2 g2 hp => ?_)
  obtain ⟨h1, hkp, ρ2, ho2, hV, h2⟩ := hp
  rw [h1, h2, ← hkp 0 0 (by omega), ← hkp 20 0 (by omega), ← hkp 61 0 (by omega), ← hkp 62 0 (by omega)]
  refine X_istore_6 C (by decide) rfl dL_law_229 ?_
  refine X_aload_n C rfl dL_law_231 ?_
  refine X_callVg C (c_X9_addDocument C.hlc I) cv_L_148 jG_20 ⟨_, _, rfl⟩ (As := []) rfl rfl rfl (xroom_of rfl rfl (show cells + 12 + 0 ≤ 603072 by omega) (show slots + 224 + 0 ≤ 7198826 by omega)) dL_law_232 (fun _ _ _ h => h.elim) (fun r3 ad3 g3 hp3 => ?_)
  obtain ⟨h3, h4, h5⟩ := hp3
  rw [h3, h4, h5]
  refine X_istore_7 C (by decide) rfl dL_law_235 ?_
  obtain ⟨T, IT, hT, hj⟩ := b_add I hn
  rw [hj]
  refine X_aload_n C rfl dL_law_237 ?_
  refine X_callVg C (c_X9_thrown C.hlc) cv_L_149 jG_20 ⟨_, _, rfl⟩ (As := []) rfl rfl rfl (xroom_of rfl rfl (show cells + 12 + 0 + 0 ≤ 603072 by omega) (show slots + 224 + 0 + 0 ≤ 7198826 by omega)) dL_law_238 (fun _ _ _ h => h.elim) (fun r6 ad6 g6 hp6 => ?_)
  obtain ⟨h6, h7, h8⟩ := hp6
  rw [h6, h7, h8, hT]
  have hK : 0 ≤ kAdd θ ∧ kAdd θ ≤ 5 := by unfold kAdd; (repeat' split) <;> omega
  have hKr : rg (kAdd θ) := by constructor <;> omega
  refine X_iload C rfl dL_law_241 ?_
  refine X_icmp_eq (tgt := 248) C dL_law_243 rfl hKr hKr (fun _ => ?_) (fun h => absurd rfl h)
  refine X_iload C rfl dL_law_248 ?_
  refine X_if_ne (tgt := 265) C dL_law_250 rfl hKr (fun _ => ?_) (fun hk0 => ?_)
  · refine X_goto (tgt := 2605) C dL_law_265 rfl ?_
    exact X_fg9 (X.widen (show cells + 12 + 0 + 0 ≤ cells + 40 by omega) (show slots + 224 + 0 + 0 ≤ slots + 400 by omega) (kk T ρ2 ad2 IT ho2))
  · obtain ⟨f, hf, hx⟩ := hV hk0
    rw [mA_0 hk0]
    refine X_aload_n C rfl dL_law_253 ?_
    refine X_iconst C dL_law_254 ?_
    refine X_lald C ((jG_at (by decide)).trans hf) (by decide) (by decide) (by decide) hx dL_law_255 ?_
    refine X_iload C rfl dL_law_256 ?_
    refine X_i2lR C dL_law_258 ?_
    refine X_lcmpR C dL_law_259 ?_
    refine X_if_eq (tgt := 265) C dL_law_260 rfl rg0 (fun _ => ?_) (fun h => absurd rfl h)
    refine X_goto (tgt := 2605) C dL_law_265 rfl ?_
    exact X_fg9 (X.widen (show cells + 12 + 0 + 0 ≤ cells + 40 by omega) (show slots + 224 + 0 + 0 ≤ slots + 400 by omega) (kk T ρ2 ad2 IT ho2))
theorem lc_insert {κ : xK} {D : va_G} {Y : Nat → ClassId} {A : Nat → Prop} {cells slots b L : Nat} {xs : Nat → Int32} {θ : xS} {ρ : xG} {ad : xL} {n i : Int} (C : XB κ D Y A cL_law RL 9 room_1) (hN : xGN κ.2.2.2.2.1) (S : xSc κ A b L xs) (hL : L ≤ 2048) (I : xI n θ) (hn : n < 512) (ho : oK Y ρ) (hi : 0 ≤ i ∧ i + 4 ≤ L) (hc : cells + 40 ≤ 603072) (hs : slots + 400 ≤ 7198826) (kk : ∀ (θ2 : xS) (ρ2 : xG) (ad2 : xL), xI (n + 1) θ2 → oK Y ρ2 → X κ D A 9 (cells + 40) (slots + 400) 2605 [some (.ref b), some (.ref (ad2 0 0)), some (.ref (ad2 20 0)), some (.ref (ad2 61 0)), some (.ref (ad2 62 0)), some (.int (iI i)), none, none, none] [] ad2 (jG Y θ2 θ2 ρ2 ad2)) : X κ D A 9 cells slots 268 [some (.ref b), some (.ref (ad 0 0)), some (.ref (ad 20 0)), some (.ref (ad 61 0)), some (.ref (ad 62 0)), some (.int (iI i)), none, none, none] [] ad (jG Y θ θ ρ ad) := by
  obtain ⟨z0, hz0, ez0⟩ : ∃ z : Int, rg z ∧ (xs (i + 1).toNat).toInt = z := ⟨_, rg_of _, rfl⟩
  obtain ⟨z1, hz1, ez1⟩ : ∃ z : Int, rg z ∧ (xs (i + 2).toNat).toInt = z := ⟨_, rg_of _, rfl⟩
  obtain ⟨z2, hz2, ez2⟩ : ∃ z : Int, rg z ∧ (xs (i + 3).toNat).toInt = z := ⟨_, rg_of _, rfl⟩
  refine X_aload_n C rfl dL_law_268 ?_
  refine X_aload_n C rfl dL_law_269 ?_
  refine X_iload C rfl dL_law_270 ?_
  refine X_iconst C dL_law_272 ?_
  refine X_iadd C dL_law_273 ?_
  refine X_sld C S (by omega) (by omega) (by omega) ez0 dL_law_274 ?_
  refine X_aload_n C rfl dL_law_275 ?_
  refine X_iload C rfl dL_law_276 ?_
  refine X_iconst C dL_law_278 ?_
  refine X_iadd C dL_law_279 ?_
  refine X_sld C S (by omega) (by omega) (by omega) ez1 dL_law_280 ?_
  refine X_aload_n C rfl dL_law_281 ?_
  refine X_iload C rfl dL_law_282 ?_
  refine X_iconst C dL_law_284 ?_
  refine X_iadd C dL_law_285 ?_
  refine X_sld C S (by omega) (by omega) (by omega) ez2 dL_law_286 ?_
  refine X_aload_n C rfl dL_law_287 ?_
  refine X_callSW C hN (w_insert C.hlc I hz0 hz1 hz2 hn ho) cw_insert (As := [.ref (ad 0 0), .int (iI z0), .int (iI z1), .int (iI z2), .ref (ad 61 0)]) rfl rfl rfl (xroom_of rfl rfl (show cells + 12 ≤ 603072 by omega) (show slots + 224 ≤ 7198826 by omega)) dL_law_288 (fun r ad2 g2 hp => ?_)
  obtain ⟨h1, hkp, ρ2, ho2, hV, h2⟩ := hp
  rw [h1, h2, ← hkp 0 0 (by omega), ← hkp 20 0 (by omega), ← hkp 61 0 (by omega), ← hkp 62 0 (by omega)]
  refine X_istore_6 C (by decide) rfl dL_law_291 ?_
  refine X_aload_n C rfl dL_law_293 ?_
  refine X_aload_n C rfl dL_law_294 ?_
  refine X_iload C rfl dL_law_295 ?_
  refine X_iconst C dL_law_297 ?_
  refine X_iadd C dL_law_298 ?_
  refine X_sld C S (by omega) (by omega) (by omega) ez0 dL_law_299 ?_
  refine X_aload_n C rfl dL_law_300 ?_
  refine X_iload C rfl dL_law_301 ?_
  refine X_iconst C dL_law_303 ?_
  refine X_iadd C dL_law_304 ?_
  refine X_sld C S (by omega) (by omega) (by omega) ez1 dL_law_305 ?_
  refine X_aload_n C rfl dL_law_306 ?_
  refine X_iload C rfl dL_law_307 ?_
  refine X_iconst C dL_law_309 ?_
  refine X_iadd C dL_law_310 ?_
  refine X_sld C S (by omega) (by omega) (by omega) ez2 dL_law_311 ?_
  refine X_callVg C (c_X9_insert C.hlc I hz0 hz1 hz2) cv_L_155 jG_20 ⟨_, _, rfl⟩ (As := [.int (iI z0), .int (iI z1), .int (iI z2)]) rfl rfl rfl (xroom_of rfl rfl (show cells + 12 + 0 ≤ 603072 by omega) (show slots + 224 + 0 ≤ 7198826 by omega)) dL_law_312 (fun _ _ _ h => h.elim) (fun r3 ad3 g3 hp3 => ?_)
  obtain ⟨h3, h4, h5⟩ := hp3
  rw [h3, h4, h5]
  refine X_istore_7 C (by decide) rfl dL_law_315 ?_
  obtain ⟨T, IT, hT, hj⟩ := b_ins (z := z0) (p := z1) (c := z2) I hn
  rw [hj]
  refine X_aload_n C rfl dL_law_317 ?_
  refine X_callVg C (c_X9_thrown C.hlc) cv_L_149 jG_20 ⟨_, _, rfl⟩ (As := []) rfl rfl rfl (xroom_of rfl rfl (show cells + 12 + 0 + 0 ≤ 603072 by omega) (show slots + 224 + 0 + 0 ≤ 7198826 by omega)) dL_law_318 (fun _ _ _ h => h.elim) (fun r6 ad6 g6 hp6 => ?_)
  obtain ⟨h6, h7, h8⟩ := hp6
  rw [h6, h7, h8, hT]
  have hK : 0 ≤ kIns θ z0 z1 z2 ∧ kIns θ z0 z1 z2 ≤ 5 := by unfold kIns; (repeat' split) <;> omega
  have hKr : rg (kIns θ z0 z1 z2) := by constructor <;> omega
  refine X_iload C rfl dL_law_321 ?_
  refine X_icmp_eq (tgt := 328) C dL_law_323 rfl hKr hKr (fun _ => ?_) (fun h => absurd rfl h)
  refine X_iload C rfl dL_law_328 ?_
  refine X_if_ne (tgt := 345) C dL_law_330 rfl hKr (fun _ => ?_) (fun hk0 => ?_)
  · refine X_goto (tgt := 2605) C dL_law_345 rfl ?_
    exact X_fg9 (X.widen (show cells + 12 + 0 + 0 ≤ cells + 40 by omega) (show slots + 224 + 0 + 0 ≤ slots + 400 by omega) (kk T ρ2 ad2 IT ho2))
  · obtain ⟨f, hf, hx⟩ := hV hk0
    rw [mA_0 hk0]
    refine X_aload_n C rfl dL_law_333 ?_
    refine X_iconst C dL_law_334 ?_
    refine X_lald C ((jG_at (by decide)).trans hf) (by decide) (by decide) (by decide) hx dL_law_335 ?_
    refine X_iload C rfl dL_law_336 ?_
    refine X_i2lR C dL_law_338 ?_
    refine X_lcmpR C dL_law_339 ?_
    refine X_if_eq (tgt := 345) C dL_law_340 rfl rg0 (fun _ => ?_) (fun h => absurd rfl h)
    refine X_goto (tgt := 2605) C dL_law_345 rfl ?_
    exact X_fg9 (X.widen (show cells + 12 + 0 + 0 ≤ cells + 40 by omega) (show slots + 224 + 0 + 0 ≤ slots + 400 by omega) (kk T ρ2 ad2 IT ho2))
theorem lc_delete {κ : xK} {D : va_G} {Y : Nat → ClassId} {A : Nat → Prop} {cells slots b L : Nat} {xs : Nat → Int32} {θ : xS} {ρ : xG} {ad : xL} {n i : Int} (C : XB κ D Y A cL_law RL 9 room_1) (hN : xGN κ.2.2.2.2.1) (S : xSc κ A b L xs) (hL : L ≤ 2048) (I : xI n θ) (hn : n < 512) (ho : oK Y ρ) (hi : 0 ≤ i ∧ i + 4 ≤ L) (hc : cells + 40 ≤ 603072) (hs : slots + 400 ≤ 7198826) (kk : ∀ (θ2 : xS) (ρ2 : xG) (ad2 : xL), xI (n + 1) θ2 → oK Y ρ2 → X κ D A 9 (cells + 40) (slots + 400) 2605 [some (.ref b), some (.ref (ad2 0 0)), some (.ref (ad2 20 0)), some (.ref (ad2 61 0)), some (.ref (ad2 62 0)), some (.int (iI i)), none, none, none] [] ad2 (jG Y θ2 θ2 ρ2 ad2)) : X κ D A 9 cells slots 348 [some (.ref b), some (.ref (ad 0 0)), some (.ref (ad 20 0)), some (.ref (ad 61 0)), some (.ref (ad 62 0)), some (.int (iI i)), none, none, none] [] ad (jG Y θ θ ρ ad) := by
  obtain ⟨z0, hz0, ez0⟩ : ∃ z : Int, rg z ∧ (xs (i + 1).toNat).toInt = z := ⟨_, rg_of _, rfl⟩
  obtain ⟨z1, hz1, ez1⟩ : ∃ z : Int, rg z ∧ (xs (i + 2).toNat).toInt = z := ⟨_, rg_of _, rfl⟩
  refine X_aload_n C rfl dL_law_348 ?_
  refine X_aload_n C rfl dL_law_349 ?_
  refine X_iload C rfl dL_law_350 ?_
  refine X_iconst C dL_law_352 ?_
  refine X_iadd C dL_law_353 ?_
  refine X_sld C S (by omega) (by omega) (by omega) ez0 dL_law_354 ?_
  refine X_aload_n C rfl dL_law_355 ?_
  refine X_iload C rfl dL_law_356 ?_
  refine X_iconst C dL_law_358 ?_
  refine X_iadd C dL_law_359 ?_
  refine X_sld C S (by omega) (by omega) (by omega) ez1 dL_law_360 ?_
  refine X_aload_n C rfl dL_law_361 ?_
  refine X_callSW C hN (w_delete C.hlc I hz0 hz1 hn ho) cw_delete (As := [.ref (ad 0 0), .int (iI z0), .int (iI z1), .ref (ad 61 0)]) rfl rfl rfl (xroom_of rfl rfl (show cells + 12 ≤ 603072 by omega) (show slots + 224 ≤ 7198826 by omega)) dL_law_362 (fun r ad2 g2 hp => ?_)
  obtain ⟨h1, hkp, ρ2, ho2, hV, h2⟩ := hp
  rw [h1, h2, ← hkp 0 0 (by omega), ← hkp 20 0 (by omega), ← hkp 61 0 (by omega), ← hkp 62 0 (by omega)]
  refine X_istore_6 C (by decide) rfl dL_law_365 ?_
  refine X_aload_n C rfl dL_law_367 ?_
  refine X_aload_n C rfl dL_law_368 ?_
  refine X_iload C rfl dL_law_369 ?_
  refine X_iconst C dL_law_371 ?_
  refine X_iadd C dL_law_372 ?_
  refine X_sld C S (by omega) (by omega) (by omega) ez0 dL_law_373 ?_
  refine X_aload_n C rfl dL_law_374 ?_
  refine X_iload C rfl dL_law_375 ?_
  refine X_iconst C dL_law_377 ?_
  refine X_iadd C dL_law_378 ?_
  refine X_sld C S (by omega) (by omega) (by omega) ez1 dL_law_379 ?_
  refine X_callVg C (c_X9_delete C.hlc I hz0 hz1) cv_L_159 jG_20 ⟨_, _, rfl⟩ (As := [.int (iI z0), .int (iI z1)]) rfl rfl rfl (xroom_of rfl rfl (show cells + 12 + 0 ≤ 603072 by omega) (show slots + 224 + 0 ≤ 7198826 by omega)) dL_law_380 (fun _ _ _ h => h.elim) (fun r3 ad3 g3 hp3 => ?_)
  obtain ⟨h3, h4, h5⟩ := hp3
  rw [h3, h4, h5]
  refine X_istore_7 C (by decide) rfl dL_law_383 ?_
  obtain ⟨T, IT, hT, hj⟩ := b_del (z := z0) (p := z1) I hn
  rw [hj]
  refine X_aload_n C rfl dL_law_385 ?_
  refine X_callVg C (c_X9_thrown C.hlc) cv_L_149 jG_20 ⟨_, _, rfl⟩ (As := []) rfl rfl rfl (xroom_of rfl rfl (show cells + 12 + 0 + 0 ≤ 603072 by omega) (show slots + 224 + 0 + 0 ≤ 7198826 by omega)) dL_law_386 (fun _ _ _ h => h.elim) (fun r6 ad6 g6 hp6 => ?_)
  obtain ⟨h6, h7, h8⟩ := hp6
  rw [h6, h7, h8, hT]
  have hK : 0 ≤ kDel θ z0 z1 ∧ kDel θ z0 z1 ≤ 5 := by unfold kDel; (repeat' split) <;> omega
  have hKr : rg (kDel θ z0 z1) := by constructor <;> omega
  refine X_iload C rfl dL_law_389 ?_
  refine X_icmp_eq (tgt := 396) C dL_law_391 rfl hKr hKr (fun _ => ?_) (fun h => absurd rfl h)
  refine X_iload C rfl dL_law_396 ?_
  refine X_if_ne (tgt := 413) C dL_law_398 rfl hKr (fun _ => ?_) (fun hk0 => ?_)
  · refine X_goto (tgt := 2605) C dL_law_413 rfl ?_
    exact X_fg9 (X.widen (show cells + 12 + 0 + 0 ≤ cells + 40 by omega) (show slots + 224 + 0 + 0 ≤ slots + 400 by omega) (kk T ρ2 ad2 IT ho2))
  · obtain ⟨f, hf, hx⟩ := hV hk0
    rw [mA_0 hk0]
    refine X_aload_n C rfl dL_law_401 ?_
    refine X_iconst C dL_law_402 ?_
    refine X_lald C ((jG_at (by decide)).trans hf) (by decide) (by decide) (by decide) hx dL_law_403 ?_
    refine X_iload C rfl dL_law_404 ?_
    refine X_i2lR C dL_law_406 ?_
    refine X_lcmpR C dL_law_407 ?_
    refine X_if_eq (tgt := 413) C dL_law_408 rfl rg0 (fun _ => ?_) (fun h => absurd rfl h)
    refine X_goto (tgt := 2605) C dL_law_413 rfl ?_
    exact X_fg9 (X.widen (show cells + 12 + 0 + 0 ≤ cells + 40 by omega) (show slots + 224 + 0 + 0 ≤ slots + 400 by omega) (kk T ρ2 ad2 IT ho2))
theorem lc_bar {κ : xK} {D : va_G} {Y : Nat → ClassId} {A : Nat → Prop} {cells slots b L : Nat} {xs : Nat → Int32} {θ : xS} {ρ : xG} {ad : xL} {n i : Int} (C : XB κ D Y A cL_law RL 9 room_1) (hN : xGN κ.2.2.2.2.1) (S : xSc κ A b L xs) (hL : L ≤ 2048) (I : xI n θ) (hn : n < 512) (ho : oK Y ρ) (hi : 0 ≤ i ∧ i + 4 ≤ L) (hc : cells + 40 ≤ 603072) (hs : slots + 400 ≤ 7198826) (kk : ∀ (θ2 : xS) (ρ2 : xG) (ad2 : xL), xI (n + 1) θ2 → oK Y ρ2 → X κ D A 9 (cells + 40) (slots + 400) 2605 [some (.ref b), some (.ref (ad2 0 0)), some (.ref (ad2 20 0)), some (.ref (ad2 61 0)), some (.ref (ad2 62 0)), some (.int (iI i)), none, none, none] [] ad2 (jG Y θ2 θ2 ρ2 ad2)) : X κ D A 9 cells slots 416 [some (.ref b), some (.ref (ad 0 0)), some (.ref (ad 20 0)), some (.ref (ad 61 0)), some (.ref (ad 62 0)), some (.int (iI i)), none, none, none] [] ad (jG Y θ θ ρ ad) := by
  obtain ⟨z0, hz0, ez0⟩ : ∃ z : Int, rg z ∧ (xs (i + 1).toNat).toInt = z := ⟨_, rg_of _, rfl⟩
  obtain ⟨z1, hz1, ez1⟩ : ∃ z : Int, rg z ∧ (xs (i + 2).toNat).toInt = z := ⟨_, rg_of _, rfl⟩
  obtain ⟨z2, hz2, ez2⟩ : ∃ z : Int, rg z ∧ (xs (i + 3).toNat).toInt = z := ⟨_, rg_of _, rfl⟩
  refine X_aload_n C rfl dL_law_416 ?_
  refine X_aload_n C rfl dL_law_417 ?_
  refine X_iload C rfl dL_law_418 ?_
  refine X_iconst C dL_law_420 ?_
  refine X_iadd C dL_law_421 ?_
  refine X_sld C S (by omega) (by omega) (by omega) ez0 dL_law_422 ?_
  refine X_aload_n C rfl dL_law_423 ?_
  refine X_iload C rfl dL_law_424 ?_
  refine X_iconst C dL_law_426 ?_
  refine X_iadd C dL_law_427 ?_
  refine X_sld C S (by omega) (by omega) (by omega) ez1 dL_law_428 ?_
  refine X_aload_n C rfl dL_law_429 ?_
  refine X_iload C rfl dL_law_430 ?_
  refine X_iconst C dL_law_432 ?_
  refine X_iadd C dL_law_433 ?_
  refine X_sld C S (by omega) (by omega) (by omega) ez2 dL_law_434 ?_
  refine (fun (K9 : ∀ w9 : Int, w9 = nz z2 → X κ D A 9 cells slots 443 [some (.ref b), some (.ref (ad 0 0)), some (.ref (ad 20 0)), some (.ref (ad 61 0)), some (.ref (ad 62 0)), some (.int (iI i)), none, none, none] (.int (iI w9) :: .int (iI z1) :: .int (iI z0) :: .ref (ad 0 0) :: []) ad (jG Y θ θ ρ ad)) => ?_) (fun w9 hw9 => ?_)
  · refine X_if_eq (tgt := 442) C dL_law_435 rfl hz2 (fun h => ?_) (fun h => ?_)
    · exact X_iconst C dL_law_442 (K9 0 (if_pos h).symm)
    · refine X_iconst C dL_law_438 ?_
      exact X_goto (tgt := 443) C dL_law_439 rfl (K9 1 (if_neg h).symm)
  subst hw9
  refine X_aload_n C rfl dL_law_443 ?_
  refine X_callSW C hN (w_bar C.hlc I hz0 hz1 (nz_rg z2) (nz_01 z2) ho) cw_bar (As := [.ref (ad 0 0), .int (iI z0), .int (iI z1), .int (iI (nz z2)), .ref (ad 61 0)]) rfl rfl rfl (xroom_of rfl rfl (show cells + 12 ≤ 603072 by omega) (show slots + 224 ≤ 7198826 by omega)) dL_law_444 (fun r ad2 g2 hp => ?_)
  obtain ⟨h1, hkp, ρ2, ho2, hV, h2⟩ := hp
  rw [h1, h2, ← hkp 0 0 (by omega), ← hkp 20 0 (by omega), ← hkp 61 0 (by omega), ← hkp 62 0 (by omega)]
  refine X_istore_6 C (by decide) rfl dL_law_447 ?_
  refine X_aload_n C rfl dL_law_449 ?_
  refine X_aload_n C rfl dL_law_450 ?_
  refine X_iload C rfl dL_law_451 ?_
  refine X_iconst C dL_law_453 ?_
  refine X_iadd C dL_law_454 ?_
  refine X_sld C S (by omega) (by omega) (by omega) ez0 dL_law_455 ?_
  refine X_aload_n C rfl dL_law_456 ?_
  refine X_iload C rfl dL_law_457 ?_
  refine X_iconst C dL_law_459 ?_
  refine X_iadd C dL_law_460 ?_
  refine X_sld C S (by omega) (by omega) (by omega) ez1 dL_law_461 ?_
  refine X_aload_n C rfl dL_law_462 ?_
  refine X_iload C rfl dL_law_463 ?_
  refine X_iconst C dL_law_465 ?_
  refine X_iadd C dL_law_466 ?_
  refine X_sld C S (by omega) (by omega) (by omega) ez2 dL_law_467 ?_
  refine (fun (K9 : ∀ w9 : Int, w9 = nz z2 → X κ D A 9 (cells + 12) (slots + 224) 476 [some (.ref b), some (.ref (ad2 0 0)), some (.ref (ad2 20 0)), some (.ref (ad2 61 0)), some (.ref (ad2 62 0)), some (.int (iI i)), some (.int (iI (kBar θ z0 z1 (nz z2)))), none, none] (.int (iI w9) :: .int (iI z1) :: .int (iI z0) :: .ref (ad2 20 0) :: []) ad2 (jG Y θ θ ρ2 ad2)) => ?_) (fun w9 hw9 => ?_)
  · refine X_if_eq (tgt := 475) C dL_law_468 rfl hz2 (fun h => ?_) (fun h => ?_)
    · exact X_iconst C dL_law_475 (K9 0 (if_pos h).symm)
    · refine X_iconst C dL_law_471 ?_
      exact X_goto (tgt := 476) C dL_law_472 rfl (K9 1 (if_neg h).symm)
  subst hw9
  refine X_callVg C (c_X9_bar C.hlc I hz0 hz1 (nz_rg z2) (nz_01 z2)) cv_L_163 jG_20 ⟨_, _, rfl⟩ (As := [.int (iI z0), .int (iI z1), .int (iI (nz z2))]) rfl rfl rfl (xroom_of rfl rfl (show cells + 12 + 0 ≤ 603072 by omega) (show slots + 224 + 0 ≤ 7198826 by omega)) dL_law_476 (fun _ _ _ h => h.elim) (fun r3 ad3 g3 hp3 => ?_)
  obtain ⟨h3, h4, h5⟩ := hp3
  rw [h3, h4, h5]
  refine X_istore_7 C (by decide) rfl dL_law_479 ?_
  obtain ⟨T, IT, hT, hj⟩ := jBr_q (k := kBar θ z0 z1 (nz z2)) I hn
  rw [hj]
  refine X_aload_n C rfl dL_law_481 ?_
  refine X_callVg C (c_X9_thrown C.hlc) cv_L_149 jG_20 ⟨_, _, rfl⟩ (As := []) rfl rfl rfl (xroom_of rfl rfl (show cells + 12 + 0 + 0 ≤ 603072 by omega) (show slots + 224 + 0 + 0 ≤ 7198826 by omega)) dL_law_482 (fun _ _ _ h => h.elim) (fun r6 ad6 g6 hp6 => ?_)
  obtain ⟨h6, h7, h8⟩ := hp6
  rw [h6, h7, h8, hT]
  have hK : 0 ≤ kBar θ z0 z1 (nz z2) ∧ kBar θ z0 z1 (nz z2) ≤ 5 := by unfold kBar; (repeat' split) <;> omega
  have hKr : rg (kBar θ z0 z1 (nz z2)) := by constructor <;> omega
  refine X_iload C rfl dL_law_485 ?_
  refine X_icmp_eq (tgt := 492) C dL_law_487 rfl hKr hKr (fun _ => ?_) (fun h => absurd rfl h)
  refine X_iload C rfl dL_law_492 ?_
  refine X_if_ne (tgt := 509) C dL_law_494 rfl hKr (fun _ => ?_) (fun hk0 => ?_)
  · refine X_goto (tgt := 2605) C dL_law_509 rfl ?_
    exact X_fg9 (X.widen (show cells + 12 + 0 + 0 ≤ cells + 40 by omega) (show slots + 224 + 0 + 0 ≤ slots + 400 by omega) (kk T ρ2 ad2 IT ho2))
  · obtain ⟨f, hf, hx⟩ := hV hk0
    rw [mA_0 hk0]
    refine X_aload_n C rfl dL_law_497 ?_
    refine X_iconst C dL_law_498 ?_
    refine X_lald C ((jG_at (by decide)).trans hf) (by decide) (by decide) (by decide) hx dL_law_499 ?_
    refine X_iload C rfl dL_law_500 ?_
    refine X_i2lR C dL_law_502 ?_
    refine X_lcmpR C dL_law_503 ?_
    refine X_if_eq (tgt := 509) C dL_law_504 rfl rg0 (fun _ => ?_) (fun h => absurd rfl h)
    refine X_goto (tgt := 2605) C dL_law_509 rfl ?_
    exact X_fg9 (X.widen (show cells + 12 + 0 + 0 ≤ cells + 40 by omega) (show slots + 224 + 0 + 0 ≤ slots + 400 by omega) (kk T ρ2 ad2 IT ho2))
theorem lc_close {κ : xK} {D : va_G} {Y : Nat → ClassId} {A : Nat → Prop} {cells slots b L : Nat} {xs : Nat → Int32} {θ : xS} {ρ : xG} {ad : xL} {n i : Int} (C : XB κ D Y A cL_law RL 9 room_1) (hN : xGN κ.2.2.2.2.1) (S : xSc κ A b L xs) (hL : L ≤ 2048) (I : xI n θ) (hn : n < 512) (ho : oK Y ρ) (hi : 0 ≤ i ∧ i + 4 ≤ L) (hc : cells + 40 ≤ 603072) (hs : slots + 400 ≤ 7198826) (kk : ∀ (θ2 : xS) (ρ2 : xG) (ad2 : xL), xI (n + 1) θ2 → oK Y ρ2 → X κ D A 9 (cells + 40) (slots + 400) 2605 [some (.ref b), some (.ref (ad2 0 0)), some (.ref (ad2 20 0)), some (.ref (ad2 61 0)), some (.ref (ad2 62 0)), some (.int (iI i)), none, none, none] [] ad2 (jG Y θ2 θ2 ρ2 ad2)) : X κ D A 9 cells slots 512 [some (.ref b), some (.ref (ad 0 0)), some (.ref (ad 20 0)), some (.ref (ad 61 0)), some (.ref (ad 62 0)), some (.int (iI i)), none, none, none] [] ad (jG Y θ θ ρ ad) := by
  obtain ⟨z0, hz0, ez0⟩ : ∃ z : Int, rg z ∧ (xs (i + 1).toNat).toInt = z := ⟨_, rg_of _, rfl⟩
  obtain ⟨z1, hz1, ez1⟩ : ∃ z : Int, rg z ∧ (xs (i + 2).toNat).toInt = z := ⟨_, rg_of _, rfl⟩
  refine X_aload_n C rfl dL_law_512 ?_
  refine X_aload_n C rfl dL_law_513 ?_
  refine X_iload C rfl dL_law_514 ?_
  refine X_iconst C dL_law_516 ?_
  refine X_iadd C dL_law_517 ?_
  refine X_sld C S (by omega) (by omega) (by omega) ez0 dL_law_518 ?_
  refine X_aload_n C rfl dL_law_519 ?_
  refine X_iload C rfl dL_law_520 ?_
  refine X_iconst C dL_law_522 ?_
  refine X_iadd C dL_law_523 ?_
  refine X_sld C S (by omega) (by omega) (by omega) ez1 dL_law_524 ?_
  refine X_aload_n C rfl dL_law_525 ?_
  refine X_callSW C hN (w_close C.hlc I hz0 hz1 ho) cw_close (As := [.ref (ad 0 0), .int (iI z0), .int (iI z1), .ref (ad 61 0)]) rfl rfl rfl (xroom_of rfl rfl (show cells + 12 ≤ 603072 by omega) (show slots + 224 ≤ 7198826 by omega)) dL_law_526 (fun r ad2 g2 hp => ?_)
  obtain ⟨h1, hkp, ρ2, ho2, hV, h2⟩ := hp
  rw [h1, h2, ← hkp 0 0 (by omega), ← hkp 20 0 (by omega), ← hkp 61 0 (by omega), ← hkp 62 0 (by omega)]
  refine X_istore_6 C (by decide) rfl dL_law_529 ?_
  refine X_aload_n C rfl dL_law_531 ?_
  refine X_aload_n C rfl dL_law_532 ?_
  refine X_iload C rfl dL_law_533 ?_
  refine X_iconst C dL_law_535 ?_
  refine X_iadd C dL_law_536 ?_
  refine X_sld C S (by omega) (by omega) (by omega) ez0 dL_law_537 ?_
  refine X_aload_n C rfl dL_law_538 ?_
  refine X_iload C rfl dL_law_539 ?_
  refine X_iconst C dL_law_541 ?_
  refine X_iadd C dL_law_542 ?_
  refine X_sld C S (by omega) (by omega) (by omega) ez1 dL_law_543 ?_
  refine X_callVg C (c_X9_close C.hlc I hz0 hz1) cv_L_166 jG_20 ⟨_, _, rfl⟩ (As := [.int (iI z0), .int (iI z1)]) rfl rfl rfl (xroom_of rfl rfl (show cells + 12 + 0 ≤ 603072 by omega) (show slots + 224 + 0 ≤ 7198826 by omega)) dL_law_544 (fun _ _ _ h => h.elim) (fun r3 ad3 g3 hp3 => ?_)
  obtain ⟨h3, h4, h5⟩ := hp3
  rw [h3, h4, h5]
  refine X_istore_7 C (by decide) rfl dL_law_547 ?_
  obtain ⟨T, IT, hT, hj⟩ := b_clo (z := z0) (u := z1) I hn
  rw [hj]
  refine X_aload_n C rfl dL_law_549 ?_
  refine X_callVg C (c_X9_thrown C.hlc) cv_L_149 jG_20 ⟨_, _, rfl⟩ (As := []) rfl rfl rfl (xroom_of rfl rfl (show cells + 12 + 0 + 0 ≤ 603072 by omega) (show slots + 224 + 0 + 0 ≤ 7198826 by omega)) dL_law_550 (fun _ _ _ h => h.elim) (fun r6 ad6 g6 hp6 => ?_)
  obtain ⟨h6, h7, h8⟩ := hp6
  rw [h6, h7, h8, hT]
  have hK : 0 ≤ kClo θ z0 z1 ∧ kClo θ z0 z1 ≤ 5 := by unfold kClo; (repeat' split) <;> omega
  have hKr : rg (kClo θ z0 z1) := by constructor <;> omega
  refine X_iload C rfl dL_law_553 ?_
  refine X_icmp_eq (tgt := 560) C dL_law_555 rfl hKr hKr (fun _ => ?_) (fun h => absurd rfl h)
  refine X_iload C rfl dL_law_560 ?_
  refine X_if_ne (tgt := 577) C dL_law_562 rfl hKr (fun _ => ?_) (fun hk0 => ?_)
  · refine X_goto (tgt := 2605) C dL_law_577 rfl ?_
    exact X_fg9 (X.widen (show cells + 12 + 0 + 0 ≤ cells + 40 by omega) (show slots + 224 + 0 + 0 ≤ slots + 400 by omega) (kk T ρ2 ad2 IT ho2))
  · obtain ⟨f, hf, hx⟩ := hV hk0
    rw [mA_0 hk0]
    refine X_aload_n C rfl dL_law_565 ?_
    refine X_iconst C dL_law_566 ?_
    refine X_lald C ((jG_at (by decide)).trans hf) (by decide) (by decide) (by decide) hx dL_law_567 ?_
    refine X_iload C rfl dL_law_568 ?_
    refine X_i2lR C dL_law_570 ?_
    refine X_lcmpR C dL_law_571 ?_
    refine X_if_eq (tgt := 577) C dL_law_572 rfl rg0 (fun _ => ?_) (fun h => absurd rfl h)
    refine X_goto (tgt := 2605) C dL_law_577 rfl ?_
    exact X_fg9 (X.widen (show cells + 12 + 0 + 0 ≤ cells + 40 by omega) (show slots + 224 + 0 + 0 ≤ slots + 400 by omega) (kk T ρ2 ad2 IT ho2))
theorem lc_length {κ : xK} {D : va_G} {Y : Nat → ClassId} {A : Nat → Prop} {cells slots b L : Nat} {xs : Nat → Int32} {θ : xS} {ρ : xG} {ad : xL} {n i : Int} (C : XB κ D Y A cL_law RL 9 room_1) (hN : xGN κ.2.2.2.2.1) (S : xSc κ A b L xs) (hL : L ≤ 2048) (I : xI n θ) (hn : n < 512) (ho : oK Y ρ) (hi : 0 ≤ i ∧ i + 4 ≤ L) (hc : cells + 40 ≤ 603072) (hs : slots + 400 ≤ 7198826) (kk : ∀ (θ2 : xS) (ρ2 : xG) (ad2 : xL), xI (n + 1) θ2 → oK Y ρ2 → X κ D A 9 (cells + 40) (slots + 400) 2605 [some (.ref b), some (.ref (ad2 0 0)), some (.ref (ad2 20 0)), some (.ref (ad2 61 0)), some (.ref (ad2 62 0)), some (.int (iI i)), none, none, none] [] ad2 (jG Y θ2 θ2 ρ2 ad2)) : X κ D A 9 cells slots 580 [some (.ref b), some (.ref (ad 0 0)), some (.ref (ad 20 0)), some (.ref (ad 61 0)), some (.ref (ad 62 0)), some (.int (iI i)), none, none, none] [] ad (jG Y θ θ ρ ad) := by
  obtain ⟨z0, hz0, ez0⟩ : ∃ z : Int, rg z ∧ (xs (i + 1).toNat).toInt = z := ⟨_, rg_of _, rfl⟩
  refine X_aload_n C rfl dL_law_580 ?_
  refine X_aload_n C rfl dL_law_581 ?_
  refine X_iload C rfl dL_law_582 ?_
  refine X_iconst C dL_law_584 ?_
  refine X_iadd C dL_law_585 ?_
  refine X_sld C S (by omega) (by omega) (by omega) ez0 dL_law_586 ?_
  refine X_aload_n C rfl dL_law_587 ?_
  refine X_callSW C hN (w_length C.hlc I hz0 ho) cw_length (As := [.ref (ad 0 0), .int (iI z0), .ref (ad 61 0)]) rfl rfl rfl (xroom_of rfl rfl (show cells + 12 ≤ 603072 by omega) (show slots + 224 ≤ 7198826 by omega)) dL_law_588 (fun r ad2 g2 hp => ?_)
  obtain ⟨h1, hkp, ρ2, ho2, hV, h2⟩ := hp
  rw [h1, h2, ← hkp 0 0 (by omega), ← hkp 20 0 (by omega), ← hkp 61 0 (by omega), ← hkp 62 0 (by omega)]
  refine X_istore_6 C (by decide) rfl dL_law_591 ?_
  refine X_aload_n C rfl dL_law_593 ?_
  refine X_aload_n C rfl dL_law_594 ?_
  refine X_iload C rfl dL_law_595 ?_
  refine X_iconst C dL_law_597 ?_
  refine X_iadd C dL_law_598 ?_
  refine X_sld C S (by omega) (by omega) (by omega) ez0 dL_law_599 ?_
  refine X_callVg C (c_X9_length C.hlc I hz0) cv_L_170 jG_20 ⟨_, _, rfl⟩ (As := [.int (iI z0)]) rfl rfl rfl (xroom_of rfl rfl (show cells + 12 + 0 ≤ 603072 by omega) (show slots + 224 + 0 ≤ 7198826 by omega)) dL_law_600 (fun _ _ _ h => h.elim) (fun r3 ad3 g3 hp3 => ?_)
  obtain ⟨h3, h4, h5⟩ := hp3
  rw [h3, h4, h5]
  refine X_istore_7 C (by decide) rfl dL_law_603 ?_
  obtain ⟨T, IT, hT, hj⟩ := jBr_q (k := kDoc θ z0) I hn
  rw [hj]
  refine X_aload_n C rfl dL_law_605 ?_
  refine X_callVg C (c_X9_thrown C.hlc) cv_L_149 jG_20 ⟨_, _, rfl⟩ (As := []) rfl rfl rfl (xroom_of rfl rfl (show cells + 12 + 0 + 0 ≤ 603072 by omega) (show slots + 224 + 0 + 0 ≤ 7198826 by omega)) dL_law_606 (fun _ _ _ h => h.elim) (fun r6 ad6 g6 hp6 => ?_)
  obtain ⟨h6, h7, h8⟩ := hp6
  rw [h6, h7, h8, hT]
  have hK : 0 ≤ kDoc θ z0 ∧ kDoc θ z0 ≤ 5 := by unfold kDoc; (repeat' split) <;> omega
  have hKr : rg (kDoc θ z0) := by constructor <;> omega
  refine X_iload C rfl dL_law_609 ?_
  refine X_icmp_eq (tgt := 616) C dL_law_611 rfl hKr hKr (fun _ => ?_) (fun h => absurd rfl h)
  refine X_iload C rfl dL_law_616 ?_
  refine X_if_ne (tgt := 633) C dL_law_618 rfl hKr (fun _ => ?_) (fun hk0 => ?_)
  · refine X_goto (tgt := 2605) C dL_law_633 rfl ?_
    exact X_fg9 (X.widen (show cells + 12 + 0 + 0 ≤ cells + 40 by omega) (show slots + 224 + 0 + 0 ≤ slots + 400 by omega) (kk T ρ2 ad2 IT ho2))
  · obtain ⟨f, hf, hx⟩ := hV hk0
    rw [mA_0 hk0]
    refine X_aload_n C rfl dL_law_621 ?_
    refine X_iconst C dL_law_622 ?_
    refine X_lald C ((jG_at (by decide)).trans hf) (by decide) (by decide) (by decide) hx dL_law_623 ?_
    refine X_iload C rfl dL_law_624 ?_
    refine X_i2lR C dL_law_626 ?_
    refine X_lcmpR C dL_law_627 ?_
    refine X_if_eq (tgt := 633) C dL_law_628 rfl rg0 (fun _ => ?_) (fun h => absurd rfl h)
    refine X_goto (tgt := 2605) C dL_law_633 rfl ?_
    exact X_fg9 (X.widen (show cells + 12 + 0 + 0 ≤ cells + 40 by omega) (show slots + 224 + 0 + 0 ≤ slots + 400 by omega) (kk T ρ2 ad2 IT ho2))
theorem lc_codeAt {κ : xK} {D : va_G} {Y : Nat → ClassId} {A : Nat → Prop} {cells slots b L : Nat} {xs : Nat → Int32} {θ : xS} {ρ : xG} {ad : xL} {n i : Int} (C : XB κ D Y A cL_law RL 9 room_1) (hN : xGN κ.2.2.2.2.1) (S : xSc κ A b L xs) (hL : L ≤ 2048) (I : xI n θ) (hn : n < 512) (ho : oK Y ρ) (hi : 0 ≤ i ∧ i + 4 ≤ L) (hc : cells + 40 ≤ 603072) (hs : slots + 400 ≤ 7198826) (kk : ∀ (θ2 : xS) (ρ2 : xG) (ad2 : xL), xI (n + 1) θ2 → oK Y ρ2 → X κ D A 9 (cells + 40) (slots + 400) 2605 [some (.ref b), some (.ref (ad2 0 0)), some (.ref (ad2 20 0)), some (.ref (ad2 61 0)), some (.ref (ad2 62 0)), some (.int (iI i)), none, none, none] [] ad2 (jG Y θ2 θ2 ρ2 ad2)) : X κ D A 9 cells slots 636 [some (.ref b), some (.ref (ad 0 0)), some (.ref (ad 20 0)), some (.ref (ad 61 0)), some (.ref (ad 62 0)), some (.int (iI i)), none, none, none] [] ad (jG Y θ θ ρ ad) := by
  obtain ⟨z0, hz0, ez0⟩ : ∃ z : Int, rg z ∧ (xs (i + 1).toNat).toInt = z := ⟨_, rg_of _, rfl⟩
  obtain ⟨z1, hz1, ez1⟩ : ∃ z : Int, rg z ∧ (xs (i + 2).toNat).toInt = z := ⟨_, rg_of _, rfl⟩
  refine X_aload_n C rfl dL_law_636 ?_
  refine X_aload_n C rfl dL_law_637 ?_
  refine X_iload C rfl dL_law_638 ?_
  refine X_iconst C dL_law_640 ?_
  refine X_iadd C dL_law_641 ?_
  refine X_sld C S (by omega) (by omega) (by omega) ez0 dL_law_642 ?_
  refine X_aload_n C rfl dL_law_643 ?_
  refine X_iload C rfl dL_law_644 ?_
  refine X_iconst C dL_law_646 ?_
  refine X_iadd C dL_law_647 ?_
  refine X_sld C S (by omega) (by omega) (by omega) ez1 dL_law_648 ?_
  refine X_aload_n C rfl dL_law_649 ?_
  refine X_callSW C hN (w_codeAt C.hlc I hz0 hz1 ho) cw_codeAt (As := [.ref (ad 0 0), .int (iI z0), .int (iI z1), .ref (ad 61 0)]) rfl rfl rfl (xroom_of rfl rfl (show cells + 12 ≤ 603072 by omega) (show slots + 224 ≤ 7198826 by omega)) dL_law_650 (fun r ad2 g2 hp => ?_)
  obtain ⟨h1, hkp, ρ2, ho2, hV, h2⟩ := hp
  rw [h1, h2, ← hkp 0 0 (by omega), ← hkp 20 0 (by omega), ← hkp 61 0 (by omega), ← hkp 62 0 (by omega)]
  refine X_istore_6 C (by decide) rfl dL_law_653 ?_
  refine X_aload_n C rfl dL_law_655 ?_
  refine X_aload_n C rfl dL_law_656 ?_
  refine X_iload C rfl dL_law_657 ?_
  refine X_iconst C dL_law_659 ?_
  refine X_iadd C dL_law_660 ?_
  refine X_sld C S (by omega) (by omega) (by omega) ez0 dL_law_661 ?_
  refine X_aload_n C rfl dL_law_662 ?_
  refine X_iload C rfl dL_law_663 ?_
  refine X_iconst C dL_law_665 ?_
  refine X_iadd C dL_law_666 ?_
  refine X_sld C S (by omega) (by omega) (by omega) ez1 dL_law_667 ?_
  refine X_callVg C (c_X9_codeAt C.hlc I hz0 hz1) cv_L_173 jG_20 ⟨_, _, rfl⟩ (As := [.int (iI z0), .int (iI z1)]) rfl rfl rfl (xroom_of rfl rfl (show cells + 12 + 0 ≤ 603072 by omega) (show slots + 224 + 0 ≤ 7198826 by omega)) dL_law_668 (fun _ _ _ h => h.elim) (fun r3 ad3 g3 hp3 => ?_)
  obtain ⟨h3, h4, h5⟩ := hp3
  rw [h3, h4, h5]
  refine X_istore_7 C (by decide) rfl dL_law_671 ?_
  obtain ⟨T, IT, hT, hj⟩ := jBr_q (k := kCod θ z0 z1) I hn
  rw [hj]
  refine X_aload_n C rfl dL_law_673 ?_
  refine X_callVg C (c_X9_thrown C.hlc) cv_L_149 jG_20 ⟨_, _, rfl⟩ (As := []) rfl rfl rfl (xroom_of rfl rfl (show cells + 12 + 0 + 0 ≤ 603072 by omega) (show slots + 224 + 0 + 0 ≤ 7198826 by omega)) dL_law_674 (fun _ _ _ h => h.elim) (fun r6 ad6 g6 hp6 => ?_)
  obtain ⟨h6, h7, h8⟩ := hp6
  rw [h6, h7, h8, hT]
  have hK : 0 ≤ kCod θ z0 z1 ∧ kCod θ z0 z1 ≤ 5 := by unfold kCod; (repeat' split) <;> omega
  have hKr : rg (kCod θ z0 z1) := by constructor <;> omega
  refine X_iload C rfl dL_law_677 ?_
  refine X_icmp_eq (tgt := 684) C dL_law_679 rfl hKr hKr (fun _ => ?_) (fun h => absurd rfl h)
  refine X_iload C rfl dL_law_684 ?_
  refine X_if_ne (tgt := 701) C dL_law_686 rfl hKr (fun _ => ?_) (fun hk0 => ?_)
  · refine X_goto (tgt := 2605) C dL_law_701 rfl ?_
    exact X_fg9 (X.widen (show cells + 12 + 0 + 0 ≤ cells + 40 by omega) (show slots + 224 + 0 + 0 ≤ slots + 400 by omega) (kk T ρ2 ad2 IT ho2))
  · obtain ⟨f, hf, hx⟩ := hV hk0
    rw [mA_0 hk0]
    refine X_aload_n C rfl dL_law_689 ?_
    refine X_iconst C dL_law_690 ?_
    refine X_lald C ((jG_at (by decide)).trans hf) (by decide) (by decide) (by decide) hx dL_law_691 ?_
    refine X_iload C rfl dL_law_692 ?_
    refine X_i2lR C dL_law_694 ?_
    refine X_lcmpR C dL_law_695 ?_
    refine X_if_eq (tgt := 701) C dL_law_696 rfl rg0 (fun _ => ?_) (fun h => absurd rfl h)
    refine X_goto (tgt := 2605) C dL_law_701 rfl ?_
    exact X_fg9 (X.widen (show cells + 12 + 0 + 0 ≤ cells + 40 by omega) (show slots + 224 + 0 + 0 ≤ slots + 400 by omega) (kk T ρ2 ad2 IT ho2))
theorem lc_version {κ : xK} {D : va_G} {Y : Nat → ClassId} {A : Nat → Prop} {cells slots b L : Nat} {xs : Nat → Int32} {θ : xS} {ρ : xG} {ad : xL} {n i : Int} (C : XB κ D Y A cL_law RL 9 room_1) (hN : xGN κ.2.2.2.2.1) (S : xSc κ A b L xs) (hL : L ≤ 2048) (I : xI n θ) (hn : n < 512) (ho : oK Y ρ) (hi : 0 ≤ i ∧ i + 4 ≤ L) (hc : cells + 40 ≤ 603072) (hs : slots + 400 ≤ 7198826) (kk : ∀ (θ2 : xS) (ρ2 : xG) (ad2 : xL), xI (n + 1) θ2 → oK Y ρ2 → X κ D A 9 (cells + 40) (slots + 400) 2605 [some (.ref b), some (.ref (ad2 0 0)), some (.ref (ad2 20 0)), some (.ref (ad2 61 0)), some (.ref (ad2 62 0)), some (.int (iI i)), none, none, none] [] ad2 (jG Y θ2 θ2 ρ2 ad2)) : X κ D A 9 cells slots 704 [some (.ref b), some (.ref (ad 0 0)), some (.ref (ad 20 0)), some (.ref (ad 61 0)), some (.ref (ad 62 0)), some (.int (iI i)), none, none, none] [] ad (jG Y θ θ ρ ad) := by
  obtain ⟨z0, hz0, ez0⟩ : ∃ z : Int, rg z ∧ (xs (i + 1).toNat).toInt = z := ⟨_, rg_of _, rfl⟩
  refine X_aload_n C rfl dL_law_704 ?_
  refine X_aload_n C rfl dL_law_705 ?_
  refine X_iload C rfl dL_law_706 ?_
  refine X_iconst C dL_law_708 ?_
  refine X_iadd C dL_law_709 ?_
  refine X_sld C S (by omega) (by omega) (by omega) ez0 dL_law_710 ?_
  refine X_aload_n C rfl dL_law_711 ?_
  refine X_callSW C hN (w_version C.hlc I hz0 ho) cw_version (As := [.ref (ad 0 0), .int (iI z0), .ref (ad 61 0)]) rfl rfl rfl (xroom_of rfl rfl (show cells + 12 ≤ 603072 by omega) (show slots + 224 ≤ 7198826 by omega)) dL_law_712 (fun r ad2 g2 hp => ?_)
  obtain ⟨h1, hkp, ρ2, ho2, hV, h2⟩ := hp
  rw [h1, h2, ← hkp 0 0 (by omega), ← hkp 20 0 (by omega), ← hkp 61 0 (by omega), ← hkp 62 0 (by omega)]
  refine X_istore_6 C (by decide) rfl dL_law_715 ?_
  refine X_aload_n C rfl dL_law_717 ?_
  refine X_aload_n C rfl dL_law_718 ?_
  refine X_iload C rfl dL_law_719 ?_
  refine X_iconst C dL_law_721 ?_
  refine X_iadd C dL_law_722 ?_
  refine X_sld C S (by omega) (by omega) (by omega) ez0 dL_law_723 ?_
  refine X_callVg C (c_X9_version C.hlc I hz0) cv_L_176 jG_20 ⟨_, _, rfl⟩ (As := [.int (iI z0)]) rfl rfl rfl (xroom_of rfl rfl (show cells + 12 + 0 ≤ 603072 by omega) (show slots + 224 + 0 ≤ 7198826 by omega)) dL_law_724 (fun _ _ _ h => h.elim) (fun r3 ad3 g3 hp3 => ?_)
  obtain ⟨h3, h4, h5⟩ := hp3
  rw [h3, h4, h5]
  refine X_istore_7 C (by decide) rfl dL_law_727 ?_
  obtain ⟨T, IT, hT, hj⟩ := jBr_q (k := kDoc θ z0) I hn
  rw [hj]
  refine X_aload_n C rfl dL_law_729 ?_
  refine X_callVg C (c_X9_thrown C.hlc) cv_L_149 jG_20 ⟨_, _, rfl⟩ (As := []) rfl rfl rfl (xroom_of rfl rfl (show cells + 12 + 0 + 0 ≤ 603072 by omega) (show slots + 224 + 0 + 0 ≤ 7198826 by omega)) dL_law_730 (fun _ _ _ h => h.elim) (fun r6 ad6 g6 hp6 => ?_)
  obtain ⟨h6, h7, h8⟩ := hp6
  rw [h6, h7, h8, hT]
  have hK : 0 ≤ kDoc θ z0 ∧ kDoc θ z0 ≤ 5 := by unfold kDoc; (repeat' split) <;> omega
  have hKr : rg (kDoc θ z0) := by constructor <;> omega
  refine X_iload C rfl dL_law_733 ?_
  refine X_icmp_eq (tgt := 740) C dL_law_735 rfl hKr hKr (fun _ => ?_) (fun h => absurd rfl h)
  refine X_iload C rfl dL_law_740 ?_
  refine X_if_ne (tgt := 757) C dL_law_742 rfl hKr (fun _ => ?_) (fun hk0 => ?_)
  · refine X_goto (tgt := 2605) C dL_law_757 rfl ?_
    exact X_fg9 (X.widen (show cells + 12 + 0 + 0 ≤ cells + 40 by omega) (show slots + 224 + 0 + 0 ≤ slots + 400 by omega) (kk T ρ2 ad2 IT ho2))
  · obtain ⟨f, hf, hx⟩ := hV hk0
    rw [mA_0 hk0]
    refine X_aload_n C rfl dL_law_745 ?_
    refine X_iconst C dL_law_746 ?_
    refine X_lald C ((jG_at (by decide)).trans hf) (by decide) (by decide) (by decide) hx dL_law_747 ?_
    refine X_iload C rfl dL_law_748 ?_
    refine X_i2lR C dL_law_750 ?_
    refine X_lcmpR C dL_law_751 ?_
    refine X_if_eq (tgt := 757) C dL_law_752 rfl rg0 (fun _ => ?_) (fun h => absurd rfl h)
    refine X_goto (tgt := 2605) C dL_law_757 rfl ?_
    exact X_fg9 (X.widen (show cells + 12 + 0 + 0 ≤ cells + 40 by omega) (show slots + 224 + 0 + 0 ≤ slots + 400 by omega) (kk T ρ2 ad2 IT ho2))
theorem lc_comment {κ : xK} {D : va_G} {Y : Nat → ClassId} {A : Nat → Prop} {cells slots b L : Nat} {xs : Nat → Int32} {θ : xS} {ρ : xG} {ad : xL} {n i : Int} (C : XB κ D Y A cL_law RL 9 room_1) (hN : xGN κ.2.2.2.2.1) (S : xSc κ A b L xs) (hL : L ≤ 2048) (I : xI n θ) (hn : n < 512) (ho : oK Y ρ) (hi : 0 ≤ i ∧ i + 4 ≤ L) (hc : cells + 40 ≤ 603072) (hs : slots + 400 ≤ 7198826) (kk : ∀ (θ2 : xS) (ρ2 : xG) (ad2 : xL), xI (n + 1) θ2 → oK Y ρ2 → X κ D A 9 (cells + 40) (slots + 400) 2605 [some (.ref b), some (.ref (ad2 0 0)), some (.ref (ad2 20 0)), some (.ref (ad2 61 0)), some (.ref (ad2 62 0)), some (.int (iI i)), none, none, none] [] ad2 (jG Y θ2 θ2 ρ2 ad2)) : X κ D A 9 cells slots 760 [some (.ref b), some (.ref (ad 0 0)), some (.ref (ad 20 0)), some (.ref (ad 61 0)), some (.ref (ad 62 0)), some (.int (iI i)), none, none, none] [] ad (jG Y θ θ ρ ad) := by
  obtain ⟨z0, hz0, ez0⟩ : ∃ z : Int, rg z ∧ (xs (i + 1).toNat).toInt = z := ⟨_, rg_of _, rfl⟩
  obtain ⟨z1, hz1, ez1⟩ : ∃ z : Int, rg z ∧ (xs (i + 2).toNat).toInt = z := ⟨_, rg_of _, rfl⟩
  obtain ⟨z2, hz2, ez2⟩ : ∃ z : Int, rg z ∧ (xs (i + 3).toNat).toInt = z := ⟨_, rg_of _, rfl⟩
  refine X_aload_n C rfl dL_law_760 ?_
  refine X_aload_n C rfl dL_law_761 ?_
  refine X_iload C rfl dL_law_762 ?_
  refine X_iconst C dL_law_764 ?_
  refine X_iadd C dL_law_765 ?_
  refine X_sld C S (by omega) (by omega) (by omega) ez0 dL_law_766 ?_
  refine X_aload_n C rfl dL_law_767 ?_
  refine X_iload C rfl dL_law_768 ?_
  refine X_iconst C dL_law_770 ?_
  refine X_iadd C dL_law_771 ?_
  refine X_sld C S (by omega) (by omega) (by omega) ez1 dL_law_772 ?_
  refine X_aload_n C rfl dL_law_773 ?_
  refine X_iload C rfl dL_law_774 ?_
  refine X_iconst C dL_law_776 ?_
  refine X_iadd C dL_law_777 ?_
  refine X_sld C S (by omega) (by omega) (by omega) ez2 dL_law_778 ?_
  refine X_aload_n C rfl dL_law_779 ?_
  refine X_callSW C hN (w_comment C.hlc I hz0 hz1 hz2 ho) cw_comment (As := [.ref (ad 0 0), .int (iI z0), .int (iI z1), .int (iI z2), .ref (ad 61 0)]) rfl rfl rfl (xroom_of rfl rfl (show cells + 12 ≤ 603072 by omega) (show slots + 224 ≤ 7198826 by omega)) dL_law_780 (fun r ad2 g2 hp => ?_)
  obtain ⟨h1, hkp, ρ2, ho2, hV, h2⟩ := hp
  rw [h1, h2, ← hkp 0 0 (by omega), ← hkp 20 0 (by omega), ← hkp 61 0 (by omega), ← hkp 62 0 (by omega)]
  refine X_istore_6 C (by decide) rfl dL_law_783 ?_
  refine X_aload_n C rfl dL_law_785 ?_
  refine X_aload_n C rfl dL_law_786 ?_
  refine X_iload C rfl dL_law_787 ?_
  refine X_iconst C dL_law_789 ?_
  refine X_iadd C dL_law_790 ?_
  refine X_sld C S (by omega) (by omega) (by omega) ez0 dL_law_791 ?_
  refine X_aload_n C rfl dL_law_792 ?_
  refine X_iload C rfl dL_law_793 ?_
  refine X_iconst C dL_law_795 ?_
  refine X_iadd C dL_law_796 ?_
  refine X_sld C S (by omega) (by omega) (by omega) ez1 dL_law_797 ?_
  refine X_aload_n C rfl dL_law_798 ?_
  refine X_iload C rfl dL_law_799 ?_
  refine X_iconst C dL_law_801 ?_
  refine X_iadd C dL_law_802 ?_
  refine X_sld C S (by omega) (by omega) (by omega) ez2 dL_law_803 ?_
  refine X_callVg C (c_X9_comment C.hlc I hz0 hz1 hz2) cv_L_179 jG_20 ⟨_, _, rfl⟩ (As := [.int (iI z0), .int (iI z1), .int (iI z2)]) rfl rfl rfl (xroom_of rfl rfl (show cells + 12 + 0 ≤ 603072 by omega) (show slots + 224 + 0 ≤ 7198826 by omega)) dL_law_804 (fun _ _ _ h => h.elim) (fun r3 ad3 g3 hp3 => ?_)
  obtain ⟨h3, h4, h5⟩ := hp3
  rw [h3, h4, h5]
  refine X_istore_7 C (by decide) rfl dL_law_807 ?_
  obtain ⟨T, IT, hT, hj⟩ := b_com (z := z0) (f := z1) (t := z2) I hn
  rw [hj]
  refine X_aload_n C rfl dL_law_809 ?_
  refine X_callVg C (c_X9_thrown C.hlc) cv_L_149 jG_20 ⟨_, _, rfl⟩ (As := []) rfl rfl rfl (xroom_of rfl rfl (show cells + 12 + 0 + 0 ≤ 603072 by omega) (show slots + 224 + 0 + 0 ≤ 7198826 by omega)) dL_law_810 (fun _ _ _ h => h.elim) (fun r6 ad6 g6 hp6 => ?_)
  obtain ⟨h6, h7, h8⟩ := hp6
  rw [h6, h7, h8, hT]
  have hK : 0 ≤ kCom θ z0 z1 z2 ∧ kCom θ z0 z1 z2 ≤ 5 := by unfold kCom; (repeat' split) <;> omega
  have hKr : rg (kCom θ z0 z1 z2) := by constructor <;> omega
  refine X_iload C rfl dL_law_813 ?_
  refine X_icmp_eq (tgt := 820) C dL_law_815 rfl hKr hKr (fun _ => ?_) (fun h => absurd rfl h)
  refine X_iload C rfl dL_law_820 ?_
  refine X_if_ne (tgt := 837) C dL_law_822 rfl hKr (fun _ => ?_) (fun hk0 => ?_)
  · refine X_goto (tgt := 2605) C dL_law_837 rfl ?_
    exact X_fg9 (X.widen (show cells + 12 + 0 + 0 ≤ cells + 40 by omega) (show slots + 224 + 0 + 0 ≤ slots + 400 by omega) (kk T ρ2 ad2 IT ho2))
  · obtain ⟨f, hf, hx⟩ := hV hk0
    rw [mA_0 hk0]
    refine X_aload_n C rfl dL_law_825 ?_
    refine X_iconst C dL_law_826 ?_
    refine X_lald C ((jG_at (by decide)).trans hf) (by decide) (by decide) (by decide) hx dL_law_827 ?_
    refine X_iload C rfl dL_law_828 ?_
    refine X_i2lR C dL_law_830 ?_
    refine X_lcmpR C dL_law_831 ?_
    refine X_if_eq (tgt := 837) C dL_law_832 rfl rg0 (fun _ => ?_) (fun h => absurd rfl h)
    refine X_goto (tgt := 2605) C dL_law_837 rfl ?_
    exact X_fg9 (X.widen (show cells + 12 + 0 + 0 ≤ cells + 40 by omega) (show slots + 224 + 0 + 0 ≤ slots + 400 by omega) (kk T ρ2 ad2 IT ho2))
