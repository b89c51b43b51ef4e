/-! the calls of the law, 5 -/
theorem lc_platesFor {κ : xK} {D : va_G} {Y : Nat → ClassId} {A : Nat → Prop} {cells slots b L : Nat} {xs : Nat → Int32} {θ : xS} {ρ : xG} {ad : xL} {n i : Int} (C : XB κ D Y A cL_law RL 9 room_1) (hN : xGN κ.2.2.2.2.1) (S : xSc κ A b L xs) (hL : L ≤ 2048) (I : xI n θ) (hn : n < 512) (ho : oK Y ρ) (hi : 0 ≤ i ∧ i + 4 ≤ L) (hc : cells + 40 ≤ 603072) (hs : slots + 400 ≤ 7198826) (kk : ∀ (θ2 : xS) (ρ2 : xG) (ad2 : xL), xI (n + 1) θ2 → oK Y ρ2 → X κ D A 9 (cells + 40) (slots + 400) 2605 [some (.ref b), some (.ref (ad2 0 0)), some (.ref (ad2 20 0)), some (.ref (ad2 61 0)), some (.ref (ad2 62 0)), some (.int (iI i)), none, none, none] [] ad2 (jG Y θ2 θ2 ρ2 ad2)) : X κ D A 9 cells slots 2307 [some (.ref b), some (.ref (ad 0 0)), some (.ref (ad 20 0)), some (.ref (ad 61 0)), some (.ref (ad 62 0)), some (.int (iI i)), none, none, none] [] ad (jG Y θ θ ρ ad) := by
  obtain ⟨z0, hz0, ez0⟩ : ∃ z : Int, rg z ∧ (xs (i + 1).toNat).toInt = z := ⟨_, rg_of _, rfl⟩
  refine X_aload_n C rfl dL_law_2307 ?_
  refine X_aload_n C rfl dL_law_2308 ?_
  refine X_iload C rfl dL_law_2309 ?_
  refine X_iconst C dL_law_2311 ?_
  refine X_iadd C dL_law_2312 ?_
  refine X_sld C S (by omega) (by omega) (by omega) ez0 dL_law_2313 ?_
  refine X_aload_n C rfl dL_law_2314 ?_
  refine X_callSW C hN (w_platesFor C.hlc I hz0 ho) cw_platesFor (As := [.ref (ad 0 0), .int (iI z0), .ref (ad 61 0)]) rfl rfl rfl (xroom_of rfl rfl (show cells + 12 ≤ 603072 by omega) (show slots + 224 ≤ 7198826 by omega)) dL_law_2315 (fun r ad2 g2 hp => ?_)
  obtain ⟨h1, hkp, ρ2, ho2, hV, h2⟩ := hp
  rw [h1, h2, ← hkp 0 0 (by omega), ← hkp 20 0 (by omega), ← hkp 61 0 (by omega), ← hkp 62 0 (by omega)]
  refine X_istore_6 C (by decide) rfl dL_law_2318 ?_
  refine X_aload_n C rfl dL_law_2320 ?_
  refine X_aload_n C rfl dL_law_2321 ?_
  refine X_iload C rfl dL_law_2322 ?_
  refine X_iconst C dL_law_2324 ?_
  refine X_iadd C dL_law_2325 ?_
  refine X_sld C S (by omega) (by omega) (by omega) ez0 dL_law_2326 ?_
  refine X_callVg C (c_X9_platesFor C.hlc I hz0) cv_L_268 jG_20 ⟨_, _, rfl⟩ (As := [.int (iI z0)]) rfl rfl rfl (xroom_of rfl rfl (show cells + 12 + 0 ≤ 603072 by omega) (show slots + 224 + 0 ≤ 7198826 by omega)) dL_law_2327 (fun _ _ _ h => h.elim) (fun r3 ad3 g3 hp3 => ?_)
  obtain ⟨h3, h4, h5⟩ := hp3
  rw [h3, h4, h5]
  refine X_istore_7 C (by decide) rfl dL_law_2330 ?_
  obtain ⟨T, IT, hT, hj⟩ := jBr_q (k := kOdr θ z0) I hn
  rw [hj]
  refine X_aload_n C rfl dL_law_2332 ?_
  refine X_callVg C (c_X9_thrown C.hlc) cv_L_149 jG_20 ⟨_, _, rfl⟩ (As := []) rfl rfl rfl (xroom_of rfl rfl (show cells + 12 + 0 + 0 ≤ 603072 by omega) (show slots + 224 + 0 + 0 ≤ 7198826 by omega)) dL_law_2333 (fun _ _ _ h => h.elim) (fun r6 ad6 g6 hp6 => ?_)
  obtain ⟨h6, h7, h8⟩ := hp6
  rw [h6, h7, h8, hT]
  have hK : 0 ≤ kOdr θ z0 ∧ kOdr θ z0 ≤ 5 := by unfold kOdr; (repeat' split) <;> omega
  have hKr : rg (kOdr θ z0) := by constructor <;> omega
  refine X_iload C rfl dL_law_2336 ?_
  refine X_icmp_eq (tgt := 2343) C dL_law_2338 rfl hKr hKr (fun _ => ?_) (fun h => absurd rfl h)
  refine X_iload C rfl dL_law_2343 ?_
  refine X_if_ne (tgt := 2360) C dL_law_2345 rfl hKr (fun _ => ?_) (fun hk0 => ?_)
  · refine X_goto (tgt := 2605) C dL_law_2360 rfl ?_
    exact X_fg9 (X.widen (show cells + 12 + 0 + 0 ≤ cells + 40 by omega) (show slots + 224 + 0 + 0 ≤ slots + 400 by omega) (kk T ρ2 ad2 IT ho2))
  · obtain ⟨f, hf, hx⟩ := hV hk0
    rw [mA_0 hk0]
    refine X_aload_n C rfl dL_law_2348 ?_
    refine X_iconst C dL_law_2349 ?_
    refine X_lald C ((jG_at (by decide)).trans hf) (by decide) (by decide) (by decide) hx dL_law_2350 ?_
    refine X_iload C rfl dL_law_2351 ?_
    refine X_i2lR C dL_law_2353 ?_
    refine X_lcmpR C dL_law_2354 ?_
    refine X_if_eq (tgt := 2360) C dL_law_2355 rfl rg0 (fun _ => ?_) (fun h => absurd rfl h)
    refine X_goto (tgt := 2605) C dL_law_2360 rfl ?_
    exact X_fg9 (X.widen (show cells + 12 + 0 + 0 ≤ cells + 40 by omega) (show slots + 224 + 0 + 0 ≤ slots + 400 by omega) (kk T ρ2 ad2 IT ho2))
theorem lc_wasted {κ : xK} {D : va_G} {Y : Nat → ClassId} {A : Nat → Prop} {cells slots b L : Nat} {xs : Nat → Int32} {θ : xS} {ρ : xG} {ad : xL} {n i : Int} (C : XB κ D Y A cL_law RL 9 room_1) (hN : xGN κ.2.2.2.2.1) (S : xSc κ A b L xs) (hL : L ≤ 2048) (I : xI n θ) (hn : n < 512) (ho : oK Y ρ) (hi : 0 ≤ i ∧ i + 4 ≤ L) (hc : cells + 40 ≤ 603072) (hs : slots + 400 ≤ 7198826) (kk : ∀ (θ2 : xS) (ρ2 : xG) (ad2 : xL), xI (n + 1) θ2 → oK Y ρ2 → X κ D A 9 (cells + 40) (slots + 400) 2605 [some (.ref b), some (.ref (ad2 0 0)), some (.ref (ad2 20 0)), some (.ref (ad2 61 0)), some (.ref (ad2 62 0)), some (.int (iI i)), none, none, none] [] ad2 (jG Y θ2 θ2 ρ2 ad2)) : X κ D A 9 cells slots 2363 [some (.ref b), some (.ref (ad 0 0)), some (.ref (ad 20 0)), some (.ref (ad 61 0)), some (.ref (ad 62 0)), some (.int (iI i)), none, none, none] [] ad (jG Y θ θ ρ ad) := by
  obtain ⟨z0, hz0, ez0⟩ : ∃ z : Int, rg z ∧ (xs (i + 1).toNat).toInt = z := ⟨_, rg_of _, rfl⟩
  refine X_aload_n C rfl dL_law_2363 ?_
  refine X_aload_n C rfl dL_law_2364 ?_
  refine X_iload C rfl dL_law_2365 ?_
  refine X_iconst C dL_law_2367 ?_
  refine X_iadd C dL_law_2368 ?_
  refine X_sld C S (by omega) (by omega) (by omega) ez0 dL_law_2369 ?_
  refine X_aload_n C rfl dL_law_2370 ?_
  refine X_callSW C hN (w_wasted C.hlc I hz0 ho) cw_wasted (As := [.ref (ad 0 0), .int (iI z0), .ref (ad 61 0)]) rfl rfl rfl (xroom_of rfl rfl (show cells + 12 ≤ 603072 by omega) (show slots + 224 ≤ 7198826 by omega)) dL_law_2371 (fun r ad2 g2 hp => ?_)
  obtain ⟨h1, hkp, ρ2, ho2, hV, h2⟩ := hp
  rw [h1, h2, ← hkp 0 0 (by omega), ← hkp 20 0 (by omega), ← hkp 61 0 (by omega), ← hkp 62 0 (by omega)]
  refine X_istore_6 C (by decide) rfl dL_law_2374 ?_
  refine X_aload_n C rfl dL_law_2376 ?_
  refine X_aload_n C rfl dL_law_2377 ?_
  refine X_iload C rfl dL_law_2378 ?_
  refine X_iconst C dL_law_2380 ?_
  refine X_iadd C dL_law_2381 ?_
  refine X_sld C S (by omega) (by omega) (by omega) ez0 dL_law_2382 ?_
  refine X_callVg C (c_X9_wasted C.hlc I hz0) cv_L_271 jG_20 ⟨_, _, rfl⟩ (As := [.int (iI z0)]) rfl rfl rfl (xroom_of rfl rfl (show cells + 12 + 0 ≤ 603072 by omega) (show slots + 224 + 0 ≤ 7198826 by omega)) dL_law_2383 (fun _ _ _ h => h.elim) (fun r3 ad3 g3 hp3 => ?_)
  obtain ⟨h3, h4, h5⟩ := hp3
  rw [h3, h4, h5]
  refine X_istore_7 C (by decide) rfl dL_law_2386 ?_
  obtain ⟨T, IT, hT, hj⟩ := jBr_q (k := kOdr θ z0) I hn
  rw [hj]
  refine X_aload_n C rfl dL_law_2388 ?_
  refine X_callVg C (c_X9_thrown C.hlc) cv_L_149 jG_20 ⟨_, _, rfl⟩ (As := []) rfl rfl rfl (xroom_of rfl rfl (show cells + 12 + 0 + 0 ≤ 603072 by omega) (show slots + 224 + 0 + 0 ≤ 7198826 by omega)) dL_law_2389 (fun _ _ _ h => h.elim) (fun r6 ad6 g6 hp6 => ?_)
  obtain ⟨h6, h7, h8⟩ := hp6
  rw [h6, h7, h8, hT]
  have hK : 0 ≤ kOdr θ z0 ∧ kOdr θ z0 ≤ 5 := by unfold kOdr; (repeat' split) <;> omega
  have hKr : rg (kOdr θ z0) := by constructor <;> omega
  refine X_iload C rfl dL_law_2392 ?_
  refine X_icmp_eq (tgt := 2399) C dL_law_2394 rfl hKr hKr (fun _ => ?_) (fun h => absurd rfl h)
  refine X_iload C rfl dL_law_2399 ?_
  refine X_if_ne (tgt := 2416) C dL_law_2401 rfl hKr (fun _ => ?_) (fun hk0 => ?_)
  · refine X_goto (tgt := 2605) C dL_law_2416 rfl ?_
    exact X_fg9 (X.widen (show cells + 12 + 0 + 0 ≤ cells + 40 by omega) (show slots + 224 + 0 + 0 ≤ slots + 400 by omega) (kk T ρ2 ad2 IT ho2))
  · obtain ⟨f, hf, hx⟩ := hV hk0
    rw [mA_0 hk0]
    refine X_aload_n C rfl dL_law_2404 ?_
    refine X_iconst C dL_law_2405 ?_
    refine X_lald C ((jG_at (by decide)).trans hf) (by decide) (by decide) (by decide) hx dL_law_2406 ?_
    refine X_iload C rfl dL_law_2407 ?_
    refine X_i2lR C dL_law_2409 ?_
    refine X_lcmpR C dL_law_2410 ?_
    refine X_if_eq (tgt := 2416) C dL_law_2411 rfl rg0 (fun _ => ?_) (fun h => absurd rfl h)
    refine X_goto (tgt := 2605) C dL_law_2416 rfl ?_
    exact X_fg9 (X.widen (show cells + 12 + 0 + 0 ≤ cells + 40 by omega) (show slots + 224 + 0 + 0 ≤ slots + 400 by omega) (kk T ρ2 ad2 IT ho2))
theorem lc_cost {κ : xK} {D : va_G} {Y : Nat → ClassId} {A : Nat → Prop} {cells slots b L : Nat} {xs : Nat → Int32} {θ : xS} {ρ : xG} {ad : xL} {n i : Int} (C : XB κ D Y A cL_law RL 9 room_1) (hN : xGN κ.2.2.2.2.1) (S : xSc κ A b L xs) (hL : L ≤ 2048) (I : xI n θ) (hn : n < 512) (ho : oK Y ρ) (hi : 0 ≤ i ∧ i + 4 ≤ L) (hc : cells + 40 ≤ 603072) (hs : slots + 400 ≤ 7198826) (kk : ∀ (θ2 : xS) (ρ2 : xG) (ad2 : xL), xI (n + 1) θ2 → oK Y ρ2 → X κ D A 9 (cells + 40) (slots + 400) 2605 [some (.ref b), some (.ref (ad2 0 0)), some (.ref (ad2 20 0)), some (.ref (ad2 61 0)), some (.ref (ad2 62 0)), some (.int (iI i)), none, none, none] [] ad2 (jG Y θ2 θ2 ρ2 ad2)) : X κ D A 9 cells slots 2419 [some (.ref b), some (.ref (ad 0 0)), some (.ref (ad 20 0)), some (.ref (ad 61 0)), some (.ref (ad 62 0)), some (.int (iI i)), none, none, none] [] ad (jG Y θ θ ρ ad) := by
  obtain ⟨z0, hz0, ez0⟩ : ∃ z : Int, rg z ∧ (xs (i + 1).toNat).toInt = z := ⟨_, rg_of _, rfl⟩
  refine X_aload_n C rfl dL_law_2419 ?_
  refine X_aload_n C rfl dL_law_2420 ?_
  refine X_iload C rfl dL_law_2421 ?_
  refine X_iconst C dL_law_2423 ?_
  refine X_iadd C dL_law_2424 ?_
  refine X_sld C S (by omega) (by omega) (by omega) ez0 dL_law_2425 ?_
  refine X_aload_n C rfl dL_law_2426 ?_
  refine X_callSW C hN (w_cost C.hlc I hz0 ho) cw_cost (As := [.ref (ad 0 0), .int (iI z0), .ref (ad 61 0)]) rfl rfl rfl (xroom_of rfl rfl (show cells + 12 ≤ 603072 by omega) (show slots + 224 ≤ 7198826 by omega)) dL_law_2427 (fun r ad2 g2 hp => ?_)
  obtain ⟨h1, hkp, ρ2, ho2, hV, h2⟩ := hp
  rw [h1, h2, ← hkp 0 0 (by omega), ← hkp 20 0 (by omega), ← hkp 61 0 (by omega), ← hkp 62 0 (by omega)]
  refine X_istore_6 C (by decide) rfl dL_law_2430 ?_
  refine X_aload_n C rfl dL_law_2432 ?_
  refine X_aload_n C rfl dL_law_2433 ?_
  refine X_iload C rfl dL_law_2434 ?_
  refine X_iconst C dL_law_2436 ?_
  refine X_iadd C dL_law_2437 ?_
  refine X_sld C S (by omega) (by omega) (by omega) ez0 dL_law_2438 ?_
  refine X_callVg C (c_X9_cost C.hlc I hz0) cv_L_274 jG_20 ⟨_, _, rfl⟩ (As := [.int (iI z0)]) rfl rfl rfl (xroom_of rfl rfl (show cells + 12 + 0 ≤ 603072 by omega) (show slots + 224 + 0 ≤ 7198826 by omega)) dL_law_2439 (fun _ _ _ h => h.elim) (fun r3 ad3 g3 hp3 => ?_)
  obtain ⟨h3, h4, h5⟩ := hp3
  rw [h3, h4, h5]
  refine X_lstore_7 C (by decide) rfl dL_law_2442 ?_
  obtain ⟨T, IT, hT, hj⟩ := jBr_q (k := kOdr θ z0) I hn
  rw [hj]
  refine X_aload_n C rfl dL_law_2444 ?_
  refine X_callVg C (c_X9_thrown C.hlc) cv_L_149 jG_20 ⟨_, _, rfl⟩ (As := []) rfl rfl rfl (xroom_of rfl rfl (show cells + 12 + 0 + 0 ≤ 603072 by omega) (show slots + 224 + 0 + 0 ≤ 7198826 by omega)) dL_law_2445 (fun _ _ _ h => h.elim) (fun r6 ad6 g6 hp6 => ?_)
  obtain ⟨h6, h7, h8⟩ := hp6
  rw [h6, h7, h8, hT]
  have hK : 0 ≤ kOdr θ z0 ∧ kOdr θ z0 ≤ 5 := by unfold kOdr; (repeat' split) <;> omega
  have hKr : rg (kOdr θ z0) := by constructor <;> omega
  refine X_iload C rfl dL_law_2448 ?_
  refine X_icmp_eq (tgt := 2455) C dL_law_2450 rfl hKr hKr (fun _ => ?_) (fun h => absurd rfl h)
  refine X_iload C rfl dL_law_2455 ?_
  refine X_if_ne (tgt := 2471) C dL_law_2457 rfl hKr (fun _ => ?_) (fun hk0 => ?_)
  · refine X_goto (tgt := 2605) C dL_law_2471 rfl ?_
    exact X_fg9 (X.widen (show cells + 12 + 0 + 0 ≤ cells + 40 by omega) (show slots + 224 + 0 + 0 ≤ slots + 400 by omega) (kk T ρ2 ad2 IT ho2))
  · obtain ⟨f, hf, hx⟩ := hV hk0
    rw [mA_0 hk0]
    refine X_aload_n C rfl dL_law_2460 ?_
    refine X_iconst C dL_law_2461 ?_
    refine X_lald C ((jG_at (by decide)).trans hf) (by decide) (by decide) (by decide) hx dL_law_2462 ?_
    refine X_lload C rfl dL_law_2463 ?_
    refine X_lcmpR C dL_law_2465 ?_
    refine X_if_eq (tgt := 2471) C dL_law_2466 rfl rg0 (fun _ => ?_) (fun h => absurd rfl h)
    refine X_goto (tgt := 2605) C dL_law_2471 rfl ?_
    exact X_fg9 (X.widen (show cells + 12 + 0 + 0 ≤ cells + 40 by omega) (show slots + 224 + 0 + 0 ≤ slots + 400 by omega) (kk T ρ2 ad2 IT ho2))
theorem lc_goodShare {κ : xK} {D : va_G} {Y : Nat → ClassId} {A : Nat → Prop} {cells slots b L : Nat} {xs : Nat → Int32} {θ : xS} {ρ : xG} {ad : xL} {n i : Int} (C : XB κ D Y A cL_law RL 9 room_1) (hN : xGN κ.2.2.2.2.1) (S : xSc κ A b L xs) (hL : L ≤ 2048) (I : xI n θ) (hn : n < 512) (ho : oK Y ρ) (hi : 0 ≤ i ∧ i + 4 ≤ L) (hc : cells + 40 ≤ 603072) (hs : slots + 400 ≤ 7198826) (kk : ∀ (θ2 : xS) (ρ2 : xG) (ad2 : xL), xI (n + 1) θ2 → oK Y ρ2 → X κ D A 9 (cells + 40) (slots + 400) 2605 [some (.ref b), some (.ref (ad2 0 0)), some (.ref (ad2 20 0)), some (.ref (ad2 61 0)), some (.ref (ad2 62 0)), some (.int (iI i)), none, none, none] [] ad2 (jG Y θ2 θ2 ρ2 ad2)) : X κ D A 9 cells slots 2474 [some (.ref b), some (.ref (ad 0 0)), some (.ref (ad 20 0)), some (.ref (ad 61 0)), some (.ref (ad 62 0)), some (.int (iI i)), none, none, none] [] ad (jG Y θ θ ρ ad) := by
  refine X_aload_n C rfl dL_law_2474 ?_
  refine X_aload C rfl dL_law_2475 ?_
  refine X_callSW C hN (w_goodShare C.hlc I ho) cw_goodShare (As := [.ref (ad 0 0), .ref (ad 62 0)]) rfl rfl rfl (xroom_of rfl rfl (show cells + 12 ≤ 603072 by omega) (show slots + 224 ≤ 7198826 by omega)) dL_law_2477 (fun r ad2 g2 hp => ?_)
  obtain ⟨h1, hkp, ρ2, ho2, hV, h2⟩ := hp
  rw [h1, h2, ← hkp 0 0 (by omega), ← hkp 20 0 (by omega), ← hkp 61 0 (by omega), ← hkp 62 0 (by omega)]
  refine X_istore_6 C (by decide) rfl dL_law_2480 ?_
  refine X_aload_n C rfl dL_law_2482 ?_
  refine X_callVg C (c_X9_goodShare C.hlc I) cv_L_278 jG_20 ⟨_, _, rfl⟩ (As := []) rfl rfl rfl (xroom_of rfl rfl (show cells + 12 + 0 ≤ 603072 by omega) (show slots + 224 + 0 ≤ 7198826 by omega)) dL_law_2483 (fun _ _ _ h => h.elim) (fun r3 ad3 g3 hp3 => ?_)
  obtain ⟨h3, h4, h5⟩ := hp3
  rw [h3, h4, h5]
  refine X_fstore_7 C (by decide) rfl dL_law_2486 ?_
  obtain ⟨T, IT, hT, hj⟩ := jBr_q (k := kNon (θ 32 0 0)) I hn
  rw [hj]
  refine X_aload_n C rfl dL_law_2488 ?_
  refine X_callVg C (c_X9_thrown C.hlc) cv_L_149 jG_20 ⟨_, _, rfl⟩ (As := []) rfl rfl rfl (xroom_of rfl rfl (show cells + 12 + 0 + 0 ≤ 603072 by omega) (show slots + 224 + 0 + 0 ≤ 7198826 by omega)) dL_law_2489 (fun _ _ _ h => h.elim) (fun r6 ad6 g6 hp6 => ?_)
  obtain ⟨h6, h7, h8⟩ := hp6
  rw [h6, h7, h8, hT]
  have hK : 0 ≤ kNon (θ 32 0 0) ∧ kNon (θ 32 0 0) ≤ 5 := by unfold kNon; (repeat' split) <;> omega
  have hKr : rg (kNon (θ 32 0 0)) := by constructor <;> omega
  refine X_iload C rfl dL_law_2492 ?_
  refine X_icmp_eq (tgt := 2499) C dL_law_2494 rfl hKr hKr (fun _ => ?_) (fun h => absurd rfl h)
  refine X_iload C rfl dL_law_2499 ?_
  refine X_if_ne (tgt := 2537) C dL_law_2501 rfl hKr (fun _ => ?_) (fun hk0 => ?_)
  · refine X_goto (tgt := 2605) C dL_law_2537 rfl ?_
    exact X_fg9 (X.widen (show cells + 12 + 0 + 0 ≤ cells + 40 by omega) (show slots + 224 + 0 + 0 ≤ slots + 400 by omega) (kk T ρ2 ad2 IT ho2))
  · obtain ⟨f, hf, hx⟩ := hV hk0
    rw [mQ_0 hk0]
    refine X_aload C rfl dL_law_2504 ?_
    refine X_iconst C dL_law_2506 ?_
    refine X_dald C ((jG_at (by decide)).trans hf) (by decide) (by decide) (by decide) hx dL_law_2507 ?_
    refine X_fload C rfl dL_law_2508 ?_
    have gb := gs_b I I.no.1 (Int.le_refl _)
    have i2 := I.no
    have h0 : ¬ θ 32 0 0 = 0 := (fun w => (by unfold kNon at hk0; rw [if_pos w] at hk0; omega))
    refine X_f2d C (fsd_n (by omega) (by omega) (by omega) (by omega)) dL_law_2510 ?_
    refine X_dcmp C dL_law_2511 ?_
    rw [fsd_c (by omega) (by omega) (by omega) (by omega)]
    refine X_if_eq (tgt := 2537) C dL_law_2512 rfl rg0 (fun _ => ?_) (fun h => absurd rfl h)
    refine X_goto (tgt := 2605) C dL_law_2537 rfl ?_
    exact X_fg9 (X.widen (show cells + 12 + 0 + 0 ≤ cells + 40 by omega) (show slots + 224 + 0 + 0 ≤ slots + 400 by omega) (kk T ρ2 ad2 IT ho2))
theorem lc_meanLength {κ : xK} {D : va_G} {Y : Nat → ClassId} {A : Nat → Prop} {cells slots b L : Nat} {xs : Nat → Int32} {θ : xS} {ρ : xG} {ad : xL} {n i : Int} (C : XB κ D Y A cL_law RL 9 room_1) (hN : xGN κ.2.2.2.2.1) (S : xSc κ A b L xs) (hL : L ≤ 2048) (I : xI n θ) (hn : n < 512) (ho : oK Y ρ) (hi : 0 ≤ i ∧ i + 4 ≤ L) (hc : cells + 40 ≤ 603072) (hs : slots + 400 ≤ 7198826) (kk : ∀ (θ2 : xS) (ρ2 : xG) (ad2 : xL), xI (n + 1) θ2 → oK Y ρ2 → X κ D A 9 (cells + 40) (slots + 400) 2605 [some (.ref b), some (.ref (ad2 0 0)), some (.ref (ad2 20 0)), some (.ref (ad2 61 0)), some (.ref (ad2 62 0)), some (.int (iI i)), none, none, none] [] ad2 (jG Y θ2 θ2 ρ2 ad2)) : X κ D A 9 cells slots 2540 [some (.ref b), some (.ref (ad 0 0)), some (.ref (ad 20 0)), some (.ref (ad 61 0)), some (.ref (ad 62 0)), some (.int (iI i)), none, none, none] [] ad (jG Y θ θ ρ ad) := by
  refine X_aload_n C rfl dL_law_2540 ?_
  refine X_aload C rfl dL_law_2541 ?_
  refine X_callSW C hN (w_meanLength C.hlc I ho) cw_meanLength (As := [.ref (ad 0 0), .ref (ad 62 0)]) rfl rfl rfl (xroom_of rfl rfl (show cells + 12 ≤ 603072 by omega) (show slots + 224 ≤ 7198826 by omega)) dL_law_2543 (fun r ad2 g2 hp => ?_)
  obtain ⟨h1, hkp, ρ2, ho2, hV, h2⟩ := hp
  rw [h1, h2, ← hkp 0 0 (by omega), ← hkp 20 0 (by omega), ← hkp 61 0 (by omega), ← hkp 62 0 (by omega)]
  refine X_istore_6 C (by decide) rfl dL_law_2546 ?_
  refine X_aload_n C rfl dL_law_2548 ?_
  refine X_callVg C (c_X9_meanLength C.hlc I) cv_L_281 jG_20 ⟨_, _, rfl⟩ (As := []) rfl rfl rfl (xroom_of rfl rfl (show cells + 12 + 0 ≤ 603072 by omega) (show slots + 224 + 0 ≤ 7198826 by omega)) dL_law_2549 (fun _ _ _ h => h.elim) (fun r3 ad3 g3 hp3 => ?_)
  obtain ⟨h3, h4, h5⟩ := hp3
  rw [h3, h4, h5]
  refine X_dstore_7 C (by decide) rfl dL_law_2552 ?_
  obtain ⟨T, IT, hT, hj⟩ := jBr_q (k := kNon (θ 30 0 0)) I hn
  rw [hj]
  refine X_aload_n C rfl dL_law_2554 ?_
  refine X_callVg C (c_X9_thrown C.hlc) cv_L_149 jG_20 ⟨_, _, rfl⟩ (As := []) rfl rfl rfl (xroom_of rfl rfl (show cells + 12 + 0 + 0 ≤ 603072 by omega) (show slots + 224 + 0 + 0 ≤ 7198826 by omega)) dL_law_2555 (fun _ _ _ h => h.elim) (fun r6 ad6 g6 hp6 => ?_)
  obtain ⟨h6, h7, h8⟩ := hp6
  rw [h6, h7, h8, hT]
  have hK : 0 ≤ kNon (θ 30 0 0) ∧ kNon (θ 30 0 0) ≤ 5 := by unfold kNon; (repeat' split) <;> omega
  have hKr : rg (kNon (θ 30 0 0)) := by constructor <;> omega
  refine X_iload C rfl dL_law_2558 ?_
  refine X_icmp_eq (tgt := 2565) C dL_law_2560 rfl hKr hKr (fun _ => ?_) (fun h => absurd rfl h)
  refine X_iload C rfl dL_law_2565 ?_
  refine X_if_ne (tgt := 2602) C dL_law_2567 rfl hKr (fun _ => ?_) (fun hk0 => ?_)
  · refine X_goto (tgt := 2605) C dL_law_2602 rfl ?_
    exact X_fg9 (X.widen (show cells + 12 + 0 + 0 ≤ cells + 40 by omega) (show slots + 224 + 0 + 0 ≤ slots + 400 by omega) (kk T ρ2 ad2 IT ho2))
  · obtain ⟨f, hf, hx⟩ := hV hk0
    rw [mQ_0 hk0]
    refine X_aload C rfl dL_law_2570 ?_
    refine X_iconst C dL_law_2572 ?_
    refine X_dald C ((jG_at (by decide)).trans hf) (by decide) (by decide) (by decide) hx dL_law_2573 ?_
    refine X_dload C rfl dL_law_2574 ?_
    have gb := ml_b I I.nd.1
    have i2 := I.nd
    have h0 : ¬ θ 30 0 0 = 0 := (fun w => (by unfold kNon at hk0; rw [if_pos w] at hk0; omega))
    refine X_dcmp C dL_law_2576 ?_
    rw [dml_c (by omega) (by omega) (by omega) (by omega)]
    refine X_if_eq (tgt := 2602) C dL_law_2577 rfl rg0 (fun _ => ?_) (fun h => absurd rfl h)
    refine X_goto (tgt := 2605) C dL_law_2602 rfl ?_
    exact X_fg9 (X.widen (show cells + 12 + 0 + 0 ≤ cells + 40 by omega) (show slots + 224 + 0 + 0 ≤ slots + 400 by omega) (kk T ρ2 ad2 IT ho2))
