/-! the calls of the law, 3 -/
theorem lc_shownByLog {κ : xK} {D : va_G} {Y : Nat → ClassId} {A : Nat → Prop} {cells slots b L : Nat} {xs : Nat → Int32} {θ : xS} {ρ : xG} {ad : xL} {n i : Int} (C : XB κ D Y A cL_law RL 9 room_1) (hN : xGN κ.2.2.2.2.1) (S : xSc κ A b L xs) (hL : L ≤ 2048) (I : xI n θ) (hn : n < 512) (ho : oK Y ρ) (hi : 0 ≤ i ∧ i + 4 ≤ L) (hc : cells + 40 ≤ 603072) (hs : slots + 400 ≤ 7198826) (kk : ∀ (θ2 : xS) (ρ2 : xG) (ad2 : xL), xI (n + 1) θ2 → oK Y ρ2 → X κ D A 9 (cells + 40) (slots + 400) 2605 [some (.ref b), some (.ref (ad2 0 0)), some (.ref (ad2 20 0)), some (.ref (ad2 61 0)), some (.ref (ad2 62 0)), some (.int (iI i)), none, none, none] [] ad2 (jG Y θ2 θ2 ρ2 ad2)) : X κ D A 9 cells slots 1399 [some (.ref b), some (.ref (ad 0 0)), some (.ref (ad 20 0)), some (.ref (ad 61 0)), some (.ref (ad 62 0)), some (.int (iI i)), none, none, none] [] ad (jG Y θ θ ρ ad) := by
  obtain ⟨z0, hz0, ez0⟩ : ∃ z : Int, rg z ∧ (xs (i + 1).toNat).toInt = z := ⟨_, rg_of _, rfl⟩
  obtain ⟨z1, hz1, ez1⟩ : ∃ z : Int, rg z ∧ (xs (i + 2).toNat).toInt = z := ⟨_, rg_of _, rfl⟩
  obtain ⟨z2, hz2, ez2⟩ : ∃ z : Int, rg z ∧ (xs (i + 3).toNat).toInt = z := ⟨_, rg_of _, rfl⟩
  refine X_aload_n C rfl dL_law_1399 ?_
  refine X_aload_n C rfl dL_law_1400 ?_
  refine X_iload C rfl dL_law_1401 ?_
  refine X_iconst C dL_law_1403 ?_
  refine X_iadd C dL_law_1404 ?_
  refine X_sld C S (by omega) (by omega) (by omega) ez0 dL_law_1405 ?_
  refine X_aload_n C rfl dL_law_1406 ?_
  refine X_iload C rfl dL_law_1407 ?_
  refine X_iconst C dL_law_1409 ?_
  refine X_iadd C dL_law_1410 ?_
  refine X_sld C S (by omega) (by omega) (by omega) ez1 dL_law_1411 ?_
  refine X_aload_n C rfl dL_law_1412 ?_
  refine X_iload C rfl dL_law_1413 ?_
  refine X_iconst C dL_law_1415 ?_
  refine X_iadd C dL_law_1416 ?_
  refine X_sld C S (by omega) (by omega) (by omega) ez2 dL_law_1417 ?_
  refine X_aload_n C rfl dL_law_1418 ?_
  refine X_callSW C hN (w_shownByLog C.hlc I hz0 hz1 hz2 ho) cw_shownByLog (As := [.ref (ad 0 0), .int (iI z0), .int (iI z1), .int (iI z2), .ref (ad 61 0)]) rfl rfl rfl (xroom_of rfl rfl (show cells + 12 ≤ 603072 by omega) (show slots + 224 ≤ 7198826 by omega)) dL_law_1419 (fun r ad2 g2 hp => ?_)
  obtain ⟨h1, hkp, ρ2, ho2, hV, h2⟩ := hp
  rw [h1, h2, ← hkp 0 0 (by omega), ← hkp 20 0 (by omega), ← hkp 61 0 (by omega), ← hkp 62 0 (by omega)]
  refine X_istore_6 C (by decide) rfl dL_law_1422 ?_
  refine X_aload_n C rfl dL_law_1424 ?_
  refine X_aload_n C rfl dL_law_1425 ?_
  refine X_iload C rfl dL_law_1426 ?_
  refine X_iconst C dL_law_1428 ?_
  refine X_iadd C dL_law_1429 ?_
  refine X_sld C S (by omega) (by omega) (by omega) ez0 dL_law_1430 ?_
  refine X_aload_n C rfl dL_law_1431 ?_
  refine X_iload C rfl dL_law_1432 ?_
  refine X_iconst C dL_law_1434 ?_
  refine X_iadd C dL_law_1435 ?_
  refine X_sld C S (by omega) (by omega) (by omega) ez1 dL_law_1436 ?_
  refine X_aload_n C rfl dL_law_1437 ?_
  refine X_iload C rfl dL_law_1438 ?_
  refine X_iconst C dL_law_1440 ?_
  refine X_iadd C dL_law_1441 ?_
  refine X_sld C S (by omega) (by omega) (by omega) ez2 dL_law_1442 ?_
  refine X_callVg C (c_X9_shownByLog C.hlc I hz0 hz1 hz2) cv_L_209 jG_20 ⟨_, _, rfl⟩ (As := [.int (iI z0), .int (iI z1), .int (iI z2)]) rfl rfl rfl (xroom_of rfl rfl (show cells + 12 + 0 ≤ 603072 by omega) (show slots + 224 + 0 ≤ 7198826 by omega)) dL_law_1443 (fun _ _ _ h => h.elim) (fun r3 ad3 g3 hp3 => ?_)
  obtain ⟨h3, h4, h5⟩ := hp3
  rw [h3, h4, h5]
  refine X_istore_7 C (by decide) rfl dL_law_1446 ?_
  obtain ⟨T, IT, hT, hj⟩ := jBr_q (k := kPag θ z0 z1 z2 32) I hn
  rw [hj]
  refine X_aload_n C rfl dL_law_1448 ?_
  refine X_callVg C (c_X9_thrown C.hlc) cv_L_149 jG_20 ⟨_, _, rfl⟩ (As := []) rfl rfl rfl (xroom_of rfl rfl (show cells + 12 + 0 + 0 ≤ 603072 by omega) (show slots + 224 + 0 + 0 ≤ 7198826 by omega)) dL_law_1449 (fun _ _ _ h => h.elim) (fun r6 ad6 g6 hp6 => ?_)
  obtain ⟨h6, h7, h8⟩ := hp6
  rw [h6, h7, h8, hT]
  have hK : 0 ≤ kPag θ z0 z1 z2 32 ∧ kPag θ z0 z1 z2 32 ≤ 5 := by unfold kPag; (repeat' split) <;> omega
  have hKr : rg (kPag θ z0 z1 z2 32) := by constructor <;> omega
  refine X_iload C rfl dL_law_1452 ?_
  refine X_icmp_eq (tgt := 1459) C dL_law_1454 rfl hKr hKr (fun _ => ?_) (fun h => absurd rfl h)
  refine X_iload C rfl dL_law_1459 ?_
  refine X_if_ne (tgt := 1476) C dL_law_1461 rfl hKr (fun _ => ?_) (fun hk0 => ?_)
  · refine X_goto (tgt := 2605) C dL_law_1476 rfl ?_
    exact X_fg9 (X.widen (show cells + 12 + 0 + 0 ≤ cells + 40 by omega) (show slots + 224 + 0 + 0 ≤ slots + 400 by omega) (kk T ρ2 ad2 IT ho2))
  · obtain ⟨f, hf, hx⟩ := hV hk0
    rw [mA_0 hk0]
    refine X_aload_n C rfl dL_law_1464 ?_
    refine X_iconst C dL_law_1465 ?_
    refine X_lald C ((jG_at (by decide)).trans hf) (by decide) (by decide) (by decide) hx dL_law_1466 ?_
    refine X_iload C rfl dL_law_1467 ?_
    refine X_i2lR C dL_law_1469 ?_
    refine X_lcmpR C dL_law_1470 ?_
    refine X_if_eq (tgt := 1476) C dL_law_1471 rfl rg0 (fun _ => ?_) (fun h => absurd rfl h)
    refine X_goto (tgt := 2605) C dL_law_1476 rfl ?_
    exact X_fg9 (X.widen (show cells + 12 + 0 + 0 ≤ cells + 40 by omega) (show slots + 224 + 0 + 0 ≤ slots + 400 by omega) (kk T ρ2 ad2 IT ho2))
theorem lc_supply {κ : xK} {D : va_G} {Y : Nat → ClassId} {A : Nat → Prop} {cells slots b L : Nat} {xs : Nat → Int32} {θ : xS} {ρ : xG} {ad : xL} {n i : Int} (C : XB κ D Y A cL_law RL 9 room_1) (hN : xGN κ.2.2.2.2.1) (S : xSc κ A b L xs) (hL : L ≤ 2048) (I : xI n θ) (hn : n < 512) (ho : oK Y ρ) (hi : 0 ≤ i ∧ i + 4 ≤ L) (hc : cells + 40 ≤ 603072) (hs : slots + 400 ≤ 7198826) (kk : ∀ (θ2 : xS) (ρ2 : xG) (ad2 : xL), xI (n + 1) θ2 → oK Y ρ2 → X κ D A 9 (cells + 40) (slots + 400) 2605 [some (.ref b), some (.ref (ad2 0 0)), some (.ref (ad2 20 0)), some (.ref (ad2 61 0)), some (.ref (ad2 62 0)), some (.int (iI i)), none, none, none] [] ad2 (jG Y θ2 θ2 ρ2 ad2)) : X κ D A 9 cells slots 1479 [some (.ref b), some (.ref (ad 0 0)), some (.ref (ad 20 0)), some (.ref (ad 61 0)), some (.ref (ad 62 0)), some (.int (iI i)), none, none, none] [] ad (jG Y θ θ ρ ad) := by
  obtain ⟨z0, hz0, ez0⟩ : ∃ z : Int, rg z ∧ (xs (i + 1).toNat).toInt = z := ⟨_, rg_of _, rfl⟩
  obtain ⟨z1, hz1, ez1⟩ : ∃ z : Int, rg z ∧ (xs (i + 2).toNat).toInt = z := ⟨_, rg_of _, rfl⟩
  refine X_aload_n C rfl dL_law_1479 ?_
  refine X_aload_n C rfl dL_law_1480 ?_
  refine X_iload C rfl dL_law_1481 ?_
  refine X_iconst C dL_law_1483 ?_
  refine X_iadd C dL_law_1484 ?_
  refine X_sld C S (by omega) (by omega) (by omega) ez0 dL_law_1485 ?_
  refine X_aload_n C rfl dL_law_1486 ?_
  refine X_iload C rfl dL_law_1487 ?_
  refine X_iconst C dL_law_1489 ?_
  refine X_iadd C dL_law_1490 ?_
  refine X_sld C S (by omega) (by omega) (by omega) ez1 dL_law_1491 ?_
  refine X_aload_n C rfl dL_law_1492 ?_
  refine X_callSW C hN (w_supply C.hlc I hz0 hz1 ho) cw_supply (As := [.ref (ad 0 0), .int (iI z0), .int (iI z1), .ref (ad 61 0)]) rfl rfl rfl (xroom_of rfl rfl (show cells + 12 ≤ 603072 by omega) (show slots + 224 ≤ 7198826 by omega)) dL_law_1493 (fun r ad2 g2 hp => ?_)
  obtain ⟨h1, hkp, ρ2, ho2, hV, h2⟩ := hp
  rw [h1, h2, ← hkp 0 0 (by omega), ← hkp 20 0 (by omega), ← hkp 61 0 (by omega), ← hkp 62 0 (by omega)]
  refine X_istore_6 C (by decide) rfl dL_law_1496 ?_
  refine X_aload_n C rfl dL_law_1498 ?_
  refine X_aload_n C rfl dL_law_1499 ?_
  refine X_iload C rfl dL_law_1500 ?_
  refine X_iconst C dL_law_1502 ?_
  refine X_iadd C dL_law_1503 ?_
  refine X_sld C S (by omega) (by omega) (by omega) ez0 dL_law_1504 ?_
  refine X_aload_n C rfl dL_law_1505 ?_
  refine X_iload C rfl dL_law_1506 ?_
  refine X_iconst C dL_law_1508 ?_
  refine X_iadd C dL_law_1509 ?_
  refine X_sld C S (by omega) (by omega) (by omega) ez1 dL_law_1510 ?_
  refine X_callVg C (c_X9_supply C.hlc I hz0 hz1) cv_L_212 jG_20 ⟨_, _, rfl⟩ (As := [.int (iI z0), .int (iI z1)]) rfl rfl rfl (xroom_of rfl rfl (show cells + 12 + 0 ≤ 603072 by omega) (show slots + 224 + 0 ≤ 7198826 by omega)) dL_law_1511 (fun _ _ _ h => h.elim) (fun r3 ad3 g3 hp3 => ?_)
  obtain ⟨h3, h4, h5⟩ := hp3
  rw [h3, h4, h5]
  refine X_istore_7 C (by decide) rfl dL_law_1514 ?_
  obtain ⟨T, IT, hT, hj⟩ := b_sup (a := z0) (b := z1) I hn
  rw [hj]
  refine X_aload_n C rfl dL_law_1516 ?_
  refine X_callVg C (c_X9_thrown C.hlc) cv_L_149 jG_20 ⟨_, _, rfl⟩ (As := []) rfl rfl rfl (xroom_of rfl rfl (show cells + 12 + 0 + 0 ≤ 603072 by omega) (show slots + 224 + 0 + 0 ≤ 7198826 by omega)) dL_law_1517 (fun _ _ _ h => h.elim) (fun r6 ad6 g6 hp6 => ?_)
  obtain ⟨h6, h7, h8⟩ := hp6
  rw [h6, h7, h8, hT]
  have hK : 0 ≤ kSup θ z0 z1 ∧ kSup θ z0 z1 ≤ 5 := by unfold kSup; (repeat' split) <;> omega
  have hKr : rg (kSup θ z0 z1) := by constructor <;> omega
  refine X_iload C rfl dL_law_1520 ?_
  refine X_icmp_eq (tgt := 1527) C dL_law_1522 rfl hKr hKr (fun _ => ?_) (fun h => absurd rfl h)
  refine X_iload C rfl dL_law_1527 ?_
  refine X_if_ne (tgt := 1544) C dL_law_1529 rfl hKr (fun _ => ?_) (fun hk0 => ?_)
  · refine X_goto (tgt := 2605) C dL_law_1544 rfl ?_
    exact X_fg9 (X.widen (show cells + 12 + 0 + 0 ≤ cells + 40 by omega) (show slots + 224 + 0 + 0 ≤ slots + 400 by omega) (kk T ρ2 ad2 IT ho2))
  · obtain ⟨f, hf, hx⟩ := hV hk0
    rw [mA_0 hk0]
    refine X_aload_n C rfl dL_law_1532 ?_
    refine X_iconst C dL_law_1533 ?_
    refine X_lald C ((jG_at (by decide)).trans hf) (by decide) (by decide) (by decide) hx dL_law_1534 ?_
    refine X_iload C rfl dL_law_1535 ?_
    refine X_i2lR C dL_law_1537 ?_
    refine X_lcmpR C dL_law_1538 ?_
    refine X_if_eq (tgt := 1544) C dL_law_1539 rfl rg0 (fun _ => ?_) (fun h => absurd rfl h)
    refine X_goto (tgt := 2605) C dL_law_1544 rfl ?_
    exact X_fg9 (X.widen (show cells + 12 + 0 + 0 ≤ cells + 40 by omega) (show slots + 224 + 0 + 0 ≤ slots + 400 by omega) (kk T ρ2 ad2 IT ho2))
theorem lc_paper {κ : xK} {D : va_G} {Y : Nat → ClassId} {A : Nat → Prop} {cells slots b L : Nat} {xs : Nat → Int32} {θ : xS} {ρ : xG} {ad : xL} {n i : Int} (C : XB κ D Y A cL_law RL 9 room_1) (hN : xGN κ.2.2.2.2.1) (S : xSc κ A b L xs) (hL : L ≤ 2048) (I : xI n θ) (hn : n < 512) (ho : oK Y ρ) (hi : 0 ≤ i ∧ i + 4 ≤ L) (hc : cells + 40 ≤ 603072) (hs : slots + 400 ≤ 7198826) (kk : ∀ (θ2 : xS) (ρ2 : xG) (ad2 : xL), xI (n + 1) θ2 → oK Y ρ2 → X κ D A 9 (cells + 40) (slots + 400) 2605 [some (.ref b), some (.ref (ad2 0 0)), some (.ref (ad2 20 0)), some (.ref (ad2 61 0)), some (.ref (ad2 62 0)), some (.int (iI i)), none, none, none] [] ad2 (jG Y θ2 θ2 ρ2 ad2)) : X κ D A 9 cells slots 1547 [some (.ref b), some (.ref (ad 0 0)), some (.ref (ad 20 0)), some (.ref (ad 61 0)), some (.ref (ad 62 0)), some (.int (iI i)), none, none, none] [] ad (jG Y θ θ ρ ad) := by
  refine X_aload_n C rfl dL_law_1547 ?_
  refine X_callVg C (c_X8_paper C.hlc I) cv_L_213 (jG_0 rfl) ⟨_, _, rfl⟩ (As := []) rfl rfl rfl (xroom_of rfl rfl (show cells + 0 ≤ 603072 by omega) (show slots + 0 ≤ 7198826 by omega)) dL_law_1548 (fun _ _ _ h => h.elim) (fun r ad3 g3 hp => ?_)
  obtain ⟨h1, h2, h3⟩ := hp
  rw [h1, h2, h3]
  refine X_aload_n C rfl dL_law_1551 ?_
  refine X_callVg C (c_X9_paper C.hlc I) cv_L_216 jG_20 ⟨_, _, rfl⟩ (As := []) rfl rfl rfl (xroom_of rfl rfl (show cells + 0 + 0 ≤ 603072 by omega) (show slots + 0 + 0 ≤ 7198826 by omega)) dL_law_1552 (fun _ _ _ h => h.elim) (fun r4 ad4 g4 hp4 => ?_)
  obtain ⟨h4, h5, h6⟩ := hp4
  rw [h4, h5, h6]
  obtain ⟨T, IT, hT, hj⟩ := jBr_q (k := 0) I hn
  rw [hj]
  refine X_icmp_eq (tgt := 2605) C dL_law_1555 rfl (by have h := I.pa; constructor <;> omega) (by have h := I.pa; constructor <;> omega) (fun _ => ?_) (fun h => absurd rfl h)
  exact X.widen (show cells + 0 + 0 ≤ cells + 40 by omega) (show slots + 0 + 0 ≤ slots + 400 by omega) (kk T ρ ad IT ho)
theorem lc_plates {κ : xK} {D : va_G} {Y : Nat → ClassId} {A : Nat → Prop} {cells slots b L : Nat} {xs : Nat → Int32} {θ : xS} {ρ : xG} {ad : xL} {n i : Int} (C : XB κ D Y A cL_law RL 9 room_1) (hN : xGN κ.2.2.2.2.1) (S : xSc κ A b L xs) (hL : L ≤ 2048) (I : xI n θ) (hn : n < 512) (ho : oK Y ρ) (hi : 0 ≤ i ∧ i + 4 ≤ L) (hc : cells + 40 ≤ 603072) (hs : slots + 400 ≤ 7198826) (kk : ∀ (θ2 : xS) (ρ2 : xG) (ad2 : xL), xI (n + 1) θ2 → oK Y ρ2 → X κ D A 9 (cells + 40) (slots + 400) 2605 [some (.ref b), some (.ref (ad2 0 0)), some (.ref (ad2 20 0)), some (.ref (ad2 61 0)), some (.ref (ad2 62 0)), some (.int (iI i)), none, none, none] [] ad2 (jG Y θ2 θ2 ρ2 ad2)) : X κ D A 9 cells slots 1560 [some (.ref b), some (.ref (ad 0 0)), some (.ref (ad 20 0)), some (.ref (ad 61 0)), some (.ref (ad 62 0)), some (.int (iI i)), none, none, none] [] ad (jG Y θ θ ρ ad) := by
  refine X_aload_n C rfl dL_law_1560 ?_
  refine X_callVg C (c_X8_plates C.hlc I) cv_L_217 (jG_0 rfl) ⟨_, _, rfl⟩ (As := []) rfl rfl rfl (xroom_of rfl rfl (show cells + 0 ≤ 603072 by omega) (show slots + 0 ≤ 7198826 by omega)) dL_law_1561 (fun _ _ _ h => h.elim) (fun r ad3 g3 hp => ?_)
  obtain ⟨h1, h2, h3⟩ := hp
  rw [h1, h2, h3]
  refine X_aload_n C rfl dL_law_1564 ?_
  refine X_callVg C (c_X9_plates C.hlc I) cv_L_220 jG_20 ⟨_, _, rfl⟩ (As := []) rfl rfl rfl (xroom_of rfl rfl (show cells + 0 + 0 ≤ 603072 by omega) (show slots + 0 + 0 ≤ 7198826 by omega)) dL_law_1565 (fun _ _ _ h => h.elim) (fun r4 ad4 g4 hp4 => ?_)
  obtain ⟨h4, h5, h6⟩ := hp4
  rw [h4, h5, h6]
  obtain ⟨T, IT, hT, hj⟩ := jBr_q (k := 0) I hn
  rw [hj]
  refine X_icmp_eq (tgt := 2605) C dL_law_1568 rfl (by have h := I.ls; constructor <;> omega) (by have h := I.ls; constructor <;> omega) (fun _ => ?_) (fun h => absurd rfl h)
  exact X.widen (show cells + 0 + 0 ≤ cells + 40 by omega) (show slots + 0 + 0 ≤ slots + 400 by omega) (kk T ρ ad IT ho)
theorem lc_order {κ : xK} {D : va_G} {Y : Nat → ClassId} {A : Nat → Prop} {cells slots b L : Nat} {xs : Nat → Int32} {θ : xS} {ρ : xG} {ad : xL} {n i : Int} (C : XB κ D Y A cL_law RL 9 room_1) (hN : xGN κ.2.2.2.2.1) (S : xSc κ A b L xs) (hL : L ≤ 2048) (I : xI n θ) (hn : n < 512) (ho : oK Y ρ) (hi : 0 ≤ i ∧ i + 4 ≤ L) (hc : cells + 40 ≤ 603072) (hs : slots + 400 ≤ 7198826) (kk : ∀ (θ2 : xS) (ρ2 : xG) (ad2 : xL), xI (n + 1) θ2 → oK Y ρ2 → X κ D A 9 (cells + 40) (slots + 400) 2605 [some (.ref b), some (.ref (ad2 0 0)), some (.ref (ad2 20 0)), some (.ref (ad2 61 0)), some (.ref (ad2 62 0)), some (.int (iI i)), none, none, none] [] ad2 (jG Y θ2 θ2 ρ2 ad2)) : X κ D A 9 cells slots 1573 [some (.ref b), some (.ref (ad 0 0)), some (.ref (ad 20 0)), some (.ref (ad 61 0)), some (.ref (ad 62 0)), some (.int (iI i)), none, none, none] [] ad (jG Y θ θ ρ ad) := by
  obtain ⟨z0, hz0, ez0⟩ : ∃ z : Int, rg z ∧ (xs (i + 1).toNat).toInt = z := ⟨_, rg_of _, rfl⟩
  obtain ⟨z1, hz1, ez1⟩ : ∃ z : Int, rg z ∧ (xs (i + 2).toNat).toInt = z := ⟨_, rg_of _, rfl⟩
  obtain ⟨z2, hz2, ez2⟩ : ∃ z : Int, rg z ∧ (xs (i + 3).toNat).toInt = z := ⟨_, rg_of _, rfl⟩
  refine X_aload_n C rfl dL_law_1573 ?_
  refine X_aload_n C rfl dL_law_1574 ?_
  refine X_iload C rfl dL_law_1575 ?_
  refine X_iconst C dL_law_1577 ?_
  refine X_iadd C dL_law_1578 ?_
  refine X_sld C S (by omega) (by omega) (by omega) ez0 dL_law_1579 ?_
  refine X_aload_n C rfl dL_law_1580 ?_
  refine X_iload C rfl dL_law_1581 ?_
  refine X_iconst C dL_law_1583 ?_
  refine X_iadd C dL_law_1584 ?_
  refine X_sld C S (by omega) (by omega) (by omega) ez1 dL_law_1585 ?_
  refine X_aload_n C rfl dL_law_1586 ?_
  refine X_iload C rfl dL_law_1587 ?_
  refine X_iconst C dL_law_1589 ?_
  refine X_iadd C dL_law_1590 ?_
  refine X_sld C S (by omega) (by omega) (by omega) ez2 dL_law_1591 ?_
  refine X_aload_n C rfl dL_law_1592 ?_
  refine X_callSW C hN (w_order C.hlc I hz0 hz1 hz2 ho) cw_order (As := [.ref (ad 0 0), .int (iI z0), .int (iI z1), .int (iI z2), .ref (ad 61 0)]) rfl rfl rfl (xroom_of rfl rfl (show cells + 12 ≤ 603072 by omega) (show slots + 224 ≤ 7198826 by omega)) dL_law_1593 (fun r ad2 g2 hp => ?_)
  obtain ⟨h1, hkp, ρ2, ho2, hV, h2⟩ := hp
  rw [h1, h2, ← hkp 0 0 (by omega), ← hkp 20 0 (by omega), ← hkp 61 0 (by omega), ← hkp 62 0 (by omega)]
  refine X_istore_6 C (by decide) rfl dL_law_1596 ?_
  refine X_aload_n C rfl dL_law_1598 ?_
  refine X_aload_n C rfl dL_law_1599 ?_
  refine X_iload C rfl dL_law_1600 ?_
  refine X_iconst C dL_law_1602 ?_
  refine X_iadd C dL_law_1603 ?_
  refine X_sld C S (by omega) (by omega) (by omega) ez0 dL_law_1604 ?_
  refine X_aload_n C rfl dL_law_1605 ?_
  refine X_iload C rfl dL_law_1606 ?_
  refine X_iconst C dL_law_1608 ?_
  refine X_iadd C dL_law_1609 ?_
  refine X_sld C S (by omega) (by omega) (by omega) ez1 dL_law_1610 ?_
  refine X_aload_n C rfl dL_law_1611 ?_
  refine X_iload C rfl dL_law_1612 ?_
  refine X_iconst C dL_law_1614 ?_
  refine X_iadd C dL_law_1615 ?_
  refine X_sld C S (by omega) (by omega) (by omega) ez2 dL_law_1616 ?_
  refine X_callVg C (c_X9_order C.hlc I hz0 hz1 hz2) cv_L_223 jG_20 ⟨_, _, rfl⟩ (As := [.int (iI z0), .int (iI z1), .int (iI z2)]) rfl rfl rfl (xroom_of rfl rfl (show cells + 12 + 0 ≤ 603072 by omega) (show slots + 224 + 0 ≤ 7198826 by omega)) dL_law_1617 (fun _ _ _ h => h.elim) (fun r3 ad3 g3 hp3 => ?_)
  obtain ⟨h3, h4, h5⟩ := hp3
  rw [h3, h4, h5]
  refine X_istore_7 C (by decide) rfl dL_law_1620 ?_
  obtain ⟨T, IT, hT, hj⟩ := b_ord (z := z0) (c := z1) (u := z2) I hn
  rw [hj]
  refine X_aload_n C rfl dL_law_1622 ?_
  refine X_callVg C (c_X9_thrown C.hlc) cv_L_149 jG_20 ⟨_, _, rfl⟩ (As := []) rfl rfl rfl (xroom_of rfl rfl (show cells + 12 + 0 + 0 ≤ 603072 by omega) (show slots + 224 + 0 + 0 ≤ 7198826 by omega)) dL_law_1623 (fun _ _ _ h => h.elim) (fun r6 ad6 g6 hp6 => ?_)
  obtain ⟨h6, h7, h8⟩ := hp6
  rw [h6, h7, h8, hT]
  have hK : 0 ≤ kOrd θ z0 z1 z2 ∧ kOrd θ z0 z1 z2 ≤ 5 := by unfold kOrd; (repeat' split) <;> omega
  have hKr : rg (kOrd θ z0 z1 z2) := by constructor <;> omega
  refine X_iload C rfl dL_law_1626 ?_
  refine X_icmp_eq (tgt := 1633) C dL_law_1628 rfl hKr hKr (fun _ => ?_) (fun h => absurd rfl h)
  refine X_iload C rfl dL_law_1633 ?_
  refine X_if_ne (tgt := 1650) C dL_law_1635 rfl hKr (fun _ => ?_) (fun hk0 => ?_)
  · refine X_goto (tgt := 2605) C dL_law_1650 rfl ?_
    exact X_fg9 (X.widen (show cells + 12 + 0 + 0 ≤ cells + 40 by omega) (show slots + 224 + 0 + 0 ≤ slots + 400 by omega) (kk T ρ2 ad2 IT ho2))
  · obtain ⟨f, hf, hx⟩ := hV hk0
    rw [mA_0 hk0]
    refine X_aload_n C rfl dL_law_1638 ?_
    refine X_iconst C dL_law_1639 ?_
    refine X_lald C ((jG_at (by decide)).trans hf) (by decide) (by decide) (by decide) hx dL_law_1640 ?_
    refine X_iload C rfl dL_law_1641 ?_
    refine X_i2lR C dL_law_1643 ?_
    refine X_lcmpR C dL_law_1644 ?_
    refine X_if_eq (tgt := 1650) C dL_law_1645 rfl rg0 (fun _ => ?_) (fun h => absurd rfl h)
    refine X_goto (tgt := 2605) C dL_law_1650 rfl ?_
    exact X_fg9 (X.widen (show cells + 12 + 0 + 0 ≤ cells + 40 by omega) (show slots + 224 + 0 + 0 ≤ slots + 400 by omega) (kk T ρ2 ad2 IT ho2))
theorem lc_needs {κ : xK} {D : va_G} {Y : Nat → ClassId} {A : Nat → Prop} {cells slots b L : Nat} {xs : Nat → Int32} {θ : xS} {ρ : xG} {ad : xL} {n i : Int} (C : XB κ D Y A cL_law RL 9 room_1) (hN : xGN κ.2.2.2.2.1) (S : xSc κ A b L xs) (hL : L ≤ 2048) (I : xI n θ) (hn : n < 512) (ho : oK Y ρ) (hi : 0 ≤ i ∧ i + 4 ≤ L) (hc : cells + 40 ≤ 603072) (hs : slots + 400 ≤ 7198826) (kk : ∀ (θ2 : xS) (ρ2 : xG) (ad2 : xL), xI (n + 1) θ2 → oK Y ρ2 → X κ D A 9 (cells + 40) (slots + 400) 2605 [some (.ref b), some (.ref (ad2 0 0)), some (.ref (ad2 20 0)), some (.ref (ad2 61 0)), some (.ref (ad2 62 0)), some (.int (iI i)), none, none, none] [] ad2 (jG Y θ2 θ2 ρ2 ad2)) : X κ D A 9 cells slots 1653 [some (.ref b), some (.ref (ad 0 0)), some (.ref (ad 20 0)), some (.ref (ad 61 0)), some (.ref (ad 62 0)), some (.int (iI i)), none, none, none] [] ad (jG Y θ θ ρ ad) := by
  obtain ⟨z0, hz0, ez0⟩ : ∃ z : Int, rg z ∧ (xs (i + 1).toNat).toInt = z := ⟨_, rg_of _, rfl⟩
  refine X_aload_n C rfl dL_law_1653 ?_
  refine X_aload_n C rfl dL_law_1654 ?_
  refine X_iload C rfl dL_law_1655 ?_
  refine X_iconst C dL_law_1657 ?_
  refine X_iadd C dL_law_1658 ?_
  refine X_sld C S (by omega) (by omega) (by omega) ez0 dL_law_1659 ?_
  refine X_aload_n C rfl dL_law_1660 ?_
  refine X_callSW C hN (w_needs C.hlc I hz0 ho) cw_needs (As := [.ref (ad 0 0), .int (iI z0), .ref (ad 61 0)]) rfl rfl rfl (xroom_of rfl rfl (show cells + 12 ≤ 603072 by omega) (show slots + 224 ≤ 7198826 by omega)) dL_law_1661 (fun r ad2 g2 hp => ?_)
  obtain ⟨h1, hkp, ρ2, ho2, hV, h2⟩ := hp
  rw [h1, h2, ← hkp 0 0 (by omega), ← hkp 20 0 (by omega), ← hkp 61 0 (by omega), ← hkp 62 0 (by omega)]
  refine X_istore_6 C (by decide) rfl dL_law_1664 ?_
  refine X_aload_n C rfl dL_law_1666 ?_
  refine X_aload_n C rfl dL_law_1667 ?_
  refine X_iload C rfl dL_law_1668 ?_
  refine X_iconst C dL_law_1670 ?_
  refine X_iadd C dL_law_1671 ?_
  refine X_sld C S (by omega) (by omega) (by omega) ez0 dL_law_1672 ?_
  refine X_callVg C (c_X9_needs C.hlc I hz0) cv_L_226 jG_20 ⟨_, _, rfl⟩ (As := [.int (iI z0)]) rfl rfl rfl (xroom_of rfl rfl (show cells + 12 + 0 ≤ 603072 by omega) (show slots + 224 + 0 ≤ 7198826 by omega)) dL_law_1673 (fun _ _ _ h => h.elim) (fun r3 ad3 g3 hp3 => ?_)
  obtain ⟨h3, h4, h5⟩ := hp3
  rw [h3, h4, h5]
  refine X_istore_7 C (by decide) rfl dL_law_1676 ?_
  obtain ⟨T, IT, hT, hj⟩ := jBr_q (k := kOdr θ z0) I hn
  rw [hj]
  refine X_aload_n C rfl dL_law_1678 ?_
  refine X_callVg C (c_X9_thrown C.hlc) cv_L_149 jG_20 ⟨_, _, rfl⟩ (As := []) rfl rfl rfl (xroom_of rfl rfl (show cells + 12 + 0 + 0 ≤ 603072 by omega) (show slots + 224 + 0 + 0 ≤ 7198826 by omega)) dL_law_1679 (fun _ _ _ h => h.elim) (fun r6 ad6 g6 hp6 => ?_)
  obtain ⟨h6, h7, h8⟩ := hp6
  rw [h6, h7, h8, hT]
  have hK : 0 ≤ kOdr θ z0 ∧ kOdr θ z0 ≤ 5 := by unfold kOdr; (repeat' split) <;> omega
  have hKr : rg (kOdr θ z0) := by constructor <;> omega
  refine X_iload C rfl dL_law_1682 ?_
  refine X_icmp_eq (tgt := 1689) C dL_law_1684 rfl hKr hKr (fun _ => ?_) (fun h => absurd rfl h)
  refine X_iload C rfl dL_law_1689 ?_
  refine X_if_ne (tgt := 1706) C dL_law_1691 rfl hKr (fun _ => ?_) (fun hk0 => ?_)
  · refine X_goto (tgt := 2605) C dL_law_1706 rfl ?_
    exact X_fg9 (X.widen (show cells + 12 + 0 + 0 ≤ cells + 40 by omega) (show slots + 224 + 0 + 0 ≤ slots + 400 by omega) (kk T ρ2 ad2 IT ho2))
  · obtain ⟨f, hf, hx⟩ := hV hk0
    rw [mA_0 hk0]
    refine X_aload_n C rfl dL_law_1694 ?_
    refine X_iconst C dL_law_1695 ?_
    refine X_lald C ((jG_at (by decide)).trans hf) (by decide) (by decide) (by decide) hx dL_law_1696 ?_
    refine X_iload C rfl dL_law_1697 ?_
    refine X_i2lR C dL_law_1699 ?_
    refine X_lcmpR C dL_law_1700 ?_
    refine X_if_eq (tgt := 1706) C dL_law_1701 rfl rg0 (fun _ => ?_) (fun h => absurd rfl h)
    refine X_goto (tgt := 2605) C dL_law_1706 rfl ?_
    exact X_fg9 (X.widen (show cells + 12 + 0 + 0 ≤ cells + 40 by omega) (show slots + 224 + 0 + 0 ≤ slots + 400 by omega) (kk T ρ2 ad2 IT ho2))
theorem lc_freePaper {κ : xK} {D : va_G} {Y : Nat → ClassId} {A : Nat → Prop} {cells slots b L : Nat} {xs : Nat → Int32} {θ : xS} {ρ : xG} {ad : xL} {n i : Int} (C : XB κ D Y A cL_law RL 9 room_1) (hN : xGN κ.2.2.2.2.1) (S : xSc κ A b L xs) (hL : L ≤ 2048) (I : xI n θ) (hn : n < 512) (ho : oK Y ρ) (hi : 0 ≤ i ∧ i + 4 ≤ L) (hc : cells + 40 ≤ 603072) (hs : slots + 400 ≤ 7198826) (kk : ∀ (θ2 : xS) (ρ2 : xG) (ad2 : xL), xI (n + 1) θ2 → oK Y ρ2 → X κ D A 9 (cells + 40) (slots + 400) 2605 [some (.ref b), some (.ref (ad2 0 0)), some (.ref (ad2 20 0)), some (.ref (ad2 61 0)), some (.ref (ad2 62 0)), some (.int (iI i)), none, none, none] [] ad2 (jG Y θ2 θ2 ρ2 ad2)) : X κ D A 9 cells slots 1709 [some (.ref b), some (.ref (ad 0 0)), some (.ref (ad 20 0)), some (.ref (ad 61 0)), some (.ref (ad 62 0)), some (.int (iI i)), none, none, none] [] ad (jG Y θ θ ρ ad) := by
  refine X_aload_n C rfl dL_law_1709 ?_
  refine X_callVg C (c_X8_freePaper C.hlc I) cv_L_227 (jG_0 rfl) ⟨_, _, rfl⟩ (As := []) rfl rfl rfl (xroom_of rfl rfl (show cells + 0 ≤ 603072 by omega) (show slots + 0 ≤ 7198826 by omega)) dL_law_1710 (fun _ _ _ h => h.elim) (fun r ad3 g3 hp => ?_)
  obtain ⟨h1, h2, h3⟩ := hp
  rw [h1, h2, h3]
  refine X_aload_n C rfl dL_law_1713 ?_
  refine X_callVg C (c_X9_freePaper C.hlc I) cv_L_230 jG_20 ⟨_, _, rfl⟩ (As := []) rfl rfl rfl (xroom_of rfl rfl (show cells + 0 + 0 ≤ 603072 by omega) (show slots + 0 + 0 ≤ 7198826 by omega)) dL_law_1714 (fun _ _ _ h => h.elim) (fun r4 ad4 g4 hp4 => ?_)
  obtain ⟨h4, h5, h6⟩ := hp4
  rw [h4, h5, h6]
  obtain ⟨T, IT, hT, hj⟩ := jBr_q (k := 0) I hn
  rw [hj]
  refine X_icmp_eq (tgt := 2605) C dL_law_1717 rfl (by have h0 := I.no; have h := frA_b I h0.1 h0.2; constructor <;> omega) (by have h0 := I.no; have h := frA_b I h0.1 h0.2; constructor <;> omega) (fun _ => ?_) (fun h => absurd rfl h)
  exact X.widen (show cells + 0 + 0 ≤ cells + 40 by omega) (show slots + 0 + 0 ≤ slots + 400 by omega) (kk T ρ ad IT ho)
theorem lc_stateOf {κ : xK} {D : va_G} {Y : Nat → ClassId} {A : Nat → Prop} {cells slots b L : Nat} {xs : Nat → Int32} {θ : xS} {ρ : xG} {ad : xL} {n i : Int} (C : XB κ D Y A cL_law RL 9 room_1) (hN : xGN κ.2.2.2.2.1) (S : xSc κ A b L xs) (hL : L ≤ 2048) (I : xI n θ) (hn : n < 512) (ho : oK Y ρ) (hi : 0 ≤ i ∧ i + 4 ≤ L) (hc : cells + 40 ≤ 603072) (hs : slots + 400 ≤ 7198826) (kk : ∀ (θ2 : xS) (ρ2 : xG) (ad2 : xL), xI (n + 1) θ2 → oK Y ρ2 → X κ D A 9 (cells + 40) (slots + 400) 2605 [some (.ref b), some (.ref (ad2 0 0)), some (.ref (ad2 20 0)), some (.ref (ad2 61 0)), some (.ref (ad2 62 0)), some (.int (iI i)), none, none, none] [] ad2 (jG Y θ2 θ2 ρ2 ad2)) : X κ D A 9 cells slots 1722 [some (.ref b), some (.ref (ad 0 0)), some (.ref (ad 20 0)), some (.ref (ad 61 0)), some (.ref (ad 62 0)), some (.int (iI i)), none, none, none] [] ad (jG Y θ θ ρ ad) := by
  obtain ⟨z0, hz0, ez0⟩ : ∃ z : Int, rg z ∧ (xs (i + 1).toNat).toInt = z := ⟨_, rg_of _, rfl⟩
  obtain ⟨z1, hz1, ez1⟩ : ∃ z : Int, rg z ∧ (xs (i + 2).toNat).toInt = z := ⟨_, rg_of _, rfl⟩
  refine X_aload_n C rfl dL_law_1722 ?_
  refine X_aload_n C rfl dL_law_1723 ?_
  refine X_iload C rfl dL_law_1724 ?_
  refine X_iconst C dL_law_1726 ?_
  refine X_iadd C dL_law_1727 ?_
  refine X_sld C S (by omega) (by omega) (by omega) ez0 dL_law_1728 ?_
  refine X_aload_n C rfl dL_law_1729 ?_
  refine X_iload C rfl dL_law_1730 ?_
  refine X_iconst C dL_law_1732 ?_
  refine X_iadd C dL_law_1733 ?_
  refine X_sld C S (by omega) (by omega) (by omega) ez1 dL_law_1734 ?_
  refine X_aload_n C rfl dL_law_1735 ?_
  refine X_callSW C hN (w_stateOf C.hlc I hz0 hz1 ho) cw_stateOf (As := [.ref (ad 0 0), .int (iI z0), .int (iI z1), .ref (ad 61 0)]) rfl rfl rfl (xroom_of rfl rfl (show cells + 12 ≤ 603072 by omega) (show slots + 224 ≤ 7198826 by omega)) dL_law_1736 (fun r ad2 g2 hp => ?_)
  obtain ⟨h1, hkp, ρ2, ho2, hV, h2⟩ := hp
  rw [h1, h2, ← hkp 0 0 (by omega), ← hkp 20 0 (by omega), ← hkp 61 0 (by omega), ← hkp 62 0 (by omega)]
  refine X_istore_6 C (by decide) rfl dL_law_1739 ?_
  refine X_aload_n C rfl dL_law_1741 ?_
  refine X_aload_n C rfl dL_law_1742 ?_
  refine X_iload C rfl dL_law_1743 ?_
  refine X_iconst C dL_law_1745 ?_
  refine X_iadd C dL_law_1746 ?_
  refine X_sld C S (by omega) (by omega) (by omega) ez0 dL_law_1747 ?_
  refine X_aload_n C rfl dL_law_1748 ?_
  refine X_iload C rfl dL_law_1749 ?_
  refine X_iconst C dL_law_1751 ?_
  refine X_iadd C dL_law_1752 ?_
  refine X_sld C S (by omega) (by omega) (by omega) ez1 dL_law_1753 ?_
  refine X_callVg C (c_X9_stateOf C.hlc I hz0 hz1) cv_L_233 jG_20 ⟨_, _, rfl⟩ (As := [.int (iI z0), .int (iI z1)]) rfl rfl rfl (xroom_of rfl rfl (show cells + 12 + 0 ≤ 603072 by omega) (show slots + 224 + 0 ≤ 7198826 by omega)) dL_law_1754 (fun _ _ _ h => h.elim) (fun r3 ad3 g3 hp3 => ?_)
  obtain ⟨h3, h4, h5⟩ := hp3
  rw [h3, h4, h5]
  refine X_istore_7 C (by decide) rfl dL_law_1757 ?_
  obtain ⟨T, IT, hT, hj⟩ := jBr_q (k := kSta θ z0 z1) I hn
  rw [hj]
  refine X_aload_n C rfl dL_law_1759 ?_
  refine X_callVg C (c_X9_thrown C.hlc) cv_L_149 jG_20 ⟨_, _, rfl⟩ (As := []) rfl rfl rfl (xroom_of rfl rfl (show cells + 12 + 0 + 0 ≤ 603072 by omega) (show slots + 224 + 0 + 0 ≤ 7198826 by omega)) dL_law_1760 (fun _ _ _ h => h.elim) (fun r6 ad6 g6 hp6 => ?_)
  obtain ⟨h6, h7, h8⟩ := hp6
  rw [h6, h7, h8, hT]
  have hK : 0 ≤ kSta θ z0 z1 ∧ kSta θ z0 z1 ≤ 5 := by unfold kSta; (repeat' split) <;> omega
  have hKr : rg (kSta θ z0 z1) := by constructor <;> omega
  refine X_iload C rfl dL_law_1763 ?_
  refine X_icmp_eq (tgt := 1770) C dL_law_1765 rfl hKr hKr (fun _ => ?_) (fun h => absurd rfl h)
  refine X_iload C rfl dL_law_1770 ?_
  refine X_if_ne (tgt := 1787) C dL_law_1772 rfl hKr (fun _ => ?_) (fun hk0 => ?_)
  · refine X_goto (tgt := 2605) C dL_law_1787 rfl ?_
    exact X_fg9 (X.widen (show cells + 12 + 0 + 0 ≤ cells + 40 by omega) (show slots + 224 + 0 + 0 ≤ slots + 400 by omega) (kk T ρ2 ad2 IT ho2))
  · obtain ⟨f, hf, hx⟩ := hV hk0
    rw [mA_0 hk0]
    refine X_aload_n C rfl dL_law_1775 ?_
    refine X_iconst C dL_law_1776 ?_
    refine X_lald C ((jG_at (by decide)).trans hf) (by decide) (by decide) (by decide) hx dL_law_1777 ?_
    refine X_iload C rfl dL_law_1778 ?_
    refine X_i2lR C dL_law_1780 ?_
    refine X_lcmpR C dL_law_1781 ?_
    refine X_if_eq (tgt := 1787) C dL_law_1782 rfl rg0 (fun _ => ?_) (fun h => absurd rfl h)
    refine X_goto (tgt := 2605) C dL_law_1787 rfl ?_
    exact X_fg9 (X.widen (show cells + 12 + 0 + 0 ≤ cells + 40 by omega) (show slots + 224 + 0 + 0 ≤ slots + 400 by omega) (kk T ρ2 ad2 IT ho2))
theorem lc_isDone {κ : xK} {D : va_G} {Y : Nat → ClassId} {A : Nat → Prop} {cells slots b L : Nat} {xs : Nat → Int32} {θ : xS} {ρ : xG} {ad : xL} {n i : Int} (C : XB κ D Y A cL_law RL 9 room_1) (hN : xGN κ.2.2.2.2.1) (S : xSc κ A b L xs) (hL : L ≤ 2048) (I : xI n θ) (hn : n < 512) (ho : oK Y ρ) (hi : 0 ≤ i ∧ i + 4 ≤ L) (hc : cells + 40 ≤ 603072) (hs : slots + 400 ≤ 7198826) (kk : ∀ (θ2 : xS) (ρ2 : xG) (ad2 : xL), xI (n + 1) θ2 → oK Y ρ2 → X κ D A 9 (cells + 40) (slots + 400) 2605 [some (.ref b), some (.ref (ad2 0 0)), some (.ref (ad2 20 0)), some (.ref (ad2 61 0)), some (.ref (ad2 62 0)), some (.int (iI i)), none, none, none] [] ad2 (jG Y θ2 θ2 ρ2 ad2)) : X κ D A 9 cells slots 1790 [some (.ref b), some (.ref (ad 0 0)), some (.ref (ad 20 0)), some (.ref (ad 61 0)), some (.ref (ad 62 0)), some (.int (iI i)), none, none, none] [] ad (jG Y θ θ ρ ad) := by
  obtain ⟨z0, hz0, ez0⟩ : ∃ z : Int, rg z ∧ (xs (i + 1).toNat).toInt = z := ⟨_, rg_of _, rfl⟩
  refine X_aload_n C rfl dL_law_1790 ?_
  refine X_aload_n C rfl dL_law_1791 ?_
  refine X_iload C rfl dL_law_1792 ?_
  refine X_iconst C dL_law_1794 ?_
  refine X_iadd C dL_law_1795 ?_
  refine X_sld C S (by omega) (by omega) (by omega) ez0 dL_law_1796 ?_
  refine X_aload_n C rfl dL_law_1797 ?_
  refine X_callSW C hN (w_isDone C.hlc I hz0 ho) cw_isDone (As := [.ref (ad 0 0), .int (iI z0), .ref (ad 61 0)]) rfl rfl rfl (xroom_of rfl rfl (show cells + 12 ≤ 603072 by omega) (show slots + 224 ≤ 7198826 by omega)) dL_law_1798 (fun r ad2 g2 hp => ?_)
  obtain ⟨h1, hkp, ρ2, ho2, hV, h2⟩ := hp
  rw [h1, h2, ← hkp 0 0 (by omega), ← hkp 20 0 (by omega), ← hkp 61 0 (by omega), ← hkp 62 0 (by omega)]
  refine X_istore_6 C (by decide) rfl dL_law_1801 ?_
  refine X_aload_n C rfl dL_law_1803 ?_
  refine X_aload_n C rfl dL_law_1804 ?_
  refine X_iload C rfl dL_law_1805 ?_
  refine X_iconst C dL_law_1807 ?_
  refine X_iadd C dL_law_1808 ?_
  refine X_sld C S (by omega) (by omega) (by omega) ez0 dL_law_1809 ?_
  refine X_callVg C (c_X9_isDone C.hlc I hz0) cv_L_236 jG_20 ⟨_, _, rfl⟩ (As := [.int (iI z0)]) rfl rfl rfl (xroom_of rfl rfl (show cells + 12 + 0 ≤ 603072 by omega) (show slots + 224 + 0 ≤ 7198826 by omega)) dL_law_1810 (fun _ _ _ h => h.elim) (fun r3 ad3 g3 hp3 => ?_)
  obtain ⟨h3, h4, h5⟩ := hp3
  rw [h3, h4, h5]
  refine X_istore_7 C (by decide) rfl dL_law_1813 ?_
  obtain ⟨T, IT, hT, hj⟩ := jBr_q (k := kOdr θ z0) I hn
  rw [hj]
  refine X_aload_n C rfl dL_law_1815 ?_
  refine X_callVg C (c_X9_thrown C.hlc) cv_L_149 jG_20 ⟨_, _, rfl⟩ (As := []) rfl rfl rfl (xroom_of rfl rfl (show cells + 12 + 0 + 0 ≤ 603072 by omega) (show slots + 224 + 0 + 0 ≤ 7198826 by omega)) dL_law_1816 (fun _ _ _ h => h.elim) (fun r6 ad6 g6 hp6 => ?_)
  obtain ⟨h6, h7, h8⟩ := hp6
  rw [h6, h7, h8, hT]
  have hK : 0 ≤ kOdr θ z0 ∧ kOdr θ z0 ≤ 5 := by unfold kOdr; (repeat' split) <;> omega
  have hKr : rg (kOdr θ z0) := by constructor <;> omega
  refine X_iload C rfl dL_law_1819 ?_
  refine X_icmp_eq (tgt := 1826) C dL_law_1821 rfl hKr hKr (fun _ => ?_) (fun h => absurd rfl h)
  refine X_iload C rfl dL_law_1826 ?_
  refine X_if_ne (tgt := 1850) C dL_law_1828 rfl hKr (fun _ => ?_) (fun hk0 => ?_)
  · refine X_goto (tgt := 2605) C dL_law_1850 rfl ?_
    exact X_fg9 (X.widen (show cells + 12 + 0 + 0 ≤ cells + 40 by omega) (show slots + 224 + 0 + 0 ≤ slots + 400 by omega) (kk T ρ2 ad2 IT ho2))
  · obtain ⟨f, hf, hx⟩ := hV hk0
    rw [mA_0 hk0]
    refine X_aload_n C rfl dL_law_1831 ?_
    refine X_iconst C dL_law_1832 ?_
    refine X_lald C ((jG_at (by decide)).trans hf) (by decide) (by decide) (by decide) hx dL_law_1833 ?_
    refine X_iload C rfl dL_law_1834 ?_
    refine X_if_eq (tgt := 1843) C dL_law_1836 rfl (bI_rg _) (fun h0 => ?_) (fun h0 => ?_)
    · rw [if_pos h0]
      refine X_lconst (v := 0) C rfl dL_law_1843 ?_
      refine X_lcmpR C dL_law_1844 ?_
      refine X_if_eq (tgt := 1850) C dL_law_1845 rfl rg0 (fun _ => ?_) (fun h => absurd rfl h)
      refine X_goto (tgt := 2605) C dL_law_1850 rfl ?_
      exact X_fg9 (X.widen (show cells + 12 + 0 + 0 ≤ cells + 40 by omega) (show slots + 224 + 0 + 0 ≤ slots + 400 by omega) (kk T ρ2 ad2 IT ho2))
    · rw [if_neg h0]
      refine X_lconst (v := 1) C rfl dL_law_1839 ?_
      refine X_goto (tgt := 1844) C dL_law_1840 rfl ?_
      refine X_lcmpR C dL_law_1844 ?_
      refine X_if_eq (tgt := 1850) C dL_law_1845 rfl rg0 (fun _ => ?_) (fun h => absurd rfl h)
      refine X_goto (tgt := 2605) C dL_law_1850 rfl ?_
      exact X_fg9 (X.widen (show cells + 12 + 0 + 0 ≤ cells + 40 by omega) (show slots + 224 + 0 + 0 ≤ slots + 400 by omega) (kk T ρ2 ad2 IT ho2))
