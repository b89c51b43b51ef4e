/-! the law's methods, 2 -/
theorem w_spanTo {lc : Launch} (hlc : lc.stackTraces = false) {D : va_G} {Y : Nat → ClassId} {A : Nat → Prop} {τ σ : xS} {ρ : xG} {ad : xL} {n z : Int} (I : xI n τ) (hz0 : rg z) (ho : oK Y ρ) : CtW lc yL_spanTo cL_spanTo 4 (some .int) [(0, 9, 12, 19), (0, 9, 15, 13)] (rmL 8 12 224) D Y A ad (jG Y τ σ ρ ad) [.ref (ad 0 0), .int (iI z), .ref (ad 61 0)] (pW Y (kAns τ z) (vL Y ((iI (τ 7 z 0)).toInt64)) τ σ ad) := by
  refine CtW_of hlc (by decide +kernel) rfl (own := RL) (l0 := [some (.ref (ad 0 0)), some (.int (iI z)), some (.ref (ad 61 0)), none]) rfl (Nat.le_of_ble_eq_true rfl) (fun κ C M => ?_)
  obtain ⟨fo, hfo⟩ := ho.1
  refine X_aload_n C rfl dL_spanTo_0 ?_
  refine X_iconst C dL_spanTo_1 ?_
  refine X_aload_n C rfl dL_spanTo_2 ?_
  refine X_iload_n C rfl dL_spanTo_3 ?_
  refine X_callVg C (c_X8_spanTo C.hlc I hz0) cv_L_61 (jG_0 rfl) ⟨_, _, rfl⟩ (As := [.int (iI z)]) rfl rfl rfl rfl dL_spanTo_4 (fun E ad9 g9 hp => ?_) (fun r ad9 g9 hp => ?_)
  · obtain ⟨hp, rfl, rfl⟩ := hp
    rcases exn_s hp with ⟨hk, he⟩ | hp
    · subst he
      refine XTh.caught C M [] ⟨0, 9, 12, 19⟩ [⟨0, 9, 15, 13⟩] rfl (fun _ h => absurd h List.not_mem_nil) rfl (by decide) lk_19 (List.mem_of_getElem? (i := 2) (by decide +kernel)) (fun q9 => ?_)
      refine X_astore_3 C (by decide) rfl dL_spanTo_12 ?_
      refine X_iconst C dL_spanTo_13 ?_
      have hw := pW_no (V := vL Y ((iI (τ 7 z 0)).toInt64)) (C := τ) (τ := τ) (σ := σ) (ad := ad9) ho (show kAns τ z = 1 by omega) (by decide)
      rw [mQ_sm] at hw
      exact X_iretW C M rfl (by decide) (by decide) dL_spanTo_14 hw
    rcases exn_s hp with ⟨hk, he⟩ | hp
    · subst he
      refine XTh.caught C M [⟨0, 9, 12, 19⟩] ⟨0, 9, 15, 13⟩ [] rfl (List.forall_mem_cons.mpr ⟨⟨by decide, _, lk_19, List.mem_of_getElem? (i := 5) (by decide +kernel)⟩, fun _ h => absurd h List.not_mem_nil⟩) rfl (by decide) lk_13 (List.mem_of_getElem? (i := 0) (by decide +kernel)) (fun q9 => ?_)
      refine X_astore_3 C (by decide) rfl dL_spanTo_15 ?_
      refine X_iconst C dL_spanTo_16 ?_
      have hw := pW_no (V := vL Y ((iI (τ 7 z 0)).toInt64)) (C := τ) (τ := τ) (σ := σ) (ad := ad9) ho (show kAns τ z = 2 by omega) (by decide)
      rw [mQ_sm] at hw
      exact X_iretW C M rfl (by decide) (by decide) dL_spanTo_17 hw
    · exact (exn_nil hp).elim
  · obtain ⟨hk, rfl, rfl, rfl⟩ := hp
    refine X_i2lR C dL_spanTo_7 ?_
    refine X_last C ((jG_at (by decide)).trans hfo) (by decide) (by decide) (by decide) dL_spanTo_8 ?_
    rw [jG_rho (by decide)]
    refine X_goto (tgt := 18) C dL_spanTo_9 rfl ?_
    refine X_iconst C dL_spanTo_18 ?_
    have hw := pW_L (x := (iI (τ 7 z 0)).toInt64) (C := τ) (τ := τ) (σ := σ) (f := fo) (ad := ad9) (ad2 := ad9) ho hk xKp_rf
    rw [mQ_sm] at hw
    exact X_iretW C M rfl (by decide) (by decide) dL_spanTo_19 hw
theorem w_sign {lc : Launch} (hlc : lc.stackTraces = false) {D : va_G} {Y : Nat → ClassId} {A : Nat → Prop} {τ σ : xS} {ρ : xG} {ad : xL} {n z : Int} (I : xI n τ) (hz0 : rg z) (hn : n < 512) (ho : oK Y ρ) : CtW lc yL_sign cL_sign 4 (some .int) [(0, 9, 12, 19), (0, 9, 15, 13)] (rmL 8 12 224) D Y A ad (jG Y τ σ ρ ad) [.ref (ad 0 0), .int (iI z), .ref (ad 61 0)] (pW Y (kSig τ z) (vL Y ((iI (shC (τ 1 (2 * z) 0))).toInt64)) (mQ (kSig τ z) (sgnS τ z) τ) σ ad) := by
  refine CtW_of hlc (by decide +kernel) rfl (own := RL) (l0 := [some (.ref (ad 0 0)), some (.int (iI z)), some (.ref (ad 61 0)), none]) rfl (Nat.le_of_ble_eq_true rfl) (fun κ C M => ?_)
  obtain ⟨fo, hfo⟩ := ho.1
  refine X_aload_n C rfl dL_sign_0 ?_
  refine X_iconst C dL_sign_1 ?_
  refine X_aload_n C rfl dL_sign_2 ?_
  refine X_iload_n C rfl dL_sign_3 ?_
  refine X_callVg C (c_X8_sign C.hlc I hz0 hn) cv_L_64 (jG_0 rfl) ⟨_, _, rfl⟩ (As := [.int (iI z)]) rfl rfl rfl rfl dL_sign_4 (fun E ad9 g9 hp => ?_) (fun r ad9 g9 hp => ?_)
  · obtain ⟨hp, rfl, rfl⟩ := hp
    rcases exn_s hp with ⟨hk, he⟩ | hp
    · subst he
      refine XTh.caught C M [] ⟨0, 9, 12, 19⟩ [⟨0, 9, 15, 13⟩] rfl (fun _ h => absurd h List.not_mem_nil) rfl (by decide) lk_19 (List.mem_of_getElem? (i := 2) (by decide +kernel)) (fun q9 => ?_)
      refine X_astore_3 C (by decide) rfl dL_sign_12 ?_
      refine X_iconst C dL_sign_13 ?_
      exact X_iretW C M rfl (by decide) (by decide) dL_sign_14 (pW_no ho (by omega) (by decide))
    rcases exn_s hp with ⟨hk, he⟩ | hp
    · subst he
      refine XTh.caught C M [⟨0, 9, 12, 19⟩] ⟨0, 9, 15, 13⟩ [] rfl (List.forall_mem_cons.mpr ⟨⟨by decide, _, lk_19, List.mem_of_getElem? (i := 5) (by decide +kernel)⟩, fun _ h => absurd h List.not_mem_nil⟩) rfl (by decide) lk_13 (List.mem_of_getElem? (i := 0) (by decide +kernel)) (fun q9 => ?_)
      refine X_astore_3 C (by decide) rfl dL_sign_15 ?_
      refine X_iconst C dL_sign_16 ?_
      exact X_iretW C M rfl (by decide) (by decide) dL_sign_17 (pW_no ho (by omega) (by decide))
    · exact (exn_nil hp).elim
  · obtain ⟨hk, rfl, rfl, rfl⟩ := hp
    refine X_i2lR C dL_sign_7 ?_
    refine X_last C ((jG_at (by decide)).trans hfo) (by decide) (by decide) (by decide) dL_sign_8 ?_
    rw [jG_rho (by decide)]
    refine X_goto (tgt := 18) C dL_sign_9 rfl ?_
    refine X_iconst C dL_sign_18 ?_
    have hw := pW_L (x := (iI (shC (τ 1 (2 * z) 0))).toInt64) (C := (sgnS τ z)) (τ := τ) (σ := σ) (f := fo) (ad := ad9) (ad2 := ad9) ho hk xKp_rf
    exact X_iretW C M rfl (by decide) (by decide) dL_sign_19 hw
theorem w_signed {lc : Launch} (hlc : lc.stackTraces = false) {D : va_G} {Y : Nat → ClassId} {A : Nat → Prop} {τ σ : xS} {ρ : xG} {ad : xL} {n z : Int} (I : xI n τ) (hz0 : rg z) (ho : oK Y ρ) : CtW lc yL_signed cL_signed 4 (some .int) [(0, 9, 12, 19), (0, 9, 15, 13)] (rmL 8 12 224) D Y A ad (jG Y τ σ ρ ad) [.ref (ad 0 0), .int (iI z), .ref (ad 61 0)] (pW Y (kPrf τ z) (vL Y ((iI (τ 3 z 0)).toInt64)) τ σ ad) := by
  refine CtW_of hlc (by decide +kernel) rfl (own := RL) (l0 := [some (.ref (ad 0 0)), some (.int (iI z)), some (.ref (ad 61 0)), none]) rfl (Nat.le_of_ble_eq_true rfl) (fun κ C M => ?_)
  obtain ⟨fo, hfo⟩ := ho.1
  refine X_aload_n C rfl dL_signed_0 ?_
  refine X_iconst C dL_signed_1 ?_
  refine X_aload_n C rfl dL_signed_2 ?_
  refine X_iload_n C rfl dL_signed_3 ?_
  refine X_callVg C (c_X8_signed C.hlc I hz0) cv_L_67 (jG_0 rfl) ⟨_, _, rfl⟩ (As := [.int (iI z)]) rfl rfl rfl rfl dL_signed_4 (fun E ad9 g9 hp => ?_) (fun r ad9 g9 hp => ?_)
  · obtain ⟨hp, rfl, rfl⟩ := hp
    rcases exn_s hp with ⟨hk, he⟩ | hp
    · subst he
      refine XTh.caught C M [] ⟨0, 9, 12, 19⟩ [⟨0, 9, 15, 13⟩] rfl (fun _ h => absurd h List.not_mem_nil) rfl (by decide) lk_19 (List.mem_of_getElem? (i := 2) (by decide +kernel)) (fun q9 => ?_)
      refine X_astore_3 C (by decide) rfl dL_signed_12 ?_
      refine X_iconst C dL_signed_13 ?_
      have hw := pW_no (V := vL Y ((iI (τ 3 z 0)).toInt64)) (C := τ) (τ := τ) (σ := σ) (ad := ad9) ho (show kPrf τ z = 1 by omega) (by decide)
      rw [mQ_sm] at hw
      exact X_iretW C M rfl (by decide) (by decide) dL_signed_14 hw
    rcases exn_s hp with ⟨hk, he⟩ | hp
    · subst he
      refine XTh.caught C M [⟨0, 9, 12, 19⟩] ⟨0, 9, 15, 13⟩ [] rfl (List.forall_mem_cons.mpr ⟨⟨by decide, _, lk_19, List.mem_of_getElem? (i := 5) (by decide +kernel)⟩, fun _ h => absurd h List.not_mem_nil⟩) rfl (by decide) lk_13 (List.mem_of_getElem? (i := 0) (by decide +kernel)) (fun q9 => ?_)
      refine X_astore_3 C (by decide) rfl dL_signed_15 ?_
      refine X_iconst C dL_signed_16 ?_
      have hw := pW_no (V := vL Y ((iI (τ 3 z 0)).toInt64)) (C := τ) (τ := τ) (σ := σ) (ad := ad9) ho (show kPrf τ z = 2 by omega) (by decide)
      rw [mQ_sm] at hw
      exact X_iretW C M rfl (by decide) (by decide) dL_signed_17 hw
    · exact (exn_nil hp).elim
  · obtain ⟨hk, rfl, rfl, rfl⟩ := hp
    refine X_i2lR C dL_signed_7 ?_
    refine X_last C ((jG_at (by decide)).trans hfo) (by decide) (by decide) (by decide) dL_signed_8 ?_
    rw [jG_rho (by decide)]
    refine X_goto (tgt := 18) C dL_signed_9 rfl ?_
    refine X_iconst C dL_signed_18 ?_
    have hw := pW_L (x := (iI (τ 3 z 0)).toInt64) (C := τ) (τ := τ) (σ := σ) (f := fo) (ad := ad9) (ad2 := ad9) ho hk xKp_rf
    rw [mQ_sm] at hw
    exact X_iretW C M rfl (by decide) (by decide) dL_signed_19 hw
theorem w_sheets {lc : Launch} (hlc : lc.stackTraces = false) {D : va_G} {Y : Nat → ClassId} {A : Nat → Prop} {τ σ : xS} {ρ : xG} {ad : xL} {n z : Int} (I : xI n τ) (hz0 : rg z) (ho : oK Y ρ) : CtW lc yL_sheets cL_sheets 4 (some .int) [(0, 9, 12, 19), (0, 9, 15, 13)] (rmL 8 12 224) D Y A ad (jG Y τ σ ρ ad) [.ref (ad 0 0), .int (iI z), .ref (ad 61 0)] (pW Y (kPrf τ z) (vL Y ((iI (shT τ z)).toInt64)) τ σ ad) := by
  refine CtW_of hlc (by decide +kernel) rfl (own := RL) (l0 := [some (.ref (ad 0 0)), some (.int (iI z)), some (.ref (ad 61 0)), none]) rfl (Nat.le_of_ble_eq_true rfl) (fun κ C M => ?_)
  obtain ⟨fo, hfo⟩ := ho.1
  refine X_aload_n C rfl dL_sheets_0 ?_
  refine X_iconst C dL_sheets_1 ?_
  refine X_aload_n C rfl dL_sheets_2 ?_
  refine X_iload_n C rfl dL_sheets_3 ?_
  refine X_callVg C (c_X8_sheets C.hlc I hz0) cv_L_70 (jG_0 rfl) ⟨_, _, rfl⟩ (As := [.int (iI z)]) rfl rfl rfl rfl dL_sheets_4 (fun E ad9 g9 hp => ?_) (fun r ad9 g9 hp => ?_)
  · obtain ⟨hp, rfl, rfl⟩ := hp
    rcases exn_s hp with ⟨hk, he⟩ | hp
    · subst he
      refine XTh.caught C M [] ⟨0, 9, 12, 19⟩ [⟨0, 9, 15, 13⟩] rfl (fun _ h => absurd h List.not_mem_nil) rfl (by decide) lk_19 (List.mem_of_getElem? (i := 2) (by decide +kernel)) (fun q9 => ?_)
      refine X_astore_3 C (by decide) rfl dL_sheets_12 ?_
      refine X_iconst C dL_sheets_13 ?_
      have hw := pW_no (V := vL Y ((iI (shT τ z)).toInt64)) (C := τ) (τ := τ) (σ := σ) (ad := ad9) ho (show kPrf τ z = 1 by omega) (by decide)
      rw [mQ_sm] at hw
      exact X_iretW C M rfl (by decide) (by decide) dL_sheets_14 hw
    rcases exn_s hp with ⟨hk, he⟩ | hp
    · subst he
      refine XTh.caught C M [⟨0, 9, 12, 19⟩] ⟨0, 9, 15, 13⟩ [] rfl (List.forall_mem_cons.mpr ⟨⟨by decide, _, lk_19, List.mem_of_getElem? (i := 5) (by decide +kernel)⟩, fun _ h => absurd h List.not_mem_nil⟩) rfl (by decide) lk_13 (List.mem_of_getElem? (i := 0) (by decide +kernel)) (fun q9 => ?_)
      refine X_astore_3 C (by decide) rfl dL_sheets_15 ?_
      refine X_iconst C dL_sheets_16 ?_
      have hw := pW_no (V := vL Y ((iI (shT τ z)).toInt64)) (C := τ) (τ := τ) (σ := σ) (ad := ad9) ho (show kPrf τ z = 2 by omega) (by decide)
      rw [mQ_sm] at hw
      exact X_iretW C M rfl (by decide) (by decide) dL_sheets_17 hw
    · exact (exn_nil hp).elim
  · obtain ⟨hk, rfl, rfl, rfl⟩ := hp
    refine X_i2lR C dL_sheets_7 ?_
    refine X_last C ((jG_at (by decide)).trans hfo) (by decide) (by decide) (by decide) dL_sheets_8 ?_
    rw [jG_rho (by decide)]
    refine X_goto (tgt := 18) C dL_sheets_9 rfl ?_
    refine X_iconst C dL_sheets_18 ?_
    have hw := pW_L (x := (iI (shT τ z)).toInt64) (C := τ) (τ := τ) (σ := σ) (f := fo) (ad := ad9) (ad2 := ad9) ho hk xKp_rf
    rw [mQ_sm] at hw
    exact X_iretW C M rfl (by decide) (by decide) dL_sheets_19 hw
theorem w_pageOn {lc : Launch} (hlc : lc.stackTraces = false) {D : va_G} {Y : Nat → ClassId} {A : Nat → Prop} {τ σ : xS} {ρ : xG} {ad : xL} {n z s q : Int} (I : xI n τ) (hz0 : rg z) (hz1 : rg s) (hz2 : rg q) (ho : oK Y ρ) : CtW lc yL_pageOn cL_pageOn 6 (some .int) [(0, 12, 15, 19), (0, 12, 19, 13), (0, 12, 23, 21)] (rmL 8 12 224) D Y A ad (jG Y τ σ ρ ad) [.ref (ad 0 0), .int (iI z), .int (iI s), .int (iI q), .ref (ad 61 0)] (pW Y (kPag τ z s q 4) (vL Y ((iI (pgA (shT τ z) s q)).toInt64)) τ σ ad) := by
  refine CtW_of hlc (by decide +kernel) rfl (own := RL) (l0 := [some (.ref (ad 0 0)), some (.int (iI z)), some (.int (iI s)), some (.int (iI q)), some (.ref (ad 61 0)), none]) rfl (Nat.le_of_ble_eq_true rfl) (fun κ C M => ?_)
  obtain ⟨fo, hfo⟩ := ho.1
  refine X_aload C rfl dL_pageOn_0 ?_
  refine X_iconst C dL_pageOn_2 ?_
  refine X_aload_n C rfl dL_pageOn_3 ?_
  refine X_iload_n C rfl dL_pageOn_4 ?_
  refine X_iload_n C rfl dL_pageOn_5 ?_
  refine X_iload_n C rfl dL_pageOn_6 ?_
  refine X_callVg C (c_X8_pageOn C.hlc I hz0 hz1 hz2) cv_L_73 (jG_0 rfl) ⟨_, _, rfl⟩ (As := [.int (iI z), .int (iI s), .int (iI q)]) rfl rfl rfl rfl dL_pageOn_7 (fun E ad9 g9 hp => ?_) (fun r ad9 g9 hp => ?_)
  · obtain ⟨hp, rfl, rfl⟩ := hp
    rcases exn_s hp with ⟨hk, he⟩ | hp
    · subst he
      refine XTh.caught C M [] ⟨0, 12, 15, 19⟩ [⟨0, 12, 19, 13⟩, ⟨0, 12, 23, 21⟩] rfl (fun _ h => absurd h List.not_mem_nil) rfl (by decide) lk_19 (List.mem_of_getElem? (i := 2) (by decide +kernel)) (fun q9 => ?_)
      refine X_astore_5 C (by decide) rfl dL_pageOn_15 ?_
      refine X_iconst C dL_pageOn_17 ?_
      have hw := pW_no (V := vL Y ((iI (pgA (shT τ z) s q)).toInt64)) (C := τ) (τ := τ) (σ := σ) (ad := ad9) ho (show kPag τ z s q 4 = 1 by omega) (by decide)
      rw [mQ_sm] at hw
      exact X_iretW C M rfl (by decide) (by decide) dL_pageOn_18 hw
    rcases exn_s hp with ⟨hk, he⟩ | hp
    · subst he
      refine XTh.caught C M [⟨0, 12, 15, 19⟩] ⟨0, 12, 19, 13⟩ [⟨0, 12, 23, 21⟩] rfl (List.forall_mem_cons.mpr ⟨⟨by decide, _, lk_19, List.mem_of_getElem? (i := 5) (by decide +kernel)⟩, fun _ h => absurd h List.not_mem_nil⟩) rfl (by decide) lk_13 (List.mem_of_getElem? (i := 0) (by decide +kernel)) (fun q9 => ?_)
      refine X_astore_5 C (by decide) rfl dL_pageOn_19 ?_
      refine X_iconst C dL_pageOn_21 ?_
      have hw := pW_no (V := vL Y ((iI (pgA (shT τ z) s q)).toInt64)) (C := τ) (τ := τ) (σ := σ) (ad := ad9) ho (show kPag τ z s q 4 = 2 by omega) (by decide)
      rw [mQ_sm] at hw
      exact X_iretW C M rfl (by decide) (by decide) dL_pageOn_22 hw
    rcases exn_s hp with ⟨hk, he⟩ | hp
    · subst he
      refine XTh.caught C M [⟨0, 12, 15, 19⟩, ⟨0, 12, 19, 13⟩] ⟨0, 12, 23, 21⟩ [] rfl (List.forall_mem_cons.mpr ⟨⟨by decide, _, lk_19, List.mem_of_getElem? (i := 10) (by decide +kernel)⟩, List.forall_mem_cons.mpr ⟨⟨by decide, _, lk_13, List.mem_of_getElem? (i := 11) (by decide +kernel)⟩, fun _ h => absurd h List.not_mem_nil⟩⟩) rfl (by decide) lk_21 (List.mem_of_getElem? (i := 3) (by decide +kernel)) (fun q9 => ?_)
      refine X_astore_5 C (by decide) rfl dL_pageOn_23 ?_
      refine X_iconst C dL_pageOn_25 ?_
      have hw := pW_no (V := vL Y ((iI (pgA (shT τ z) s q)).toInt64)) (C := τ) (τ := τ) (σ := σ) (ad := ad9) ho (show kPag τ z s q 4 = 3 by omega) (by decide)
      rw [mQ_sm] at hw
      exact X_iretW C M rfl (by decide) (by decide) dL_pageOn_26 hw
    · exact (exn_nil hp).elim
  · obtain ⟨hk, rfl, rfl, rfl⟩ := hp
    refine X_i2lR C dL_pageOn_10 ?_
    refine X_last C ((jG_at (by decide)).trans hfo) (by decide) (by decide) (by decide) dL_pageOn_11 ?_
    rw [jG_rho (by decide)]
    refine X_goto (tgt := 27) C dL_pageOn_12 rfl ?_
    refine X_iconst C dL_pageOn_27 ?_
    have hw := pW_L (x := (iI (pgA (shT τ z) s q)).toInt64) (C := τ) (τ := τ) (σ := σ) (f := fo) (ad := ad9) (ad2 := ad9) ho hk xKp_rf
    rw [mQ_sm] at hw
    exact X_iretW C M rfl (by decide) (by decide) dL_pageOn_28 hw
theorem w_shown {lc : Launch} (hlc : lc.stackTraces = false) {D : va_G} {Y : Nat → ClassId} {A : Nat → Prop} {τ σ : xS} {ρ : xG} {ad : xL} {n z s k : Int} (I : xI n τ) (hz0 : rg z) (hz1 : rg s) (hz2 : rg k) (ho : oK Y ρ) : CtW lc yL_shown cL_shown 6 (some .int) [(0, 12, 15, 19), (0, 12, 19, 13), (0, 12, 23, 21)] (rmL 8 12 224) D Y A ad (jG Y τ σ ρ ad) [.ref (ad 0 0), .int (iI z), .int (iI s), .int (iI k), .ref (ad 61 0)] (pW Y (kPag τ z s k 32) (vL Y ((iI (cOn τ z s k)).toInt64)) τ σ ad) := by
  refine CtW_of hlc (by decide +kernel) rfl (own := RL) (l0 := [some (.ref (ad 0 0)), some (.int (iI z)), some (.int (iI s)), some (.int (iI k)), some (.ref (ad 61 0)), none]) rfl (Nat.le_of_ble_eq_true rfl) (fun κ C M => ?_)
  obtain ⟨fo, hfo⟩ := ho.1
  refine X_aload C rfl dL_shown_0 ?_
  refine X_iconst C dL_shown_2 ?_
  refine X_aload_n C rfl dL_shown_3 ?_
  refine X_iload_n C rfl dL_shown_4 ?_
  refine X_iload_n C rfl dL_shown_5 ?_
  refine X_iload_n C rfl dL_shown_6 ?_
  refine X_callVg C (c_X8_shown C.hlc I hz0 hz1 hz2) cv_L_76 (jG_0 rfl) ⟨_, _, rfl⟩ (As := [.int (iI z), .int (iI s), .int (iI k)]) rfl rfl rfl rfl dL_shown_7 (fun E ad9 g9 hp => ?_) (fun r ad9 g9 hp => ?_)
  · obtain ⟨hp, rfl, rfl⟩ := hp
    rcases exn_s hp with ⟨hk, he⟩ | hp
    · subst he
      refine XTh.caught C M [] ⟨0, 12, 15, 19⟩ [⟨0, 12, 19, 13⟩, ⟨0, 12, 23, 21⟩] rfl (fun _ h => absurd h List.not_mem_nil) rfl (by decide) lk_19 (List.mem_of_getElem? (i := 2) (by decide +kernel)) (fun q9 => ?_)
      refine X_astore_5 C (by decide) rfl dL_shown_15 ?_
      refine X_iconst C dL_shown_17 ?_
      have hw := pW_no (V := vL Y ((iI (cOn τ z s k)).toInt64)) (C := τ) (τ := τ) (σ := σ) (ad := ad9) ho (show kPag τ z s k 32 = 1 by omega) (by decide)
      rw [mQ_sm] at hw
      exact X_iretW C M rfl (by decide) (by decide) dL_shown_18 hw
    rcases exn_s hp with ⟨hk, he⟩ | hp
    · subst he
      refine XTh.caught C M [⟨0, 12, 15, 19⟩] ⟨0, 12, 19, 13⟩ [⟨0, 12, 23, 21⟩] rfl (List.forall_mem_cons.mpr ⟨⟨by decide, _, lk_19, List.mem_of_getElem? (i := 5) (by decide +kernel)⟩, fun _ h => absurd h List.not_mem_nil⟩) rfl (by decide) lk_13 (List.mem_of_getElem? (i := 0) (by decide +kernel)) (fun q9 => ?_)
      refine X_astore_5 C (by decide) rfl dL_shown_19 ?_
      refine X_iconst C dL_shown_21 ?_
      have hw := pW_no (V := vL Y ((iI (cOn τ z s k)).toInt64)) (C := τ) (τ := τ) (σ := σ) (ad := ad9) ho (show kPag τ z s k 32 = 2 by omega) (by decide)
      rw [mQ_sm] at hw
      exact X_iretW C M rfl (by decide) (by decide) dL_shown_22 hw
    rcases exn_s hp with ⟨hk, he⟩ | hp
    · subst he
      refine XTh.caught C M [⟨0, 12, 15, 19⟩, ⟨0, 12, 19, 13⟩] ⟨0, 12, 23, 21⟩ [] rfl (List.forall_mem_cons.mpr ⟨⟨by decide, _, lk_19, List.mem_of_getElem? (i := 10) (by decide +kernel)⟩, List.forall_mem_cons.mpr ⟨⟨by decide, _, lk_13, List.mem_of_getElem? (i := 11) (by decide +kernel)⟩, fun _ h => absurd h List.not_mem_nil⟩⟩) rfl (by decide) lk_21 (List.mem_of_getElem? (i := 3) (by decide +kernel)) (fun q9 => ?_)
      refine X_astore_5 C (by decide) rfl dL_shown_23 ?_
      refine X_iconst C dL_shown_25 ?_
      have hw := pW_no (V := vL Y ((iI (cOn τ z s k)).toInt64)) (C := τ) (τ := τ) (σ := σ) (ad := ad9) ho (show kPag τ z s k 32 = 3 by omega) (by decide)
      rw [mQ_sm] at hw
      exact X_iretW C M rfl (by decide) (by decide) dL_shown_26 hw
    · exact (exn_nil hp).elim
  · obtain ⟨hk, rfl, rfl, rfl⟩ := hp
    refine X_i2lR C dL_shown_10 ?_
    refine X_last C ((jG_at (by decide)).trans hfo) (by decide) (by decide) (by decide) dL_shown_11 ?_
    rw [jG_rho (by decide)]
    refine X_goto (tgt := 27) C dL_shown_12 rfl ?_
    refine X_iconst C dL_shown_27 ?_
    have hw := pW_L (x := (iI (cOn τ z s k)).toInt64) (C := τ) (τ := τ) (σ := σ) (f := fo) (ad := ad9) (ad2 := ad9) ho hk xKp_rf
    rw [mQ_sm] at hw
    exact X_iretW C M rfl (by decide) (by decide) dL_shown_28 hw
theorem w_shownByLog {lc : Launch} (hlc : lc.stackTraces = false) {D : va_G} {Y : Nat → ClassId} {A : Nat → Prop} {τ σ : xS} {ρ : xG} {ad : xL} {n z s k : Int} (I : xI n τ) (hz0 : rg z) (hz1 : rg s) (hz2 : rg k) (ho : oK Y ρ) : CtW lc yL_shownByLog cL_shownByLog 6 (some .int) [(0, 12, 15, 19), (0, 12, 19, 13), (0, 12, 23, 21)] (rmL 8 12 224) D Y A ad (jG Y τ σ ρ ad) [.ref (ad 0 0), .int (iI z), .int (iI s), .int (iI k), .ref (ad 61 0)] (pW Y (kPag τ z s k 32) (vL Y ((iI (cOn τ z s k)).toInt64)) τ σ ad) := by
  refine CtW_of hlc (by decide +kernel) rfl (own := RL) (l0 := [some (.ref (ad 0 0)), some (.int (iI z)), some (.int (iI s)), some (.int (iI k)), some (.ref (ad 61 0)), none]) rfl (Nat.le_of_ble_eq_true rfl) (fun κ C M => ?_)
  obtain ⟨fo, hfo⟩ := ho.1
  refine X_aload C rfl dL_shownByLog_0 ?_
  refine X_iconst C dL_shownByLog_2 ?_
  refine X_aload_n C rfl dL_shownByLog_3 ?_
  refine X_iload_n C rfl dL_shownByLog_4 ?_
  refine X_iload_n C rfl dL_shownByLog_5 ?_
  refine X_iload_n C rfl dL_shownByLog_6 ?_
  refine X_callVg C (c_X8_shownByLog C.hlc I hz0 hz1 hz2) cv_L_79 (jG_0 rfl) ⟨_, _, rfl⟩ (As := [.int (iI z), .int (iI s), .int (iI k)]) rfl rfl rfl rfl dL_shownByLog_7 (fun E ad9 g9 hp => ?_) (fun r ad9 g9 hp => ?_)
  · obtain ⟨hp, rfl, rfl⟩ := hp
    rcases exn_s hp with ⟨hk, he⟩ | hp
    · subst he
      refine XTh.caught C M [] ⟨0, 12, 15, 19⟩ [⟨0, 12, 19, 13⟩, ⟨0, 12, 23, 21⟩] rfl (fun _ h => absurd h List.not_mem_nil) rfl (by decide) lk_19 (List.mem_of_getElem? (i := 2) (by decide +kernel)) (fun q9 => ?_)
      refine X_astore_5 C (by decide) rfl dL_shownByLog_15 ?_
      refine X_iconst C dL_shownByLog_17 ?_
      have hw := pW_no (V := vL Y ((iI (cOn τ z s k)).toInt64)) (C := τ) (τ := τ) (σ := σ) (ad := ad9) ho (show kPag τ z s k 32 = 1 by omega) (by decide)
      rw [mQ_sm] at hw
      exact X_iretW C M rfl (by decide) (by decide) dL_shownByLog_18 hw
    rcases exn_s hp with ⟨hk, he⟩ | hp
    · subst he
      refine XTh.caught C M [⟨0, 12, 15, 19⟩] ⟨0, 12, 19, 13⟩ [⟨0, 12, 23, 21⟩] rfl (List.forall_mem_cons.mpr ⟨⟨by decide, _, lk_19, List.mem_of_getElem? (i := 5) (by decide +kernel)⟩, fun _ h => absurd h List.not_mem_nil⟩) rfl (by decide) lk_13 (List.mem_of_getElem? (i := 0) (by decide +kernel)) (fun q9 => ?_)
      refine X_astore_5 C (by decide) rfl dL_shownByLog_19 ?_
      refine X_iconst C dL_shownByLog_21 ?_
      have hw := pW_no (V := vL Y ((iI (cOn τ z s k)).toInt64)) (C := τ) (τ := τ) (σ := σ) (ad := ad9) ho (show kPag τ z s k 32 = 2 by omega) (by decide)
      rw [mQ_sm] at hw
      exact X_iretW C M rfl (by decide) (by decide) dL_shownByLog_22 hw
    rcases exn_s hp with ⟨hk, he⟩ | hp
    · subst he
      refine XTh.caught C M [⟨0, 12, 15, 19⟩, ⟨0, 12, 19, 13⟩] ⟨0, 12, 23, 21⟩ [] rfl (List.forall_mem_cons.mpr ⟨⟨by decide, _, lk_19, List.mem_of_getElem? (i := 10) (by decide +kernel)⟩, List.forall_mem_cons.mpr ⟨⟨by decide, _, lk_13, List.mem_of_getElem? (i := 11) (by decide +kernel)⟩, fun _ h => absurd h List.not_mem_nil⟩⟩) rfl (by decide) lk_21 (List.mem_of_getElem? (i := 3) (by decide +kernel)) (fun q9 => ?_)
      refine X_astore_5 C (by decide) rfl dL_shownByLog_23 ?_
      refine X_iconst C dL_shownByLog_25 ?_
      have hw := pW_no (V := vL Y ((iI (cOn τ z s k)).toInt64)) (C := τ) (τ := τ) (σ := σ) (ad := ad9) ho (show kPag τ z s k 32 = 3 by omega) (by decide)
      rw [mQ_sm] at hw
      exact X_iretW C M rfl (by decide) (by decide) dL_shownByLog_26 hw
    · exact (exn_nil hp).elim
  · obtain ⟨hk, rfl, rfl, rfl⟩ := hp
    refine X_i2lR C dL_shownByLog_10 ?_
    refine X_last C ((jG_at (by decide)).trans hfo) (by decide) (by decide) (by decide) dL_shownByLog_11 ?_
    rw [jG_rho (by decide)]
    refine X_goto (tgt := 27) C dL_shownByLog_12 rfl ?_
    refine X_iconst C dL_shownByLog_27 ?_
    have hw := pW_L (x := (iI (cOn τ z s k)).toInt64) (C := τ) (τ := τ) (σ := σ) (f := fo) (ad := ad9) (ad2 := ad9) ho hk xKp_rf
    rw [mQ_sm] at hw
    exact X_iretW C M rfl (by decide) (by decide) dL_shownByLog_28 hw
theorem w_supply {lc : Launch} (hlc : lc.stackTraces = false) {D : va_G} {Y : Nat → ClassId} {A : Nat → Prop} {τ σ : xS} {ρ : xG} {ad : xL} {n a b : Int} (I : xI n τ) (hz0 : rg a) (hz1 : rg b) (ho : oK Y ρ) : CtW lc yL_supply cL_supply 5 (some .int) [(0, 10, 13, 23), (0, 10, 17, 13)] (rmL 8 12 224) D Y A ad (jG Y τ σ ρ ad) [.ref (ad 0 0), .int (iI a), .int (iI b), .ref (ad 61 0)] (pW Y (kSup τ a b) (vL Y ((iI (τ 33 0 0 + a)).toInt64)) (mQ (kSup τ a b) (supS τ a b) τ) σ ad) := by
  refine CtW_of hlc (by decide +kernel) rfl (own := RL) (l0 := [some (.ref (ad 0 0)), some (.int (iI a)), some (.int (iI b)), some (.ref (ad 61 0)), none]) rfl (Nat.le_of_ble_eq_true rfl) (fun κ C M => ?_)
  obtain ⟨fo, hfo⟩ := ho.1
  refine X_aload_n C rfl dL_supply_0 ?_
  refine X_iconst C dL_supply_1 ?_
  refine X_aload_n C rfl dL_supply_2 ?_
  refine X_iload_n C rfl dL_supply_3 ?_
  refine X_iload_n C rfl dL_supply_4 ?_
  refine X_callVg C (c_X8_supply C.hlc I hz0 hz1) cv_L_82 (jG_0 rfl) ⟨_, _, rfl⟩ (As := [.int (iI a), .int (iI b)]) rfl rfl rfl rfl dL_supply_5 (fun E ad9 g9 hp => ?_) (fun r ad9 g9 hp => ?_)
  · obtain ⟨hp, rfl, rfl⟩ := hp
    rcases exn_s hp with ⟨hk, he⟩ | hp
    · subst he
      refine XTh.caught C M [] ⟨0, 10, 13, 23⟩ [⟨0, 10, 17, 13⟩] rfl (fun _ h => absurd h List.not_mem_nil) rfl (by decide) lk_23 (List.mem_of_getElem? (i := 4) (by decide +kernel)) (fun q9 => ?_)
      refine X_astore_4 C (by decide) rfl dL_supply_13 ?_
      refine X_iconst C dL_supply_15 ?_
      exact X_iretW C M rfl (by decide) (by decide) dL_supply_16 (pW_no ho (by omega) (by decide))
    rcases exn_s hp with ⟨hk, he⟩ | hp
    · subst he
      refine XTh.caught C M [⟨0, 10, 13, 23⟩] ⟨0, 10, 17, 13⟩ [] rfl (List.forall_mem_cons.mpr ⟨⟨by decide, _, lk_23, List.mem_of_getElem? (i := 7) (by decide +kernel)⟩, fun _ h => absurd h List.not_mem_nil⟩) rfl (by decide) lk_13 (List.mem_of_getElem? (i := 0) (by decide +kernel)) (fun q9 => ?_)
      refine X_astore_4 C (by decide) rfl dL_supply_17 ?_
      refine X_iconst C dL_supply_19 ?_
      exact X_iretW C M rfl (by decide) (by decide) dL_supply_20 (pW_no ho (by omega) (by decide))
    · exact (exn_nil hp).elim
  · obtain ⟨hk, rfl, rfl, rfl⟩ := hp
    refine X_i2lR C dL_supply_8 ?_
    refine X_last C ((jG_at (by decide)).trans hfo) (by decide) (by decide) (by decide) dL_supply_9 ?_
    rw [jG_rho (by decide)]
    refine X_goto (tgt := 21) C dL_supply_10 rfl ?_
    refine X_iconst C dL_supply_21 ?_
    have hw := pW_L (x := (iI (τ 33 0 0 + a)).toInt64) (C := (supS τ a b)) (τ := τ) (σ := σ) (f := fo) (ad := ad9) (ad2 := ad9) ho hk xKp_rf
    exact X_iretW C M rfl (by decide) (by decide) dL_supply_22 hw
theorem w_order {lc : Launch} (hlc : lc.stackTraces = false) {D : va_G} {Y : Nat → ClassId} {A : Nat → Prop} {τ σ : xS} {ρ : xG} {ad : xL} {n z c u : Int} (I : xI n τ) (hz0 : rg z) (hz1 : rg c) (hz2 : rg u) (ho : oK Y ρ) : CtW lc yL_order cL_order 6 (some .int) [(0, 12, 15, 19), (0, 12, 19, 23), (0, 12, 23, 13), (0, 12, 27, 25)] (rmL 8 12 224) D Y A ad (jG Y τ σ ρ ad) [.ref (ad 0 0), .int (iI z), .int (iI c), .int (iI u), .ref (ad 61 0)] (pW Y (kOrd τ z c u) (vL Y ((iI (τ 32 0 0)).toInt64)) (mQ (kOrd τ z c u) (ordS τ z c u) τ) σ ad) := by
  refine CtW_of hlc (by decide +kernel) rfl (own := RL) (l0 := [some (.ref (ad 0 0)), some (.int (iI z)), some (.int (iI c)), some (.int (iI u)), some (.ref (ad 61 0)), none]) rfl (Nat.le_of_ble_eq_true rfl) (fun κ C M => ?_)
  obtain ⟨fo, hfo⟩ := ho.1
  refine X_aload C rfl dL_order_0 ?_
  refine X_iconst C dL_order_2 ?_
  refine X_aload_n C rfl dL_order_3 ?_
  refine X_iload_n C rfl dL_order_4 ?_
  refine X_iload_n C rfl dL_order_5 ?_
  refine X_iload_n C rfl dL_order_6 ?_
  refine X_callVg C (c_X8_order C.hlc I hz0 hz1 hz2) cv_L_85 (jG_0 rfl) ⟨_, _, rfl⟩ (As := [.int (iI z), .int (iI c), .int (iI u)]) rfl rfl rfl rfl dL_order_7 (fun E ad9 g9 hp => ?_) (fun r ad9 g9 hp => ?_)
  · obtain ⟨hp, rfl, rfl⟩ := hp
    rcases exn_s hp with ⟨hk, he⟩ | hp
    · subst he
      refine XTh.caught C M [] ⟨0, 12, 15, 19⟩ [⟨0, 12, 19, 23⟩, ⟨0, 12, 23, 13⟩, ⟨0, 12, 27, 25⟩] rfl (fun _ h => absurd h List.not_mem_nil) rfl (by decide) lk_19 (List.mem_of_getElem? (i := 2) (by decide +kernel)) (fun q9 => ?_)
      refine X_astore_5 C (by decide) rfl dL_order_15 ?_
      refine X_iconst C dL_order_17 ?_
      exact X_iretW C M rfl (by decide) (by decide) dL_order_18 (pW_no ho (by omega) (by decide))
    rcases exn_s hp with ⟨hk, he⟩ | hp
    · subst he
      refine XTh.caught C M [⟨0, 12, 15, 19⟩] ⟨0, 12, 19, 23⟩ [⟨0, 12, 23, 13⟩, ⟨0, 12, 27, 25⟩] rfl (List.forall_mem_cons.mpr ⟨⟨by decide, _, lk_19, List.mem_of_getElem? (i := 15) (by decide +kernel)⟩, fun _ h => absurd h List.not_mem_nil⟩) rfl (by decide) lk_23 (List.mem_of_getElem? (i := 4) (by decide +kernel)) (fun q9 => ?_)
      refine X_astore_5 C (by decide) rfl dL_order_19 ?_
      refine X_iconst C dL_order_21 ?_
      exact X_iretW C M rfl (by decide) (by decide) dL_order_22 (pW_no ho (by omega) (by decide))
    rcases exn_s hp with ⟨hk, he⟩ | hp
    · subst he
      refine XTh.caught C M [⟨0, 12, 15, 19⟩, ⟨0, 12, 19, 23⟩] ⟨0, 12, 23, 13⟩ [⟨0, 12, 27, 25⟩] rfl (List.forall_mem_cons.mpr ⟨⟨by decide, _, lk_19, List.mem_of_getElem? (i := 5) (by decide +kernel)⟩, List.forall_mem_cons.mpr ⟨⟨by decide, _, lk_23, List.mem_of_getElem? (i := 7) (by decide +kernel)⟩, fun _ h => absurd h List.not_mem_nil⟩⟩) rfl (by decide) lk_13 (List.mem_of_getElem? (i := 0) (by decide +kernel)) (fun q9 => ?_)
      refine X_astore_5 C (by decide) rfl dL_order_23 ?_
      refine X_iconst C dL_order_25 ?_
      exact X_iretW C M rfl (by decide) (by decide) dL_order_26 (pW_no ho (by omega) (by decide))
    rcases exn_s hp with ⟨hk, he⟩ | hp
    · subst he
      refine XTh.caught C M [⟨0, 12, 15, 19⟩, ⟨0, 12, 19, 23⟩, ⟨0, 12, 23, 13⟩] ⟨0, 12, 27, 25⟩ [] rfl (List.forall_mem_cons.mpr ⟨⟨by decide, _, lk_19, List.mem_of_getElem? (i := 20) (by decide +kernel)⟩, List.forall_mem_cons.mpr ⟨⟨by decide, _, lk_23, List.mem_of_getElem? (i := 23) (by decide +kernel)⟩, List.forall_mem_cons.mpr ⟨⟨by decide, _, lk_13, List.mem_of_getElem? (i := 21) (by decide +kernel)⟩, fun _ h => absurd h List.not_mem_nil⟩⟩⟩) rfl (by decide) lk_25 (List.mem_of_getElem? (i := 5) (by decide +kernel)) (fun q9 => ?_)
      refine X_astore_5 C (by decide) rfl dL_order_27 ?_
      refine X_iconst C dL_order_29 ?_
      exact X_iretW C M rfl (by decide) (by decide) dL_order_30 (pW_no ho (by omega) (by decide))
    · exact (exn_nil hp).elim
  · obtain ⟨hk, rfl, hkp, rfl⟩ := hp
    refine X_i2lR C dL_order_10 ?_
    rw [show ad 61 0 = ad9 61 0 from (hkp 61 0 (by omega)).symm]
    refine X_last C ((jG_at (by decide)).trans hfo) (by decide) (by decide) (by decide) dL_order_11 ?_
    rw [jG_rho (by decide)]
    refine X_goto (tgt := 31) C dL_order_12 rfl ?_
    refine X_iconst C dL_order_31 ?_
    have hw := pW_L (x := (iI (τ 32 0 0)).toInt64) (C := (ordS τ z c u)) (τ := τ) (σ := σ) (f := fo) (ad := ad) (ad2 := ad9) ho hk hkp
    exact X_iretW C M rfl (by decide) (by decide) dL_order_32 hw
theorem w_needs {lc : Launch} (hlc : lc.stackTraces = false) {D : va_G} {Y : Nat → ClassId} {A : Nat → Prop} {τ σ : xS} {ρ : xG} {ad : xL} {n z : Int} (I : xI n τ) (hz0 : rg z) (ho : oK Y ρ) : CtW lc yL_needs cL_needs 4 (some .int) [(0, 9, 12, 19)] (rmL 8 12 224) D Y A ad (jG Y τ σ ρ ad) [.ref (ad 0 0), .int (iI z), .ref (ad 61 0)] (pW Y (kOdr τ z) (vL Y ((iI (ndA τ z)).toInt64)) τ σ ad) := by
  refine CtW_of hlc (by decide +kernel) rfl (own := RL) (l0 := [some (.ref (ad 0 0)), some (.int (iI z)), some (.ref (ad 61 0)), none]) rfl (Nat.le_of_ble_eq_true rfl) (fun κ C M => ?_)
  obtain ⟨fo, hfo⟩ := ho.1
  refine X_aload_n C rfl dL_needs_0 ?_
  refine X_iconst C dL_needs_1 ?_
  refine X_aload_n C rfl dL_needs_2 ?_
  refine X_iload_n C rfl dL_needs_3 ?_
  refine X_callVg C (c_X8_needs C.hlc I hz0) cv_L_88 (jG_0 rfl) ⟨_, _, rfl⟩ (As := [.int (iI z)]) rfl rfl rfl rfl dL_needs_4 (fun E ad9 g9 hp => ?_) (fun r ad9 g9 hp => ?_)
  · obtain ⟨hp, rfl, rfl⟩ := hp
    rcases exn_s hp with ⟨hk, he⟩ | hp
    · subst he
      refine XTh.caught C M [] ⟨0, 9, 12, 19⟩ [] rfl (fun _ h => absurd h List.not_mem_nil) rfl (by decide) lk_19 (List.mem_of_getElem? (i := 2) (by decide +kernel)) (fun q9 => ?_)
      refine X_astore_3 C (by decide) rfl dL_needs_12 ?_
      refine X_iconst C dL_needs_13 ?_
      have hw := pW_no (V := vL Y ((iI (ndA τ z)).toInt64)) (C := τ) (τ := τ) (σ := σ) (ad := ad9) ho (show kOdr τ z = 1 by omega) (by decide)
      rw [mQ_sm] at hw
      exact X_iretW C M rfl (by decide) (by decide) dL_needs_14 hw
    · exact (exn_nil hp).elim
  · obtain ⟨hk, rfl, rfl, rfl⟩ := hp
    refine X_i2lR C dL_needs_7 ?_
    refine X_last C ((jG_at (by decide)).trans hfo) (by decide) (by decide) (by decide) dL_needs_8 ?_
    rw [jG_rho (by decide)]
    refine X_goto (tgt := 15) C dL_needs_9 rfl ?_
    refine X_iconst C dL_needs_15 ?_
    have hw := pW_L (x := (iI (ndA τ z)).toInt64) (C := τ) (τ := τ) (σ := σ) (f := fo) (ad := ad9) (ad2 := ad9) ho hk xKp_rf
    rw [mQ_sm] at hw
    exact X_iretW C M rfl (by decide) (by decide) dL_needs_16 hw
theorem w_stateOf {lc : Launch} (hlc : lc.stackTraces = false) {D : va_G} {Y : Nat → ClassId} {A : Nat → Prop} {τ σ : xS} {ρ : xG} {ad : xL} {n z s : Int} (I : xI n τ) (hz0 : rg z) (hz1 : rg s) (ho : oK Y ρ) : CtW lc yL_stateOf cL_stateOf 5 (some .int) [(0, 10, 13, 19), (0, 10, 17, 21)] (rmL 8 12 224) D Y A ad (jG Y τ σ ρ ad) [.ref (ad 0 0), .int (iI z), .int (iI s), .ref (ad 61 0)] (pW Y (kSta τ z s) (vL Y ((iI (stA τ z s)).toInt64)) τ σ ad) := by
  refine CtW_of hlc (by decide +kernel) rfl (own := RL) (l0 := [some (.ref (ad 0 0)), some (.int (iI z)), some (.int (iI s)), some (.ref (ad 61 0)), none]) rfl (Nat.le_of_ble_eq_true rfl) (fun κ C M => ?_)
  obtain ⟨fo, hfo⟩ := ho.1
  refine X_aload_n C rfl dL_stateOf_0 ?_
  refine X_iconst C dL_stateOf_1 ?_
  refine X_aload_n C rfl dL_stateOf_2 ?_
  refine X_iload_n C rfl dL_stateOf_3 ?_
  refine X_iload_n C rfl dL_stateOf_4 ?_
  refine X_callVg C (c_X8_stateOf C.hlc I hz0 hz1) cv_L_91 (jG_0 rfl) ⟨_, _, rfl⟩ (As := [.int (iI z), .int (iI s)]) rfl rfl rfl rfl dL_stateOf_5 (fun E ad9 g9 hp => ?_) (fun r ad9 g9 hp => ?_)
  · obtain ⟨hp, rfl, rfl⟩ := hp
    rcases exn_s hp with ⟨hk, he⟩ | hp
    · subst he
      refine XTh.caught C M [] ⟨0, 10, 13, 19⟩ [⟨0, 10, 17, 21⟩] rfl (fun _ h => absurd h List.not_mem_nil) rfl (by decide) lk_19 (List.mem_of_getElem? (i := 2) (by decide +kernel)) (fun q9 => ?_)
      refine X_astore_4 C (by decide) rfl dL_stateOf_13 ?_
      refine X_iconst C dL_stateOf_15 ?_
      have hw := pW_no (V := vL Y ((iI (stA τ z s)).toInt64)) (C := τ) (τ := τ) (σ := σ) (ad := ad9) ho (show kSta τ z s = 1 by omega) (by decide)
      rw [mQ_sm] at hw
      exact X_iretW C M rfl (by decide) (by decide) dL_stateOf_16 hw
    rcases exn_s hp with ⟨hk, he⟩ | hp
    · subst he
      refine XTh.caught C M [⟨0, 10, 13, 19⟩] ⟨0, 10, 17, 21⟩ [] rfl (List.forall_mem_cons.mpr ⟨⟨by decide, _, lk_19, List.mem_of_getElem? (i := 10) (by decide +kernel)⟩, fun _ h => absurd h List.not_mem_nil⟩) rfl (by decide) lk_21 (List.mem_of_getElem? (i := 3) (by decide +kernel)) (fun q9 => ?_)
      refine X_astore_4 C (by decide) rfl dL_stateOf_17 ?_
      refine X_iconst C dL_stateOf_19 ?_
      have hw := pW_no (V := vL Y ((iI (stA τ z s)).toInt64)) (C := τ) (τ := τ) (σ := σ) (ad := ad9) ho (show kSta τ z s = 2 by omega) (by decide)
      rw [mQ_sm] at hw
      exact X_iretW C M rfl (by decide) (by decide) dL_stateOf_20 hw
    · exact (exn_nil hp).elim
  · obtain ⟨hk, rfl, rfl, rfl⟩ := hp
    refine X_i2lR C dL_stateOf_8 ?_
    refine X_last C ((jG_at (by decide)).trans hfo) (by decide) (by decide) (by decide) dL_stateOf_9 ?_
    rw [jG_rho (by decide)]
    refine X_goto (tgt := 21) C dL_stateOf_10 rfl ?_
    refine X_iconst C dL_stateOf_21 ?_
    have hw := pW_L (x := (iI (stA τ z s)).toInt64) (C := τ) (τ := τ) (σ := σ) (f := fo) (ad := ad9) (ad2 := ad9) ho hk xKp_rf
    rw [mQ_sm] at hw
    exact X_iretW C M rfl (by decide) (by decide) dL_stateOf_22 hw
theorem w_isDone {lc : Launch} (hlc : lc.stackTraces = false) {D : va_G} {Y : Nat → ClassId} {A : Nat → Prop} {τ σ : xS} {ρ : xG} {ad : xL} {n z : Int} (I : xI n τ) (hz0 : rg z) (ho : oK Y ρ) : CtW lc yL_isDone cL_isDone 4 (some .int) [(0, 16, 19, 19)] (rmL 8 12 224) D Y A ad (jG Y τ σ ρ ad) [.ref (ad 0 0), .int (iI z), .ref (ad 61 0)] (pW Y (kOdr τ z) (vL Y (lI (if (bI (alA τ z)) = 0 then 0 else 1))) τ σ ad) := by
  refine CtW_of hlc (by decide +kernel) rfl (own := RL) (l0 := [some (.ref (ad 0 0)), some (.int (iI z)), some (.ref (ad 61 0)), none]) rfl (Nat.le_of_ble_eq_true rfl) (fun κ C M => ?_)
  obtain ⟨fo, hfo⟩ := ho.1
  refine X_aload_n C rfl dL_isDone_0 ?_
  refine X_iconst C dL_isDone_1 ?_
  refine X_aload_n C rfl dL_isDone_2 ?_
  refine X_iload_n C rfl dL_isDone_3 ?_
  refine X_callVg C (c_X8_isDone C.hlc I hz0) cv_L_95 (jG_0 rfl) ⟨_, _, rfl⟩ (As := [.int (iI z)]) rfl rfl rfl rfl dL_isDone_4 (fun E ad9 g9 hp => ?_) (fun r ad9 g9 hp => ?_)
  · obtain ⟨hp, rfl, rfl⟩ := hp
    rcases exn_s hp with ⟨hk, he⟩ | hp
    · subst he
      refine XTh.caught C M [] ⟨0, 16, 19, 19⟩ [] rfl (fun _ h => absurd h List.not_mem_nil) rfl (by decide) lk_19 (List.mem_of_getElem? (i := 2) (by decide +kernel)) (fun q9 => ?_)
      refine X_astore_3 C (by decide) rfl dL_isDone_19 ?_
      refine X_iconst C dL_isDone_20 ?_
      have hw := pW_no (V := vL Y (lI (if (bI (alA τ z)) = 0 then 0 else 1))) (C := τ) (τ := τ) (σ := σ) (ad := ad9) ho (show kOdr τ z = 1 by omega) (by decide)
      rw [mQ_sm] at hw
      exact X_iretW C M rfl (by decide) (by decide) dL_isDone_21 hw
    · exact (exn_nil hp).elim
  · obtain ⟨hk, rfl, rfl, rfl⟩ := hp
    refine X_if_eq (tgt := 14) C dL_isDone_7 rfl (bI_rg _) (fun h0 => ?_) (fun h0 => ?_)
    · refine X_lconst (v := 0) C rfl dL_isDone_14 ?_
      have e0 : lI 0 = lI (if (bI (alA τ z)) = 0 then 0 else 1) := by rw [if_pos h0]
      rw [e0]
      refine X_last C ((jG_at (by decide)).trans hfo) (by decide) (by decide) (by decide) dL_isDone_15 ?_
      rw [jG_rho (by decide)]
      refine X_goto (tgt := 22) C dL_isDone_16 rfl ?_
      refine X_iconst C dL_isDone_22 ?_
      have hw := pW_L (x := lI (if (bI (alA τ z)) = 0 then 0 else 1)) (C := τ) (τ := τ) (σ := σ) (f := fo) (ad := ad9) (ad2 := ad9) ho hk xKp_rf
      rw [mQ_sm] at hw
      exact X_iretW C M rfl (by decide) (by decide) dL_isDone_23 hw
    · refine X_lconst (v := 1) C rfl dL_isDone_10 ?_
      refine X_goto (tgt := 15) C dL_isDone_11 rfl ?_
      have e0 : lI 1 = lI (if (bI (alA τ z)) = 0 then 0 else 1) := by rw [if_neg h0]
      rw [e0]
      refine X_last C ((jG_at (by decide)).trans hfo) (by decide) (by decide) (by decide) dL_isDone_15 ?_
      rw [jG_rho (by decide)]
      refine X_goto (tgt := 22) C dL_isDone_16 rfl ?_
      refine X_iconst C dL_isDone_22 ?_
      have hw := pW_L (x := lI (if (bI (alA τ z)) = 0 then 0 else 1)) (C := τ) (τ := τ) (σ := σ) (f := fo) (ad := ad9) (ad2 := ad9) ho hk xKp_rf
      rw [mQ_sm] at hw
      exact X_iretW C M rfl (by decide) (by decide) dL_isDone_23 hw
