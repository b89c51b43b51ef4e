/-! the law's methods, 3 -/
theorem w_lateBy {lc : Launch} (hlc : lc.stackTraces = false) {D : va_G} {Y : Nat → ClassId} {A : Nat → Prop} {τ σ : xS} {ρ : xG} {ad : xL} {n z : Int} (I : xI n τ) (hz0 : rg z) (ho : oK Y ρ) : CtW lc yL_lateBy cL_lateBy 4 (some .int) [(0, 9, 12, 19)] (rmL 8 12 224) D Y A ad (jG Y τ σ ρ ad) [.ref (ad 0 0), .int (iI z), .ref (ad 61 0)] (pW Y (kOdr τ z) (vL Y ((iI (ltA τ z)).toInt64)) τ σ ad) := by
  refine CtW_of hlc (by decide +kernel) rfl (own := RL) (l0 := [some (.ref (ad 0 0)), some (.int (iI z)), some (.ref (ad 61 0)), none]) rfl (Nat.le_of_ble_eq_true rfl) (fun κ C M => ?_)
  obtain ⟨fo, hfo⟩ := ho.1
  refine X_aload_n C rfl dL_lateBy_0 ?_
  refine X_iconst C dL_lateBy_1 ?_
  refine X_aload_n C rfl dL_lateBy_2 ?_
  refine X_iload_n C rfl dL_lateBy_3 ?_
  refine X_callVg C (c_X8_lateBy C.hlc I hz0) cv_L_98 (jG_0 rfl) ⟨_, _, rfl⟩ (As := [.int (iI z)]) rfl rfl rfl rfl dL_lateBy_4 (fun E ad9 g9 hp => ?_) (fun r ad9 g9 hp => ?_)
  · obtain ⟨hp, rfl, rfl⟩ := hp
    rcases exn_s hp with ⟨hk, he⟩ | hp
    · subst he
      refine XTh.caught C M [] ⟨0, 9, 12, 19⟩ [] rfl (fun _ h => absurd h List.not_mem_nil) rfl (by decide) lk_19 (List.mem_of_getElem? (i := 2) (by decide +kernel)) (fun q9 => ?_)
      refine X_astore_3 C (by decide) rfl dL_lateBy_12 ?_
      refine X_iconst C dL_lateBy_13 ?_
      have hw := pW_no (V := vL Y ((iI (ltA τ z)).toInt64)) (C := τ) (τ := τ) (σ := σ) (ad := ad9) ho (show kOdr τ z = 1 by omega) (by decide)
      rw [mQ_sm] at hw
      exact X_iretW C M rfl (by decide) (by decide) dL_lateBy_14 hw
    · exact (exn_nil hp).elim
  · obtain ⟨hk, rfl, rfl, rfl⟩ := hp
    refine X_i2lR C dL_lateBy_7 ?_
    refine X_last C ((jG_at (by decide)).trans hfo) (by decide) (by decide) (by decide) dL_lateBy_8 ?_
    rw [jG_rho (by decide)]
    refine X_goto (tgt := 15) C dL_lateBy_9 rfl ?_
    refine X_iconst C dL_lateBy_15 ?_
    have hw := pW_L (x := (iI (ltA τ z)).toInt64) (C := τ) (τ := τ) (σ := σ) (f := fo) (ad := ad9) (ad2 := ad9) ho hk xKp_rf
    rw [mQ_sm] at hw
    exact X_iretW C M rfl (by decide) (by decide) dL_lateBy_16 hw
theorem w_nextOrder {lc : Launch} (hlc : lc.stackTraces = false) {D : va_G} {Y : Nat → ClassId} {A : Nat → Prop} {τ σ : xS} {ρ : xG} {ad : xL} {n : Int} (I : xI n τ) (ho : oK Y ρ) : CtW lc yL_nextOrder cL_nextOrder 3 (some .int) [(0, 8, 11, 13)] (rmL 8 12 224) D Y A ad (jG Y τ σ ρ ad) [.ref (ad 0 0), .ref (ad 61 0)] (pW Y (kNxo τ) (vL Y ((iI (nxA τ (τ 32 0 0))).toInt64)) τ σ ad) := by
  refine CtW_of hlc (by decide +kernel) rfl (own := RL) (l0 := [some (.ref (ad 0 0)), some (.ref (ad 61 0)), none]) rfl (Nat.le_of_ble_eq_true rfl) (fun κ C M => ?_)
  obtain ⟨fo, hfo⟩ := ho.1
  refine X_aload_n C rfl dL_nextOrder_0 ?_
  refine X_iconst C dL_nextOrder_1 ?_
  refine X_aload_n C rfl dL_nextOrder_2 ?_
  refine X_callVg C (c_X8_nextOrder C.hlc I) cv_L_101 (jG_0 rfl) ⟨_, _, rfl⟩ (As := []) rfl rfl rfl rfl dL_nextOrder_3 (fun E ad9 g9 hp => ?_) (fun r ad9 g9 hp => ?_)
  · obtain ⟨hp, rfl, rfl⟩ := hp
    rcases exn_s hp with ⟨hk, he⟩ | hp
    · subst he
      refine XTh.caught C M [] ⟨0, 8, 11, 13⟩ [] rfl (fun _ h => absurd h List.not_mem_nil) rfl (by decide) lk_13 (List.mem_of_getElem? (i := 0) (by decide +kernel)) (fun q9 => ?_)
      refine X_astore_2 C (by decide) rfl dL_nextOrder_11 ?_
      refine X_iconst C dL_nextOrder_12 ?_
      have hw := pW_no (V := vL Y ((iI (nxA τ (τ 32 0 0))).toInt64)) (C := τ) (τ := τ) (σ := σ) (ad := ad9) ho (show kNxo τ = 1 by omega) (by decide)
      rw [mQ_sm] at hw
      exact X_iretW C M rfl (by decide) (by decide) dL_nextOrder_13 hw
    · exact (exn_nil hp).elim
  · obtain ⟨hk, rfl, rfl, rfl⟩ := hp
    refine X_i2lR C dL_nextOrder_6 ?_
    refine X_last C ((jG_at (by decide)).trans hfo) (by decide) (by decide) (by decide) dL_nextOrder_7 ?_
    rw [jG_rho (by decide)]
    refine X_goto (tgt := 14) C dL_nextOrder_8 rfl ?_
    refine X_iconst C dL_nextOrder_14 ?_
    have hw := pW_L (x := (iI (nxA τ (τ 32 0 0))).toInt64) (C := τ) (τ := τ) (σ := σ) (f := fo) (ad := ad9) (ad2 := ad9) ho hk xKp_rf
    rw [mQ_sm] at hw
    exact X_iretW C M rfl (by decide) (by decide) dL_nextOrder_15 hw
theorem w_nextSheet {lc : Launch} (hlc : lc.stackTraces = false) {D : va_G} {Y : Nat → ClassId} {A : Nat → Prop} {τ σ : xS} {ρ : xG} {ad : xL} {n z : Int} (I : xI n τ) (hz : rg z) (ho : oK Y ρ) : CtW lc yL_nextSheet cL_nextSheet 4 (some .int) [(0, 9, 12, 19), (0, 9, 15, 13)] (rmL 8 12 224) D Y A ad (jG Y τ σ ρ ad) [.ref (ad 0 0), .int (iI z), .ref (ad 61 0)] (pW Y (kNxs τ z) (vL Y ((iI (nsA τ z)).toInt64)) τ σ ad) := by
  refine CtW_of hlc (by decide +kernel) rfl (own := RL) (l0 := [some (.ref (ad 0 0)), some (.int (iI z)), some (.ref (ad 61 0)), none]) rfl (Nat.le_of_ble_eq_true rfl) (fun κ C M => ?_)
  obtain ⟨fo, hfo⟩ := ho.1
  refine X_aload_n C rfl dL_nextSheet_0 ?_
  refine X_iconst C dL_nextSheet_1 ?_
  refine X_aload_n C rfl dL_nextSheet_2 ?_
  refine X_iload_n C rfl dL_nextSheet_3 ?_
  refine X_callVg C (c_X8_nextSheet C.hlc I hz) cv_L_104 (jG_0 rfl) ⟨_, _, rfl⟩ (As := [.int (iI z)]) rfl rfl rfl rfl dL_nextSheet_4 (fun E ad9 g9 hp => ?_) (fun r ad9 g9 hp => ?_)
  · obtain ⟨hp, rfl, rfl⟩ := hp
    rcases exn_s hp with ⟨hk, he⟩ | hp
    · subst he
      refine XTh.caught C M [] ⟨0, 9, 12, 19⟩ [⟨0, 9, 15, 13⟩] rfl (fun _ h => absurd h List.not_mem_nil) rfl (by decide) lk_19 (List.mem_of_getElem? (i := 2) (by decide +kernel)) (fun q9 => ?_)
      refine X_astore_3 C (by decide) rfl dL_nextSheet_12 ?_
      refine X_iconst C dL_nextSheet_13 ?_
      have hw := pW_no (V := vL Y ((iI (nsA τ z)).toInt64)) (C := τ) (τ := τ) (σ := σ) (ad := ad9) ho (show kNxs τ z = 1 by omega) (by decide)
      rw [mQ_sm] at hw
      exact X_iretW C M rfl (by decide) (by decide) dL_nextSheet_14 hw
    rcases exn_s hp with ⟨hk, he⟩ | hp
    · subst he
      refine XTh.caught C M [⟨0, 9, 12, 19⟩] ⟨0, 9, 15, 13⟩ [] rfl (List.forall_mem_cons.mpr ⟨⟨by decide, _, lk_19, List.mem_of_getElem? (i := 5) (by decide +kernel)⟩, fun _ h => absurd h List.not_mem_nil⟩) rfl (by decide) lk_13 (List.mem_of_getElem? (i := 0) (by decide +kernel)) (fun q9 => ?_)
      refine X_astore_3 C (by decide) rfl dL_nextSheet_15 ?_
      refine X_iconst C dL_nextSheet_16 ?_
      have hw := pW_no (V := vL Y ((iI (nsA τ z)).toInt64)) (C := τ) (τ := τ) (σ := σ) (ad := ad9) ho (show kNxs τ z = 2 by omega) (by decide)
      rw [mQ_sm] at hw
      exact X_iretW C M rfl (by decide) (by decide) dL_nextSheet_17 hw
    · exact (exn_nil hp).elim
  · obtain ⟨hk, rfl, rfl, rfl⟩ := hp
    refine X_i2lR C dL_nextSheet_7 ?_
    refine X_last C ((jG_at (by decide)).trans hfo) (by decide) (by decide) (by decide) dL_nextSheet_8 ?_
    rw [jG_rho (by decide)]
    refine X_goto (tgt := 18) C dL_nextSheet_9 rfl ?_
    refine X_iconst C dL_nextSheet_18 ?_
    have hw := pW_L (x := (iI (nsA τ z)).toInt64) (C := τ) (τ := τ) (σ := σ) (f := fo) (ad := ad9) (ad2 := ad9) ho hk xKp_rf
    rw [mQ_sm] at hw
    exact X_iretW C M rfl (by decide) (by decide) dL_nextSheet_19 hw
theorem w_print {lc : Launch} (hlc : lc.stackTraces = false) {D : va_G} {Y : Nat → ClassId} {A : Nat → Prop} {τ σ : xS} {ρ : xG} {ad : xL} {n z s : Int} (I : xI n τ) (hz0 : rg z) (hz1 : rg s) (ho : oK Y ρ) : CtW lc yL_print cL_print 5 (some .int) [(0, 10, 13, 19), (0, 10, 17, 21), (0, 10, 21, 13), (0, 10, 25, 25)] (rmL 8 12 224) D Y A ad (jG Y τ σ ρ ad) [.ref (ad 0 0), .int (iI z), .int (iI s), .ref (ad 61 0)] (pW Y (kPrt τ z s) (vL Y ((iI (prH τ z)).toInt64)) (mQ (kPrt τ z s) (prtS τ z s) τ) σ ad) := by
  refine CtW_of hlc (by decide +kernel) rfl (own := RL) (l0 := [some (.ref (ad 0 0)), some (.int (iI z)), some (.int (iI s)), some (.ref (ad 61 0)), none]) rfl (Nat.le_of_ble_eq_true rfl) (fun κ C M => ?_)
  obtain ⟨fo, hfo⟩ := ho.1
  refine X_aload_n C rfl dL_print_0 ?_
  refine X_iconst C dL_print_1 ?_
  refine X_aload_n C rfl dL_print_2 ?_
  refine X_iload_n C rfl dL_print_3 ?_
  refine X_iload_n C rfl dL_print_4 ?_
  refine X_callVg C (c_X8_print C.hlc I hz0 hz1) cv_L_107 (jG_0 rfl) ⟨_, _, rfl⟩ (As := [.int (iI z), .int (iI s)]) rfl rfl rfl rfl dL_print_5 (fun E ad9 g9 hp => ?_) (fun r ad9 g9 hp => ?_)
  · obtain ⟨hp, rfl, rfl⟩ := hp
    rcases exn_s hp with ⟨hk, he⟩ | hp
    · subst he
      refine XTh.caught C M [] ⟨0, 10, 13, 19⟩ [⟨0, 10, 17, 21⟩, ⟨0, 10, 21, 13⟩, ⟨0, 10, 25, 25⟩] rfl (fun _ h => absurd h List.not_mem_nil) rfl (by decide) lk_19 (List.mem_of_getElem? (i := 2) (by decide +kernel)) (fun q9 => ?_)
      refine X_astore_4 C (by decide) rfl dL_print_13 ?_
      refine X_iconst C dL_print_15 ?_
      exact X_iretW C M rfl (by decide) (by decide) dL_print_16 (pW_no ho (by omega) (by decide))
    rcases exn_s hp with ⟨hk, he⟩ | hp
    · subst he
      refine XTh.caught C M [⟨0, 10, 13, 19⟩] ⟨0, 10, 17, 21⟩ [⟨0, 10, 21, 13⟩, ⟨0, 10, 25, 25⟩] rfl (List.forall_mem_cons.mpr ⟨⟨by decide, _, lk_19, List.mem_of_getElem? (i := 10) (by decide +kernel)⟩, fun _ h => absurd h List.not_mem_nil⟩) rfl (by decide) lk_21 (List.mem_of_getElem? (i := 3) (by decide +kernel)) (fun q9 => ?_)
      refine X_astore_4 C (by decide) rfl dL_print_17 ?_
      refine X_iconst C dL_print_19 ?_
      exact X_iretW C M rfl (by decide) (by decide) dL_print_20 (pW_no ho (by omega) (by decide))
    rcases exn_s hp with ⟨hk, he⟩ | hp
    · subst he
      refine XTh.caught C M [⟨0, 10, 13, 19⟩, ⟨0, 10, 17, 21⟩] ⟨0, 10, 21, 13⟩ [⟨0, 10, 25, 25⟩] rfl (List.forall_mem_cons.mpr ⟨⟨by decide, _, lk_19, List.mem_of_getElem? (i := 5) (by decide +kernel)⟩, List.forall_mem_cons.mpr ⟨⟨by decide, _, lk_21, List.mem_of_getElem? (i := 6) (by decide +kernel)⟩, fun _ h => absurd h List.not_mem_nil⟩⟩) rfl (by decide) lk_13 (List.mem_of_getElem? (i := 0) (by decide +kernel)) (fun q9 => ?_)
      refine X_astore_4 C (by decide) rfl dL_print_21 ?_
      refine X_iconst C dL_print_23 ?_
      exact X_iretW C M rfl (by decide) (by decide) dL_print_24 (pW_no ho (by omega) (by decide))
    rcases exn_s hp with ⟨hk, he⟩ | hp
    · subst he
      refine XTh.caught C M [⟨0, 10, 13, 19⟩, ⟨0, 10, 17, 21⟩, ⟨0, 10, 21, 13⟩] ⟨0, 10, 25, 25⟩ [] rfl (List.forall_mem_cons.mpr ⟨⟨by decide, _, lk_19, List.mem_of_getElem? (i := 20) (by decide +kernel)⟩, List.forall_mem_cons.mpr ⟨⟨by decide, _, lk_21, List.mem_of_getElem? (i := 22) (by decide +kernel)⟩, List.forall_mem_cons.mpr ⟨⟨by decide, _, lk_13, List.mem_of_getElem? (i := 21) (by decide +kernel)⟩, fun _ h => absurd h List.not_mem_nil⟩⟩⟩) rfl (by decide) lk_25 (List.mem_of_getElem? (i := 5) (by decide +kernel)) (fun q9 => ?_)
      refine X_astore_4 C (by decide) rfl dL_print_25 ?_
      refine X_iconst C dL_print_27 ?_
      exact X_iretW C M rfl (by decide) (by decide) dL_print_28 (pW_no ho (by omega) (by decide))
    · exact (exn_nil hp).elim
  · obtain ⟨hk, rfl, rfl, rfl⟩ := hp
    refine X_i2lR C dL_print_8 ?_
    refine X_last C ((jG_at (by decide)).trans hfo) (by decide) (by decide) (by decide) dL_print_9 ?_
    rw [jG_rho (by decide)]
    refine X_goto (tgt := 29) C dL_print_10 rfl ?_
    refine X_iconst C dL_print_29 ?_
    have hw := pW_L (x := (iI (prH τ z)).toInt64) (C := (prtS τ z s)) (τ := τ) (σ := σ) (f := fo) (ad := ad9) (ad2 := ad9) ho hk xKp_rf
    exact X_iretW C M rfl (by decide) (by decide) dL_print_30 hw
theorem w_pass {lc : Launch} (hlc : lc.stackTraces = false) {D : va_G} {Y : Nat → ClassId} {A : Nat → Prop} {τ σ : xS} {ρ : xG} {ad : xL} {n u : Int} (I : xI n τ) (hz0 : rg u) (ho : oK Y ρ) : CtW lc yL_pass cL_pass 4 (some .int) [(0, 9, 12, 23), (0, 9, 15, 13)] (rmL 8 12 224) D Y A ad (jG Y τ σ ρ ad) [.ref (ad 0 0), .int (iI u), .ref (ad 61 0)] (pW Y (kPas τ u) (vL Y ((iI (pasA τ u)).toInt64)) (mQ (kPas τ u) (pasS τ u) τ) σ ad) := by
  refine CtW_of hlc (by decide +kernel) rfl (own := RL) (l0 := [some (.ref (ad 0 0)), some (.int (iI u)), some (.ref (ad 61 0)), none]) rfl (Nat.le_of_ble_eq_true rfl) (fun κ C M => ?_)
  obtain ⟨fo, hfo⟩ := ho.1
  refine X_aload_n C rfl dL_pass_0 ?_
  refine X_iconst C dL_pass_1 ?_
  refine X_aload_n C rfl dL_pass_2 ?_
  refine X_iload_n C rfl dL_pass_3 ?_
  refine X_callVg C (c_X8_pass C.hlc I hz0) cv_L_110 (jG_0 rfl) ⟨_, _, rfl⟩ (As := [.int (iI u)]) rfl rfl rfl rfl dL_pass_4 (fun E ad9 g9 hp => ?_) (fun r ad9 g9 hp => ?_)
  · obtain ⟨hp, rfl, rfl⟩ := hp
    rcases exn_s hp with ⟨hk, he⟩ | hp
    · subst he
      refine XTh.caught C M [] ⟨0, 9, 12, 23⟩ [⟨0, 9, 15, 13⟩] rfl (fun _ h => absurd h List.not_mem_nil) rfl (by decide) lk_23 (List.mem_of_getElem? (i := 4) (by decide +kernel)) (fun q9 => ?_)
      refine X_astore_3 C (by decide) rfl dL_pass_12 ?_
      refine X_iconst C dL_pass_13 ?_
      exact X_iretW C M rfl (by decide) (by decide) dL_pass_14 (pW_no ho (by omega) (by decide))
    rcases exn_s hp with ⟨hk, he⟩ | hp
    · subst he
      refine XTh.caught C M [⟨0, 9, 12, 23⟩] ⟨0, 9, 15, 13⟩ [] rfl (List.forall_mem_cons.mpr ⟨⟨by decide, _, lk_23, List.mem_of_getElem? (i := 7) (by decide +kernel)⟩, fun _ h => absurd h List.not_mem_nil⟩) rfl (by decide) lk_13 (List.mem_of_getElem? (i := 0) (by decide +kernel)) (fun q9 => ?_)
      refine X_astore_3 C (by decide) rfl dL_pass_15 ?_
      refine X_iconst C dL_pass_16 ?_
      exact X_iretW C M rfl (by decide) (by decide) dL_pass_17 (pW_no ho (by omega) (by decide))
    · exact (exn_nil hp).elim
  · obtain ⟨hk, rfl, rfl, rfl⟩ := hp
    refine X_i2lR C dL_pass_7 ?_
    refine X_last C ((jG_at (by decide)).trans hfo) (by decide) (by decide) (by decide) dL_pass_8 ?_
    rw [jG_rho (by decide)]
    refine X_goto (tgt := 18) C dL_pass_9 rfl ?_
    refine X_iconst C dL_pass_18 ?_
    have hw := pW_L (x := (iI (pasA τ u)).toInt64) (C := (pasS τ u)) (τ := τ) (σ := σ) (f := fo) (ad := ad9) (ad2 := ad9) ho hk xKp_rf
    exact X_iretW C M rfl (by decide) (by decide) dL_pass_19 hw
theorem w_plateLength {lc : Launch} (hlc : lc.stackTraces = false) {D : va_G} {Y : Nat → ClassId} {A : Nat → Prop} {τ σ : xS} {ρ : xG} {ad : xL} {n z s : Int} (I : xI n τ) (hz0 : rg z) (hz1 : rg s) (ho : oK Y ρ) : CtW lc yL_plateLength cL_plateLength 5 (some .int) [(0, 10, 13, 19), (0, 10, 17, 21), (0, 10, 21, 13)] (rmL 8 12 224) D Y A ad (jG Y τ σ ρ ad) [.ref (ad 0 0), .int (iI z), .int (iI s), .ref (ad 61 0)] (pW Y (kPlL τ z s) (vL Y ((iI (τ 15 (3 * z + s) 0)).toInt64)) τ σ ad) := by
  refine CtW_of hlc (by decide +kernel) rfl (own := RL) (l0 := [some (.ref (ad 0 0)), some (.int (iI z)), some (.int (iI s)), some (.ref (ad 61 0)), none]) rfl (Nat.le_of_ble_eq_true rfl) (fun κ C M => ?_)
  obtain ⟨fo, hfo⟩ := ho.1
  refine X_aload_n C rfl dL_plateLength_0 ?_
  refine X_iconst C dL_plateLength_1 ?_
  refine X_aload_n C rfl dL_plateLength_2 ?_
  refine X_iload_n C rfl dL_plateLength_3 ?_
  refine X_iload_n C rfl dL_plateLength_4 ?_
  refine X_callVg C (c_X8_plateLength C.hlc I hz0 hz1) cv_L_113 (jG_0 rfl) ⟨_, _, rfl⟩ (As := [.int (iI z), .int (iI s)]) rfl rfl rfl rfl dL_plateLength_5 (fun E ad9 g9 hp => ?_) (fun r ad9 g9 hp => ?_)
  · obtain ⟨hp, rfl, rfl⟩ := hp
    rcases exn_s hp with ⟨hk, he⟩ | hp
    · subst he
      refine XTh.caught C M [] ⟨0, 10, 13, 19⟩ [⟨0, 10, 17, 21⟩, ⟨0, 10, 21, 13⟩] rfl (fun _ h => absurd h List.not_mem_nil) rfl (by decide) lk_19 (List.mem_of_getElem? (i := 2) (by decide +kernel)) (fun q9 => ?_)
      refine X_astore_4 C (by decide) rfl dL_plateLength_13 ?_
      refine X_iconst C dL_plateLength_15 ?_
      have hw := pW_no (V := vL Y ((iI (τ 15 (3 * z + s) 0)).toInt64)) (C := τ) (τ := τ) (σ := σ) (ad := ad9) ho (show kPlL τ z s = 1 by omega) (by decide)
      rw [mQ_sm] at hw
      exact X_iretW C M rfl (by decide) (by decide) dL_plateLength_16 hw
    rcases exn_s hp with ⟨hk, he⟩ | hp
    · subst he
      refine XTh.caught C M [⟨0, 10, 13, 19⟩] ⟨0, 10, 17, 21⟩ [⟨0, 10, 21, 13⟩] rfl (List.forall_mem_cons.mpr ⟨⟨by decide, _, lk_19, List.mem_of_getElem? (i := 10) (by decide +kernel)⟩, fun _ h => absurd h List.not_mem_nil⟩) rfl (by decide) lk_21 (List.mem_of_getElem? (i := 3) (by decide +kernel)) (fun q9 => ?_)
      refine X_astore_4 C (by decide) rfl dL_plateLength_17 ?_
      refine X_iconst C dL_plateLength_19 ?_
      have hw := pW_no (V := vL Y ((iI (τ 15 (3 * z + s) 0)).toInt64)) (C := τ) (τ := τ) (σ := σ) (ad := ad9) ho (show kPlL τ z s = 2 by omega) (by decide)
      rw [mQ_sm] at hw
      exact X_iretW C M rfl (by decide) (by decide) dL_plateLength_20 hw
    rcases exn_s hp with ⟨hk, he⟩ | hp
    · subst he
      refine XTh.caught C M [⟨0, 10, 13, 19⟩, ⟨0, 10, 17, 21⟩] ⟨0, 10, 21, 13⟩ [] rfl (List.forall_mem_cons.mpr ⟨⟨by decide, _, lk_19, List.mem_of_getElem? (i := 5) (by decide +kernel)⟩, List.forall_mem_cons.mpr ⟨⟨by decide, _, lk_21, List.mem_of_getElem? (i := 6) (by decide +kernel)⟩, fun _ h => absurd h List.not_mem_nil⟩⟩) rfl (by decide) lk_13 (List.mem_of_getElem? (i := 0) (by decide +kernel)) (fun q9 => ?_)
      refine X_astore_4 C (by decide) rfl dL_plateLength_21 ?_
      refine X_iconst C dL_plateLength_23 ?_
      have hw := pW_no (V := vL Y ((iI (τ 15 (3 * z + s) 0)).toInt64)) (C := τ) (τ := τ) (σ := σ) (ad := ad9) ho (show kPlL τ z s = 3 by omega) (by decide)
      rw [mQ_sm] at hw
      exact X_iretW C M rfl (by decide) (by decide) dL_plateLength_24 hw
    · exact (exn_nil hp).elim
  · obtain ⟨hk, rfl, rfl, rfl⟩ := hp
    refine X_i2lR C dL_plateLength_8 ?_
    refine X_last C ((jG_at (by decide)).trans hfo) (by decide) (by decide) (by decide) dL_plateLength_9 ?_
    rw [jG_rho (by decide)]
    refine X_goto (tgt := 25) C dL_plateLength_10 rfl ?_
    refine X_iconst C dL_plateLength_25 ?_
    have hw := pW_L (x := (iI (τ 15 (3 * z + s) 0)).toInt64) (C := τ) (τ := τ) (σ := σ) (f := fo) (ad := ad9) (ad2 := ad9) ho hk xKp_rf
    rw [mQ_sm] at hw
    exact X_iretW C M rfl (by decide) (by decide) dL_plateLength_26 hw
theorem w_plateAt {lc : Launch} (hlc : lc.stackTraces = false) {D : va_G} {Y : Nat → ClassId} {A : Nat → Prop} {τ σ : xS} {ρ : xG} {ad : xL} {n z s i : Int} (I : xI n τ) (hz0 : rg z) (hz1 : rg s) (hz2 : rg i) (ho : oK Y ρ) : CtW lc yL_plateAt cL_plateAt 6 (some .int) [(0, 12, 15, 19), (0, 12, 19, 21), (0, 12, 23, 13)] (rmL 8 12 224) D Y A ad (jG Y τ σ ρ ad) [.ref (ad 0 0), .int (iI z), .int (iI s), .int (iI i), .ref (ad 61 0)] (pW Y (kPlA τ z s i) (vL Y ((iI (τ 17 (3 * z + s) i)).toInt64)) τ σ ad) := by
  refine CtW_of hlc (by decide +kernel) rfl (own := RL) (l0 := [some (.ref (ad 0 0)), some (.int (iI z)), some (.int (iI s)), some (.int (iI i)), some (.ref (ad 61 0)), none]) rfl (Nat.le_of_ble_eq_true rfl) (fun κ C M => ?_)
  obtain ⟨fo, hfo⟩ := ho.1
  refine X_aload C rfl dL_plateAt_0 ?_
  refine X_iconst C dL_plateAt_2 ?_
  refine X_aload_n C rfl dL_plateAt_3 ?_
  refine X_iload_n C rfl dL_plateAt_4 ?_
  refine X_iload_n C rfl dL_plateAt_5 ?_
  refine X_iload_n C rfl dL_plateAt_6 ?_
  refine X_callVg C (c_X8_plateAt C.hlc I hz0 hz1 hz2) cv_L_116 (jG_0 rfl) ⟨_, _, rfl⟩ (As := [.int (iI z), .int (iI s), .int (iI i)]) rfl rfl rfl rfl dL_plateAt_7 (fun E ad9 g9 hp => ?_) (fun r ad9 g9 hp => ?_)
  · obtain ⟨hp, rfl, rfl⟩ := hp
    rcases exn_s hp with ⟨hk, he⟩ | hp
    · subst he
      refine XTh.caught C M [] ⟨0, 12, 15, 19⟩ [⟨0, 12, 19, 21⟩, ⟨0, 12, 23, 13⟩] rfl (fun _ h => absurd h List.not_mem_nil) rfl (by decide) lk_19 (List.mem_of_getElem? (i := 2) (by decide +kernel)) (fun q9 => ?_)
      refine X_astore_5 C (by decide) rfl dL_plateAt_15 ?_
      refine X_iconst C dL_plateAt_17 ?_
      have hw := pW_no (V := vL Y ((iI (τ 17 (3 * z + s) i)).toInt64)) (C := τ) (τ := τ) (σ := σ) (ad := ad9) ho (show kPlA τ z s i = 1 by omega) (by decide)
      rw [mQ_sm] at hw
      exact X_iretW C M rfl (by decide) (by decide) dL_plateAt_18 hw
    rcases exn_s hp with ⟨hk, he⟩ | hp
    · subst he
      refine XTh.caught C M [⟨0, 12, 15, 19⟩] ⟨0, 12, 19, 21⟩ [⟨0, 12, 23, 13⟩] rfl (List.forall_mem_cons.mpr ⟨⟨by decide, _, lk_19, List.mem_of_getElem? (i := 10) (by decide +kernel)⟩, fun _ h => absurd h List.not_mem_nil⟩) rfl (by decide) lk_21 (List.mem_of_getElem? (i := 3) (by decide +kernel)) (fun q9 => ?_)
      refine X_astore_5 C (by decide) rfl dL_plateAt_19 ?_
      refine X_iconst C dL_plateAt_21 ?_
      have hw := pW_no (V := vL Y ((iI (τ 17 (3 * z + s) i)).toInt64)) (C := τ) (τ := τ) (σ := σ) (ad := ad9) ho (show kPlA τ z s i = 2 by omega) (by decide)
      rw [mQ_sm] at hw
      exact X_iretW C M rfl (by decide) (by decide) dL_plateAt_22 hw
    rcases exn_s hp with ⟨hk, he⟩ | hp
    · subst he
      refine XTh.caught C M [⟨0, 12, 15, 19⟩, ⟨0, 12, 19, 21⟩] ⟨0, 12, 23, 13⟩ [] rfl (List.forall_mem_cons.mpr ⟨⟨by decide, _, lk_19, List.mem_of_getElem? (i := 5) (by decide +kernel)⟩, List.forall_mem_cons.mpr ⟨⟨by decide, _, lk_21, List.mem_of_getElem? (i := 6) (by decide +kernel)⟩, fun _ h => absurd h List.not_mem_nil⟩⟩) rfl (by decide) lk_13 (List.mem_of_getElem? (i := 0) (by decide +kernel)) (fun q9 => ?_)
      refine X_astore_5 C (by decide) rfl dL_plateAt_23 ?_
      refine X_iconst C dL_plateAt_25 ?_
      have hw := pW_no (V := vL Y ((iI (τ 17 (3 * z + s) i)).toInt64)) (C := τ) (τ := τ) (σ := σ) (ad := ad9) ho (show kPlA τ z s i = 3 by omega) (by decide)
      rw [mQ_sm] at hw
      exact X_iretW C M rfl (by decide) (by decide) dL_plateAt_26 hw
    · exact (exn_nil hp).elim
  · obtain ⟨hk, rfl, rfl, rfl⟩ := hp
    refine X_i2lR C dL_plateAt_10 ?_
    refine X_last C ((jG_at (by decide)).trans hfo) (by decide) (by decide) (by decide) dL_plateAt_11 ?_
    rw [jG_rho (by decide)]
    refine X_goto (tgt := 27) C dL_plateAt_12 rfl ?_
    refine X_iconst C dL_plateAt_27 ?_
    have hw := pW_L (x := (iI (τ 17 (3 * z + s) i)).toInt64) (C := τ) (τ := τ) (σ := σ) (f := fo) (ad := ad9) (ad2 := ad9) ho hk xKp_rf
    rw [mQ_sm] at hw
    exact X_iretW C M rfl (by decide) (by decide) dL_plateAt_28 hw
theorem w_platesFor {lc : Launch} (hlc : lc.stackTraces = false) {D : va_G} {Y : Nat → ClassId} {A : Nat → Prop} {τ σ : xS} {ρ : xG} {ad : xL} {n z : Int} (I : xI n τ) (hz0 : rg z) (ho : oK Y ρ) : CtW lc yL_platesFor cL_platesFor 4 (some .int) [(0, 9, 12, 19)] (rmL 8 12 224) D Y A ad (jG Y τ σ ρ ad) [.ref (ad 0 0), .int (iI z), .ref (ad 61 0)] (pW Y (kOdr τ z) (vL Y ((iI (τ 13 z 0)).toInt64)) τ σ ad) := by
  refine CtW_of hlc (by decide +kernel) rfl (own := RL) (l0 := [some (.ref (ad 0 0)), some (.int (iI z)), some (.ref (ad 61 0)), none]) rfl (Nat.le_of_ble_eq_true rfl) (fun κ C M => ?_)
  obtain ⟨fo, hfo⟩ := ho.1
  refine X_aload_n C rfl dL_platesFor_0 ?_
  refine X_iconst C dL_platesFor_1 ?_
  refine X_aload_n C rfl dL_platesFor_2 ?_
  refine X_iload_n C rfl dL_platesFor_3 ?_
  refine X_callVg C (c_X8_platesFor C.hlc I hz0) cv_L_119 (jG_0 rfl) ⟨_, _, rfl⟩ (As := [.int (iI z)]) rfl rfl rfl rfl dL_platesFor_4 (fun E ad9 g9 hp => ?_) (fun r ad9 g9 hp => ?_)
  · obtain ⟨hp, rfl, rfl⟩ := hp
    rcases exn_s hp with ⟨hk, he⟩ | hp
    · subst he
      refine XTh.caught C M [] ⟨0, 9, 12, 19⟩ [] rfl (fun _ h => absurd h List.not_mem_nil) rfl (by decide) lk_19 (List.mem_of_getElem? (i := 2) (by decide +kernel)) (fun q9 => ?_)
      refine X_astore_3 C (by decide) rfl dL_platesFor_12 ?_
      refine X_iconst C dL_platesFor_13 ?_
      have hw := pW_no (V := vL Y ((iI (τ 13 z 0)).toInt64)) (C := τ) (τ := τ) (σ := σ) (ad := ad9) ho (show kOdr τ z = 1 by omega) (by decide)
      rw [mQ_sm] at hw
      exact X_iretW C M rfl (by decide) (by decide) dL_platesFor_14 hw
    · exact (exn_nil hp).elim
  · obtain ⟨hk, rfl, rfl, rfl⟩ := hp
    refine X_i2lR C dL_platesFor_7 ?_
    refine X_last C ((jG_at (by decide)).trans hfo) (by decide) (by decide) (by decide) dL_platesFor_8 ?_
    rw [jG_rho (by decide)]
    refine X_goto (tgt := 15) C dL_platesFor_9 rfl ?_
    refine X_iconst C dL_platesFor_15 ?_
    have hw := pW_L (x := (iI (τ 13 z 0)).toInt64) (C := τ) (τ := τ) (σ := σ) (f := fo) (ad := ad9) (ad2 := ad9) ho hk xKp_rf
    rw [mQ_sm] at hw
    exact X_iretW C M rfl (by decide) (by decide) dL_platesFor_16 hw
theorem w_wasted {lc : Launch} (hlc : lc.stackTraces = false) {D : va_G} {Y : Nat → ClassId} {A : Nat → Prop} {τ σ : xS} {ρ : xG} {ad : xL} {n z : Int} (I : xI n τ) (hz0 : rg z) (ho : oK Y ρ) : CtW lc yL_wasted cL_wasted 4 (some .int) [(0, 9, 12, 19)] (rmL 8 12 224) D Y A ad (jG Y τ σ ρ ad) [.ref (ad 0 0), .int (iI z), .ref (ad 61 0)] (pW Y (kOdr τ z) (vL Y ((iI (wsA τ z)).toInt64)) τ σ ad) := by
  refine CtW_of hlc (by decide +kernel) rfl (own := RL) (l0 := [some (.ref (ad 0 0)), some (.int (iI z)), some (.ref (ad 61 0)), none]) rfl (Nat.le_of_ble_eq_true rfl) (fun κ C M => ?_)
  obtain ⟨fo, hfo⟩ := ho.1
  refine X_aload_n C rfl dL_wasted_0 ?_
  refine X_iconst C dL_wasted_1 ?_
  refine X_aload_n C rfl dL_wasted_2 ?_
  refine X_iload_n C rfl dL_wasted_3 ?_
  refine X_callVg C (c_X8_wasted C.hlc I hz0) cv_L_122 (jG_0 rfl) ⟨_, _, rfl⟩ (As := [.int (iI z)]) rfl rfl rfl rfl dL_wasted_4 (fun E ad9 g9 hp => ?_) (fun r ad9 g9 hp => ?_)
  · obtain ⟨hp, rfl, rfl⟩ := hp
    rcases exn_s hp with ⟨hk, he⟩ | hp
    · subst he
      refine XTh.caught C M [] ⟨0, 9, 12, 19⟩ [] rfl (fun _ h => absurd h List.not_mem_nil) rfl (by decide) lk_19 (List.mem_of_getElem? (i := 2) (by decide +kernel)) (fun q9 => ?_)
      refine X_astore_3 C (by decide) rfl dL_wasted_12 ?_
      refine X_iconst C dL_wasted_13 ?_
      have hw := pW_no (V := vL Y ((iI (wsA τ z)).toInt64)) (C := τ) (τ := τ) (σ := σ) (ad := ad9) ho (show kOdr τ z = 1 by omega) (by decide)
      rw [mQ_sm] at hw
      exact X_iretW C M rfl (by decide) (by decide) dL_wasted_14 hw
    · exact (exn_nil hp).elim
  · obtain ⟨hk, rfl, rfl, rfl⟩ := hp
    refine X_i2lR C dL_wasted_7 ?_
    refine X_last C ((jG_at (by decide)).trans hfo) (by decide) (by decide) (by decide) dL_wasted_8 ?_
    rw [jG_rho (by decide)]
    refine X_goto (tgt := 15) C dL_wasted_9 rfl ?_
    refine X_iconst C dL_wasted_15 ?_
    have hw := pW_L (x := (iI (wsA τ z)).toInt64) (C := τ) (τ := τ) (σ := σ) (f := fo) (ad := ad9) (ad2 := ad9) ho hk xKp_rf
    rw [mQ_sm] at hw
    exact X_iretW C M rfl (by decide) (by decide) dL_wasted_16 hw
theorem w_cost {lc : Launch} (hlc : lc.stackTraces = false) {D : va_G} {Y : Nat → ClassId} {A : Nat → Prop} {τ σ : xS} {ρ : xG} {ad : xL} {n z : Int} (I : xI n τ) (hz0 : rg z) (ho : oK Y ρ) : CtW lc yL_cost cL_cost 4 (some .int) [(0, 8, 11, 19)] (rmL 8 12 224) D Y A ad (jG Y τ σ ρ ad) [.ref (ad 0 0), .int (iI z), .ref (ad 61 0)] (pW Y (kOdr τ z) (vL Y ((lI (2 * τ 12 z 0 + 30 * τ 13 z 0)))) τ σ ad) := by
  refine CtW_of hlc (by decide +kernel) rfl (own := RL) (l0 := [some (.ref (ad 0 0)), some (.int (iI z)), some (.ref (ad 61 0)), none]) rfl (Nat.le_of_ble_eq_true rfl) (fun κ C M => ?_)
  obtain ⟨fo, hfo⟩ := ho.1
  refine X_aload_n C rfl dL_cost_0 ?_
  refine X_iconst C dL_cost_1 ?_
  refine X_aload_n C rfl dL_cost_2 ?_
  refine X_iload_n C rfl dL_cost_3 ?_
  refine X_callVg C (c_X8_cost C.hlc I hz0) cv_L_125 (jG_0 rfl) ⟨_, _, rfl⟩ (As := [.int (iI z)]) rfl rfl rfl rfl dL_cost_4 (fun E ad9 g9 hp => ?_) (fun r ad9 g9 hp => ?_)
  · obtain ⟨hp, rfl, rfl⟩ := hp
    rcases exn_s hp with ⟨hk, he⟩ | hp
    · subst he
      refine XTh.caught C M [] ⟨0, 8, 11, 19⟩ [] rfl (fun _ h => absurd h List.not_mem_nil) rfl (by decide) lk_19 (List.mem_of_getElem? (i := 2) (by decide +kernel)) (fun q9 => ?_)
      refine X_astore_3 C (by decide) rfl dL_cost_11 ?_
      refine X_iconst C dL_cost_12 ?_
      have hw := pW_no (V := vL Y ((lI (2 * τ 12 z 0 + 30 * τ 13 z 0)))) (C := τ) (τ := τ) (σ := σ) (ad := ad9) ho (show kOdr τ z = 1 by omega) (by decide)
      rw [mQ_sm] at hw
      exact X_iretW C M rfl (by decide) (by decide) dL_cost_13 hw
    · exact (exn_nil hp).elim
  · obtain ⟨hk, rfl, rfl, rfl⟩ := hp
    refine X_last C ((jG_at (by decide)).trans hfo) (by decide) (by decide) (by decide) dL_cost_7 ?_
    rw [jG_rho (by decide)]
    refine X_goto (tgt := 14) C dL_cost_8 rfl ?_
    refine X_iconst C dL_cost_14 ?_
    have hw := pW_L (x := (lI (2 * τ 12 z 0 + 30 * τ 13 z 0))) (C := τ) (τ := τ) (σ := σ) (f := fo) (ad := ad9) (ad2 := ad9) ho hk xKp_rf
    rw [mQ_sm] at hw
    exact X_iretW C M rfl (by decide) (by decide) dL_cost_15 hw
theorem w_goodShare {lc : Launch} (hlc : lc.stackTraces = false) {D : va_G} {Y : Nat → ClassId} {A : Nat → Prop} {τ σ : xS} {ρ : xG} {ad : xL} {n : Int} (I : xI n τ) (ho : oK Y ρ) : CtW lc yL_goodShare cL_goodShare 3 (some .int) [(0, 8, 11, 133)] (rmL 8 12 224) D Y A ad (jG Y τ σ ρ ad) [.ref (ad 0 0), .ref (ad 62 0)] (pW Y (kNon (τ 32 0 0)) (vD Y (FP.f2d (FP.fdiv (FP.i2f (iI (gsG τ (τ 32 0 0)))) (FP.i2f (iI (gsT τ (τ 32 0 0))))))) τ σ ad) := by
  refine CtW_of hlc (by decide +kernel) rfl (own := RL) (l0 := [some (.ref (ad 0 0)), some (.ref (ad 62 0)), none]) rfl (Nat.le_of_ble_eq_true rfl) (fun κ C M => ?_)
  obtain ⟨fo, hfo⟩ := ho.2.1
  refine X_aload_n C rfl dL_goodShare_0 ?_
  refine X_iconst C dL_goodShare_1 ?_
  refine X_aload_n C rfl dL_goodShare_2 ?_
  refine X_callVg C (c_X8_goodShare C.hlc I) cv_L_129 (jG_0 rfl) ⟨_, _, rfl⟩ (As := []) rfl rfl rfl rfl dL_goodShare_3 (fun E ad9 g9 hp => ?_) (fun r ad9 g9 hp => ?_)
  · obtain ⟨hp, rfl, rfl⟩ := hp
    rcases exn_s hp with ⟨hk, he⟩ | hp
    · subst he
      refine XTh.caught C M [] ⟨0, 8, 11, 133⟩ [] rfl (fun _ h => absurd h List.not_mem_nil) rfl (by decide) lk_133 (List.mem_of_getElem? (i := 6) (by decide +kernel)) (fun q9 => ?_)
      refine X_astore_2 C (by decide) rfl dL_goodShare_11 ?_
      refine X_iconst C dL_goodShare_12 ?_
      have hw := pW_no (V := vD Y (FP.f2d (FP.fdiv (FP.i2f (iI (gsG τ (τ 32 0 0)))) (FP.i2f (iI (gsT τ (τ 32 0 0))))))) (C := τ) (τ := τ) (σ := σ) (ad := ad9) ho (show kNon (τ 32 0 0) = 1 by omega) (by decide)
      rw [mQ_sm] at hw
      exact X_iretW C M rfl (by decide) (by decide) dL_goodShare_13 hw
    · exact (exn_nil hp).elim
  · obtain ⟨hk, rfl, rfl, rfl⟩ := hp
    refine X_f2d C (by have gb := gs_b I I.no.1 (Int.le_refl _); have i2 := I.no; have h0 : ¬ τ 32 0 0 = 0 := (fun w => (by unfold kNon at hk; rw [if_pos w] at hk; omega)); exact fsd_n (by omega) (by omega) (by omega) (by omega)) dL_goodShare_6 ?_
    refine X_dast C ((jG_at (by decide)).trans hfo) (by decide) (by decide) (by decide) dL_goodShare_7 ?_
    rw [jG_rho (by decide)]
    refine X_goto (tgt := 14) C dL_goodShare_8 rfl ?_
    refine X_iconst C dL_goodShare_14 ?_
    have hw := pW_D (x := FP.f2d (FP.fdiv (FP.i2f (iI (gsG τ (τ 32 0 0)))) (FP.i2f (iI (gsT τ (τ 32 0 0)))))) (C := τ) (τ := τ) (σ := σ) (f := fo) (ad := ad9) (ad2 := ad9) ho hk xKp_rf
    rw [mQ_sm] at hw
    exact X_iretW C M rfl (by decide) (by decide) dL_goodShare_15 hw
theorem w_meanLength {lc : Launch} (hlc : lc.stackTraces = false) {D : va_G} {Y : Nat → ClassId} {A : Nat → Prop} {τ σ : xS} {ρ : xG} {ad : xL} {n : Int} (I : xI n τ) (ho : oK Y ρ) : CtW lc yL_meanLength cL_meanLength 3 (some .int) [(0, 7, 10, 133)] (rmL 8 12 224) D Y A ad (jG Y τ σ ρ ad) [.ref (ad 0 0), .ref (ad 62 0)] (pW Y (kNon (τ 30 0 0)) (vD Y ((FP.ddiv (FP.i2d (iI (mlT τ (τ 30 0 0)))) (FP.i2d (iI (τ 30 0 0)))))) τ σ ad) := by
  refine CtW_of hlc (by decide +kernel) rfl (own := RL) (l0 := [some (.ref (ad 0 0)), some (.ref (ad 62 0)), none]) rfl (Nat.le_of_ble_eq_true rfl) (fun κ C M => ?_)
  obtain ⟨fo, hfo⟩ := ho.2.1
  refine X_aload_n C rfl dL_meanLength_0 ?_
  refine X_iconst C dL_meanLength_1 ?_
  refine X_aload_n C rfl dL_meanLength_2 ?_
  refine X_callVg C (c_X8_meanLength C.hlc I) cv_L_135 (jG_0 rfl) ⟨_, _, rfl⟩ (As := []) rfl rfl rfl rfl dL_meanLength_3 (fun E ad9 g9 hp => ?_) (fun r ad9 g9 hp => ?_)
  · obtain ⟨hp, rfl, rfl⟩ := hp
    rcases exn_s hp with ⟨hk, he⟩ | hp
    · subst he
      refine XTh.caught C M [] ⟨0, 7, 10, 133⟩ [] rfl (fun _ h => absurd h List.not_mem_nil) rfl (by decide) lk_133 (List.mem_of_getElem? (i := 6) (by decide +kernel)) (fun q9 => ?_)
      refine X_astore_2 C (by decide) rfl dL_meanLength_10 ?_
      refine X_iconst C dL_meanLength_11 ?_
      have hw := pW_no (V := vD Y ((FP.ddiv (FP.i2d (iI (mlT τ (τ 30 0 0)))) (FP.i2d (iI (τ 30 0 0)))))) (C := τ) (τ := τ) (σ := σ) (ad := ad9) ho (show kNon (τ 30 0 0) = 1 by omega) (by decide)
      rw [mQ_sm] at hw
      exact X_iretW C M rfl (by decide) (by decide) dL_meanLength_12 hw
    · exact (exn_nil hp).elim
  · obtain ⟨hk, rfl, rfl, rfl⟩ := hp
    refine X_dast C ((jG_at (by decide)).trans hfo) (by decide) (by decide) (by decide) dL_meanLength_6 ?_
    rw [jG_rho (by decide)]
    refine X_goto (tgt := 13) C dL_meanLength_7 rfl ?_
    refine X_iconst C dL_meanLength_13 ?_
    have hw := pW_D (x := (FP.ddiv (FP.i2d (iI (mlT τ (τ 30 0 0)))) (FP.i2d (iI (τ 30 0 0))))) (C := τ) (τ := τ) (σ := σ) (f := fo) (ad := ad9) (ad2 := ad9) ho hk xKp_rf
    rw [mQ_sm] at hw
    exact X_iretW C M rfl (by decide) (by decide) dL_meanLength_14 hw
