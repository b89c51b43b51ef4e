/-! the law's methods, 1 -/
theorem w_addDocument {lc : Launch} (hlc : lc.stackTraces = false) {D : va_G} {Y : Nat → ClassId} {A : Nat → Prop} {τ σ : xS} {ρ : xG} {ad : xL} {n : Int} (I : xI n τ) (ho : oK Y ρ) : CtW lc yL_addDocument cL_addDocument 3 (some .int) [(0, 8, 11, 13)] (rmL 8 12 224) D Y A ad (jG Y τ σ ρ ad) [.ref (ad 0 0), .ref (ad 61 0)] (pW Y (kAdd τ) (vL Y ((iI (τ 30 0 0)).toInt64)) (mQ (kAdd τ) (addS τ) τ) σ ad) := by
  refine CtW_of hlc (by decide +kernel) rfl (own := RL) (l0 := [some (.ref (ad 0 0)), some (.ref (ad 61 0)), none]) rfl (Nat.le_of_ble_eq_true rfl) (fun κ C M => ?_)
  obtain ⟨fo, hfo⟩ := ho.1
  refine X_aload_n C rfl dL_addDocument_0 ?_
  refine X_iconst C dL_addDocument_1 ?_
  refine X_aload_n C rfl dL_addDocument_2 ?_
  refine X_callVg C (c_X8_addDocument C.hlc I) cv_L_7 (jG_0 rfl) ⟨_, _, rfl⟩ (As := []) rfl rfl rfl rfl dL_addDocument_3 (fun E ad9 g9 hp => ?_) (fun r ad9 g9 hp => ?_)
  · obtain ⟨hp, rfl, rfl⟩ := hp
    rcases exn_s hp with ⟨hk, he⟩ | hp
    · subst he
      refine XTh.caught C M [] ⟨0, 8, 11, 13⟩ [] rfl (fun _ h => absurd h List.not_mem_nil) rfl (by decide) lk_13 (List.mem_of_getElem? (i := 0) (by decide +kernel)) (fun q9 => ?_)
      refine X_astore_2 C (by decide) rfl dL_addDocument_11 ?_
      refine X_iconst C dL_addDocument_12 ?_
      exact X_iretW C M rfl (by decide) (by decide) dL_addDocument_13 (pW_no ho (by omega) (by decide))
    · exact (exn_nil hp).elim
  · obtain ⟨hk, rfl, hkp, rfl⟩ := hp
    refine X_i2lR C dL_addDocument_6 ?_
    rw [show ad 61 0 = ad9 61 0 from (hkp 61 0 (by omega)).symm]
    refine X_last C ((jG_at (by decide)).trans hfo) (by decide) (by decide) (by decide) dL_addDocument_7 ?_
    rw [jG_rho (by decide)]
    refine X_goto (tgt := 14) C dL_addDocument_8 rfl ?_
    refine X_iconst C dL_addDocument_14 ?_
    have hw := pW_L (x := (iI (τ 30 0 0)).toInt64) (C := (addS τ)) (τ := τ) (σ := σ) (f := fo) (ad := ad) (ad2 := ad9) ho hk hkp
    exact X_iretW C M rfl (by decide) (by decide) dL_addDocument_15 hw
theorem w_insert {lc : Launch} (hlc : lc.stackTraces = false) {D : va_G} {Y : Nat → ClassId} {A : Nat → Prop} {τ σ : xS} {ρ : xG} {ad : xL} {n z p c : Int} (I : xI n τ) (hz0 : rg z) (hz1 : rg p) (hz2 : rg c) (hn : n < 512) (ho : oK Y ρ) : CtW lc yL_insert cL_insert 6 (some .int) [(0, 12, 15, 19), (0, 12, 19, 21), (0, 12, 23, 23), (0, 12, 27, 13), (0, 12, 31, 25)] (rmL 8 12 224) D Y A ad (jG Y τ σ ρ ad) [.ref (ad 0 0), .int (iI z), .int (iI p), .int (iI c), .ref (ad 61 0)] (pW Y (kIns τ z p c) (vL Y ((iI (τ 2 z 0 + 1)).toInt64)) (mQ (kIns τ z p c) (insS τ z p c) τ) σ ad) := by
  refine CtW_of hlc (by decide +kernel) rfl (own := RL) (l0 := [some (.ref (ad 0 0)), some (.int (iI z)), some (.int (iI p)), some (.int (iI c)), some (.ref (ad 61 0)), none]) rfl (Nat.le_of_ble_eq_true rfl) (fun κ C M => ?_)
  obtain ⟨fo, hfo⟩ := ho.1
  refine X_aload C rfl dL_insert_0 ?_
  refine X_iconst C dL_insert_2 ?_
  refine X_aload_n C rfl dL_insert_3 ?_
  refine X_iload_n C rfl dL_insert_4 ?_
  refine X_iload_n C rfl dL_insert_5 ?_
  refine X_iload_n C rfl dL_insert_6 ?_
  refine X_callVg C (c_X8_insert C.hlc I hz0 hz1 hz2 hn) cv_L_15 (jG_0 rfl) ⟨_, _, rfl⟩ (As := [.int (iI z), .int (iI p), .int (iI c)]) rfl rfl rfl rfl dL_insert_7 (fun E ad9 g9 hp => ?_) (fun r ad9 g9 hp => ?_)
  · obtain ⟨hp, rfl, rfl⟩ := hp
    rcases exn_s hp with ⟨hk, he⟩ | hp
    · subst he
      refine XTh.caught C M [] ⟨0, 12, 15, 19⟩ [⟨0, 12, 19, 21⟩, ⟨0, 12, 23, 23⟩, ⟨0, 12, 27, 13⟩, ⟨0, 12, 31, 25⟩] rfl (fun _ h => absurd h List.not_mem_nil) rfl (by decide) lk_19 (List.mem_of_getElem? (i := 2) (by decide +kernel)) (fun q9 => ?_)
      refine X_astore_5 C (by decide) rfl dL_insert_15 ?_
      refine X_iconst C dL_insert_17 ?_
      exact X_iretW C M rfl (by decide) (by decide) dL_insert_18 (pW_no ho (by omega) (by decide))
    rcases exn_s hp with ⟨hk, he⟩ | hp
    · subst he
      refine XTh.caught C M [⟨0, 12, 15, 19⟩] ⟨0, 12, 19, 21⟩ [⟨0, 12, 23, 23⟩, ⟨0, 12, 27, 13⟩, ⟨0, 12, 31, 25⟩] rfl (List.forall_mem_cons.mpr ⟨⟨by decide, _, lk_19, List.mem_of_getElem? (i := 10) (by decide +kernel)⟩, fun _ h => absurd h List.not_mem_nil⟩) rfl (by decide) lk_21 (List.mem_of_getElem? (i := 3) (by decide +kernel)) (fun q9 => ?_)
      refine X_astore_5 C (by decide) rfl dL_insert_19 ?_
      refine X_iconst C dL_insert_21 ?_
      exact X_iretW C M rfl (by decide) (by decide) dL_insert_22 (pW_no ho (by omega) (by decide))
    rcases exn_s hp with ⟨hk, he⟩ | hp
    · subst he
      refine XTh.caught C M [⟨0, 12, 15, 19⟩, ⟨0, 12, 19, 21⟩] ⟨0, 12, 23, 23⟩ [⟨0, 12, 27, 13⟩, ⟨0, 12, 31, 25⟩] rfl (List.forall_mem_cons.mpr ⟨⟨by decide, _, lk_19, List.mem_of_getElem? (i := 15) (by decide +kernel)⟩, List.forall_mem_cons.mpr ⟨⟨by decide, _, lk_21, List.mem_of_getElem? (i := 17) (by decide +kernel)⟩, fun _ h => absurd h List.not_mem_nil⟩⟩) rfl (by decide) lk_23 (List.mem_of_getElem? (i := 4) (by decide +kernel)) (fun q9 => ?_)
      refine X_astore_5 C (by decide) rfl dL_insert_23 ?_
      refine X_iconst C dL_insert_25 ?_
      exact X_iretW C M rfl (by decide) (by decide) dL_insert_26 (pW_no ho (by omega) (by decide))
    rcases exn_s hp with ⟨hk, he⟩ | hp
    · subst he
      refine XTh.caught C M [⟨0, 12, 15, 19⟩, ⟨0, 12, 19, 21⟩, ⟨0, 12, 23, 23⟩] ⟨0, 12, 27, 13⟩ [⟨0, 12, 31, 25⟩] rfl (List.forall_mem_cons.mpr ⟨⟨by decide, _, lk_19, List.mem_of_getElem? (i := 5) (by decide +kernel)⟩, List.forall_mem_cons.mpr ⟨⟨by decide, _, lk_21, List.mem_of_getElem? (i := 6) (by decide +kernel)⟩, List.forall_mem_cons.mpr ⟨⟨by decide, _, lk_23, List.mem_of_getElem? (i := 7) (by decide +kernel)⟩, fun _ h => absurd h List.not_mem_nil⟩⟩⟩) rfl (by decide) lk_13 (List.mem_of_getElem? (i := 0) (by decide +kernel)) (fun q9 => ?_)
      refine X_astore_5 C (by decide) rfl dL_insert_27 ?_
      refine X_iconst C dL_insert_29 ?_
      exact X_iretW C M rfl (by decide) (by decide) dL_insert_30 (pW_no ho (by omega) (by decide))
    rcases exn_s hp with ⟨hk, he⟩ | hp
    · subst he
      refine XTh.caught C M [⟨0, 12, 15, 19⟩, ⟨0, 12, 19, 21⟩, ⟨0, 12, 23, 23⟩, ⟨0, 12, 27, 13⟩] ⟨0, 12, 31, 25⟩ [] rfl (List.forall_mem_cons.mpr ⟨⟨by decide, _, lk_19, List.mem_of_getElem? (i := 20) (by decide +kernel)⟩, List.forall_mem_cons.mpr ⟨⟨by decide, _, lk_21, List.mem_of_getElem? (i := 22) (by decide +kernel)⟩, List.forall_mem_cons.mpr ⟨⟨by decide, _, lk_23, List.mem_of_getElem? (i := 23) (by decide +kernel)⟩, List.forall_mem_cons.mpr ⟨⟨by decide, _, lk_13, List.mem_of_getElem? (i := 21) (by decide +kernel)⟩, fun _ h => absurd h List.not_mem_nil⟩⟩⟩⟩) rfl (by decide) lk_25 (List.mem_of_getElem? (i := 5) (by decide +kernel)) (fun q9 => ?_)
      refine X_astore_5 C (by decide) rfl dL_insert_31 ?_
      refine X_iconst C dL_insert_33 ?_
      exact X_iretW C M rfl (by decide) (by decide) dL_insert_34 (pW_no ho (by omega) (by decide))
    · exact (exn_nil hp).elim
  · obtain ⟨hk, rfl, rfl, rfl⟩ := hp
    refine X_i2lR C dL_insert_10 ?_
    refine X_last C ((jG_at (by decide)).trans hfo) (by decide) (by decide) (by decide) dL_insert_11 ?_
    rw [jG_rho (by decide)]
    refine X_goto (tgt := 35) C dL_insert_12 rfl ?_
    refine X_iconst C dL_insert_35 ?_
    have hw := pW_L (x := (iI (τ 2 z 0 + 1)).toInt64) (C := (insS τ z p c)) (τ := τ) (σ := σ) (f := fo) (ad := ad9) (ad2 := ad9) ho hk xKp_rf
    exact X_iretW C M rfl (by decide) (by decide) dL_insert_36 hw
theorem w_delete {lc : Launch} (hlc : lc.stackTraces = false) {D : va_G} {Y : Nat → ClassId} {A : Nat → Prop} {τ σ : xS} {ρ : xG} {ad : xL} {n z p : Int} (I : xI n τ) (hz0 : rg z) (hz1 : rg p) (hn : n < 512) (ho : oK Y ρ) : CtW lc yL_delete cL_delete 5 (some .int) [(0, 10, 13, 19), (0, 10, 17, 21), (0, 10, 21, 25)] (rmL 8 12 224) D Y A ad (jG Y τ σ ρ ad) [.ref (ad 0 0), .int (iI z), .int (iI p), .ref (ad 61 0)] (pW Y (kDel τ z p) (vL Y ((iI (tAt τ (2 * z) p)).toInt64)) (mQ (kDel τ z p) (delS τ z p) τ) σ ad) := by
  refine CtW_of hlc (by decide +kernel) rfl (own := RL) (l0 := [some (.ref (ad 0 0)), some (.int (iI z)), some (.int (iI p)), some (.ref (ad 61 0)), none]) rfl (Nat.le_of_ble_eq_true rfl) (fun κ C M => ?_)
  obtain ⟨fo, hfo⟩ := ho.1
  refine X_aload_n C rfl dL_delete_0 ?_
  refine X_iconst C dL_delete_1 ?_
  refine X_aload_n C rfl dL_delete_2 ?_
  refine X_iload_n C rfl dL_delete_3 ?_
  refine X_iload_n C rfl dL_delete_4 ?_
  refine X_callVg C (c_X8_delete C.hlc I hz0 hz1 hn) cv_L_27 (jG_0 rfl) ⟨_, _, rfl⟩ (As := [.int (iI z), .int (iI p)]) rfl rfl rfl rfl dL_delete_5 (fun E ad9 g9 hp => ?_) (fun r ad9 g9 hp => ?_)
  · obtain ⟨hp, rfl, rfl⟩ := hp
    rcases exn_s hp with ⟨hk, he⟩ | hp
    · subst he
      refine XTh.caught C M [] ⟨0, 10, 13, 19⟩ [⟨0, 10, 17, 21⟩, ⟨0, 10, 21, 25⟩] rfl (fun _ h => absurd h List.not_mem_nil) rfl (by decide) lk_19 (List.mem_of_getElem? (i := 2) (by decide +kernel)) (fun q9 => ?_)
      refine X_astore_4 C (by decide) rfl dL_delete_13 ?_
      refine X_iconst C dL_delete_15 ?_
      exact X_iretW C M rfl (by decide) (by decide) dL_delete_16 (pW_no ho (by omega) (by decide))
    rcases exn_s hp with ⟨hk, he⟩ | hp
    · subst he
      refine XTh.caught C M [⟨0, 10, 13, 19⟩] ⟨0, 10, 17, 21⟩ [⟨0, 10, 21, 25⟩] rfl (List.forall_mem_cons.mpr ⟨⟨by decide, _, lk_19, List.mem_of_getElem? (i := 10) (by decide +kernel)⟩, fun _ h => absurd h List.not_mem_nil⟩) rfl (by decide) lk_21 (List.mem_of_getElem? (i := 3) (by decide +kernel)) (fun q9 => ?_)
      refine X_astore_4 C (by decide) rfl dL_delete_17 ?_
      refine X_iconst C dL_delete_19 ?_
      exact X_iretW C M rfl (by decide) (by decide) dL_delete_20 (pW_no ho (by omega) (by decide))
    rcases exn_s hp with ⟨hk, he⟩ | hp
    · subst he
      refine XTh.caught C M [⟨0, 10, 13, 19⟩, ⟨0, 10, 17, 21⟩] ⟨0, 10, 21, 25⟩ [] rfl (List.forall_mem_cons.mpr ⟨⟨by decide, _, lk_19, List.mem_of_getElem? (i := 20) (by decide +kernel)⟩, List.forall_mem_cons.mpr ⟨⟨by decide, _, lk_21, List.mem_of_getElem? (i := 22) (by decide +kernel)⟩, fun _ h => absurd h List.not_mem_nil⟩⟩) rfl (by decide) lk_25 (List.mem_of_getElem? (i := 5) (by decide +kernel)) (fun q9 => ?_)
      refine X_astore_4 C (by decide) rfl dL_delete_21 ?_
      refine X_iconst C dL_delete_23 ?_
      exact X_iretW C M rfl (by decide) (by decide) dL_delete_24 (pW_no ho (by omega) (by decide))
    · exact (exn_nil hp).elim
  · obtain ⟨hk, rfl, rfl, rfl⟩ := hp
    refine X_i2lR C dL_delete_8 ?_
    refine X_last C ((jG_at (by decide)).trans hfo) (by decide) (by decide) (by decide) dL_delete_9 ?_
    rw [jG_rho (by decide)]
    refine X_goto (tgt := 25) C dL_delete_10 rfl ?_
    refine X_iconst C dL_delete_25 ?_
    have hw := pW_L (x := (iI (tAt τ (2 * z) p)).toInt64) (C := (delS τ z p)) (τ := τ) (σ := σ) (f := fo) (ad := ad9) (ad2 := ad9) ho hk xKp_rf
    exact X_iretW C M rfl (by decide) (by decide) dL_delete_26 hw
theorem w_bar {lc : Launch} (hlc : lc.stackTraces = false) {D : va_G} {Y : Nat → ClassId} {A : Nat → Prop} {τ σ : xS} {ρ : xG} {ad : xL} {n z p b : Int} (I : xI n τ) (hz0 : rg z) (hz1 : rg p) (hz2 : rg b) (hb : b = 0 ∨ b = 1) (ho : oK Y ρ) : CtW lc yL_bar cL_bar 6 (some .int) [(0, 12, 15, 19), (0, 12, 19, 21)] (rmL 8 12 224) D Y A ad (jG Y τ σ ρ ad) [.ref (ad 0 0), .int (iI z), .int (iI p), .int (iI b), .ref (ad 61 0)] (pW Y (kBar τ z p b) (vL Y ((iI (brA τ z p b)).toInt64)) τ σ ad) := by
  refine CtW_of hlc (by decide +kernel) rfl (own := RL) (l0 := [some (.ref (ad 0 0)), some (.int (iI z)), some (.int (iI p)), some (.int (iI b)), some (.ref (ad 61 0)), none]) rfl (Nat.le_of_ble_eq_true rfl) (fun κ C M => ?_)
  obtain ⟨fo, hfo⟩ := ho.1
  refine X_aload C rfl dL_bar_0 ?_
  refine X_iconst C dL_bar_2 ?_
  refine X_aload_n C rfl dL_bar_3 ?_
  refine X_iload_n C rfl dL_bar_4 ?_
  refine X_iload_n C rfl dL_bar_5 ?_
  refine X_iload_n C rfl dL_bar_6 ?_
  refine X_callVg C (c_X8_bar C.hlc I hz0 hz1 hz2 hb) cv_L_31 (jG_0 rfl) ⟨_, _, rfl⟩ (As := [.int (iI z), .int (iI p), .int (iI b)]) rfl rfl rfl rfl dL_bar_7 (fun E ad9 g9 hp => ?_) (fun r ad9 g9 hp => ?_)
  · obtain ⟨hp, rfl, rfl⟩ := hp
    rcases exn_s hp with ⟨hk, he⟩ | hp
    · subst he
      refine XTh.caught C M [] ⟨0, 12, 15, 19⟩ [⟨0, 12, 19, 21⟩] rfl (fun _ h => absurd h List.not_mem_nil) rfl (by decide) lk_19 (List.mem_of_getElem? (i := 2) (by decide +kernel)) (fun q9 => ?_)
      refine X_astore_5 C (by decide) rfl dL_bar_15 ?_
      refine X_iconst C dL_bar_17 ?_
      have hw := pW_no (V := vL Y ((iI (brA τ z p b)).toInt64)) (C := τ) (τ := τ) (σ := σ) (ad := ad9) ho (show kBar τ z p b = 1 by omega) (by decide)
      rw [mQ_sm] at hw
      exact X_iretW C M rfl (by decide) (by decide) dL_bar_18 hw
    rcases exn_s hp with ⟨hk, he⟩ | hp
    · subst he
      refine XTh.caught C M [⟨0, 12, 15, 19⟩] ⟨0, 12, 19, 21⟩ [] rfl (List.forall_mem_cons.mpr ⟨⟨by decide, _, lk_19, List.mem_of_getElem? (i := 10) (by decide +kernel)⟩, fun _ h => absurd h List.not_mem_nil⟩) rfl (by decide) lk_21 (List.mem_of_getElem? (i := 3) (by decide +kernel)) (fun q9 => ?_)
      refine X_astore_5 C (by decide) rfl dL_bar_19 ?_
      refine X_iconst C dL_bar_21 ?_
      have hw := pW_no (V := vL Y ((iI (brA τ z p b)).toInt64)) (C := τ) (τ := τ) (σ := σ) (ad := ad9) ho (show kBar τ z p b = 2 by omega) (by decide)
      rw [mQ_sm] at hw
      exact X_iretW C M rfl (by decide) (by decide) dL_bar_22 hw
    · exact (exn_nil hp).elim
  · obtain ⟨hk, rfl, rfl, rfl⟩ := hp
    refine X_i2lR C dL_bar_10 ?_
    refine X_last C ((jG_at (by decide)).trans hfo) (by decide) (by decide) (by decide) dL_bar_11 ?_
    rw [jG_rho (by decide)]
    refine X_goto (tgt := 23) C dL_bar_12 rfl ?_
    refine X_iconst C dL_bar_23 ?_
    have hw := pW_L (x := (iI (brA τ z p b)).toInt64) (C := τ) (τ := τ) (σ := σ) (f := fo) (ad := ad9) (ad2 := ad9) ho hk xKp_rf
    rw [mQ_sm] at hw
    exact X_iretW C M rfl (by decide) (by decide) dL_bar_24 hw
theorem w_close {lc : Launch} (hlc : lc.stackTraces = false) {D : va_G} {Y : Nat → ClassId} {A : Nat → Prop} {τ σ : xS} {ρ : xG} {ad : xL} {n z u : Int} (I : xI n τ) (hz0 : rg z) (hz1 : rg u) (ho : oK Y ρ) : CtW lc yL_close cL_close 5 (some .int) [(0, 10, 13, 19), (0, 10, 17, 23)] (rmL 8 12 224) D Y A ad (jG Y τ σ ρ ad) [.ref (ad 0 0), .int (iI z), .int (iI u), .ref (ad 61 0)] (pW Y (kClo τ z u) (vL Y ((iI (τ 4 z 0)).toInt64)) (mQ (kClo τ z u) (up τ 4 z 0 u) τ) σ ad) := by
  refine CtW_of hlc (by decide +kernel) rfl (own := RL) (l0 := [some (.ref (ad 0 0)), some (.int (iI z)), some (.int (iI u)), some (.ref (ad 61 0)), none]) rfl (Nat.le_of_ble_eq_true rfl) (fun κ C M => ?_)
  obtain ⟨fo, hfo⟩ := ho.1
  refine X_aload_n C rfl dL_close_0 ?_
  refine X_iconst C dL_close_1 ?_
  refine X_aload_n C rfl dL_close_2 ?_
  refine X_iload_n C rfl dL_close_3 ?_
  refine X_iload_n C rfl dL_close_4 ?_
  refine X_callVg C (c_X8_close C.hlc I hz0 hz1) cv_L_35 (jG_0 rfl) ⟨_, _, rfl⟩ (As := [.int (iI z), .int (iI u)]) rfl rfl rfl rfl dL_close_5 (fun E ad9 g9 hp => ?_) (fun r ad9 g9 hp => ?_)
  · obtain ⟨hp, rfl, rfl⟩ := hp
    rcases exn_s hp with ⟨hk, he⟩ | hp
    · subst he
      refine XTh.caught C M [] ⟨0, 10, 13, 19⟩ [⟨0, 10, 17, 23⟩] rfl (fun _ h => absurd h List.not_mem_nil) rfl (by decide) lk_19 (List.mem_of_getElem? (i := 2) (by decide +kernel)) (fun q9 => ?_)
      refine X_astore_4 C (by decide) rfl dL_close_13 ?_
      refine X_iconst C dL_close_15 ?_
      exact X_iretW C M rfl (by decide) (by decide) dL_close_16 (pW_no ho (by omega) (by decide))
    rcases exn_s hp with ⟨hk, he⟩ | hp
    · subst he
      refine XTh.caught C M [⟨0, 10, 13, 19⟩] ⟨0, 10, 17, 23⟩ [] rfl (List.forall_mem_cons.mpr ⟨⟨by decide, _, lk_19, List.mem_of_getElem? (i := 15) (by decide +kernel)⟩, fun _ h => absurd h List.not_mem_nil⟩) rfl (by decide) lk_23 (List.mem_of_getElem? (i := 4) (by decide +kernel)) (fun q9 => ?_)
      refine X_astore_4 C (by decide) rfl dL_close_17 ?_
      refine X_iconst C dL_close_19 ?_
      exact X_iretW C M rfl (by decide) (by decide) dL_close_20 (pW_no ho (by omega) (by decide))
    · exact (exn_nil hp).elim
  · obtain ⟨hk, rfl, rfl, rfl⟩ := hp
    refine X_i2lR C dL_close_8 ?_
    refine X_last C ((jG_at (by decide)).trans hfo) (by decide) (by decide) (by decide) dL_close_9 ?_
    rw [jG_rho (by decide)]
    refine X_goto (tgt := 21) C dL_close_10 rfl ?_
    refine X_iconst C dL_close_21 ?_
    have hw := pW_L (x := (iI (τ 4 z 0)).toInt64) (C := (up τ 4 z 0 u)) (τ := τ) (σ := σ) (f := fo) (ad := ad9) (ad2 := ad9) ho hk xKp_rf
    exact X_iretW C M rfl (by decide) (by decide) dL_close_22 hw
theorem w_length {lc : Launch} (hlc : lc.stackTraces = false) {D : va_G} {Y : Nat → ClassId} {A : Nat → Prop} {τ σ : xS} {ρ : xG} {ad : xL} {n z : Int} (I : xI n τ) (hz0 : rg z) (ho : oK Y ρ) : CtW lc yL_length cL_length 4 (some .int) [(0, 9, 12, 19)] (rmL 8 12 224) D Y A ad (jG Y τ σ ρ ad) [.ref (ad 0 0), .int (iI z), .ref (ad 61 0)] (pW Y (kDoc τ z) (vL Y ((iI (τ 1 (2 * z) 0)).toInt64)) τ σ ad) := by
  refine CtW_of hlc (by decide +kernel) rfl (own := RL) (l0 := [some (.ref (ad 0 0)), some (.int (iI z)), some (.ref (ad 61 0)), none]) rfl (Nat.le_of_ble_eq_true rfl) (fun κ C M => ?_)
  obtain ⟨fo, hfo⟩ := ho.1
  refine X_aload_n C rfl dL_length_0 ?_
  refine X_iconst C dL_length_1 ?_
  refine X_aload_n C rfl dL_length_2 ?_
  refine X_iload_n C rfl dL_length_3 ?_
  refine X_callVg C (c_X8_length C.hlc I hz0) cv_L_38 (jG_0 rfl) ⟨_, _, rfl⟩ (As := [.int (iI z)]) rfl rfl rfl rfl dL_length_4 (fun E ad9 g9 hp => ?_) (fun r ad9 g9 hp => ?_)
  · obtain ⟨hp, rfl, rfl⟩ := hp
    rcases exn_s hp with ⟨hk, he⟩ | hp
    · subst he
      refine XTh.caught C M [] ⟨0, 9, 12, 19⟩ [] rfl (fun _ h => absurd h List.not_mem_nil) rfl (by decide) lk_19 (List.mem_of_getElem? (i := 2) (by decide +kernel)) (fun q9 => ?_)
      refine X_astore_3 C (by decide) rfl dL_length_12 ?_
      refine X_iconst C dL_length_13 ?_
      have hw := pW_no (V := vL Y ((iI (τ 1 (2 * z) 0)).toInt64)) (C := τ) (τ := τ) (σ := σ) (ad := ad9) ho (show kDoc τ z = 1 by omega) (by decide)
      rw [mQ_sm] at hw
      exact X_iretW C M rfl (by decide) (by decide) dL_length_14 hw
    · exact (exn_nil hp).elim
  · obtain ⟨hk, rfl, rfl, rfl⟩ := hp
    refine X_i2lR C dL_length_7 ?_
    refine X_last C ((jG_at (by decide)).trans hfo) (by decide) (by decide) (by decide) dL_length_8 ?_
    rw [jG_rho (by decide)]
    refine X_goto (tgt := 15) C dL_length_9 rfl ?_
    refine X_iconst C dL_length_15 ?_
    have hw := pW_L (x := (iI (τ 1 (2 * z) 0)).toInt64) (C := τ) (τ := τ) (σ := σ) (f := fo) (ad := ad9) (ad2 := ad9) ho hk xKp_rf
    rw [mQ_sm] at hw
    exact X_iretW C M rfl (by decide) (by decide) dL_length_16 hw
theorem w_codeAt {lc : Launch} (hlc : lc.stackTraces = false) {D : va_G} {Y : Nat → ClassId} {A : Nat → Prop} {τ σ : xS} {ρ : xG} {ad : xL} {n z p : Int} (I : xI n τ) (hz0 : rg z) (hz1 : rg p) (ho : oK Y ρ) : CtW lc yL_codeAt cL_codeAt 5 (some .int) [(0, 10, 13, 19), (0, 10, 17, 21)] (rmL 8 12 224) D Y A ad (jG Y τ σ ρ ad) [.ref (ad 0 0), .int (iI z), .int (iI p), .ref (ad 61 0)] (pW Y (kCod τ z p) (vL Y ((iI (tAt τ (2 * z) p)).toInt64)) τ σ ad) := by
  refine CtW_of hlc (by decide +kernel) rfl (own := RL) (l0 := [some (.ref (ad 0 0)), some (.int (iI z)), some (.int (iI p)), some (.ref (ad 61 0)), none]) rfl (Nat.le_of_ble_eq_true rfl) (fun κ C M => ?_)
  obtain ⟨fo, hfo⟩ := ho.1
  refine X_aload_n C rfl dL_codeAt_0 ?_
  refine X_iconst C dL_codeAt_1 ?_
  refine X_aload_n C rfl dL_codeAt_2 ?_
  refine X_iload_n C rfl dL_codeAt_3 ?_
  refine X_iload_n C rfl dL_codeAt_4 ?_
  refine X_callVg C (c_X8_codeAt C.hlc I hz0 hz1) cv_L_42 (jG_0 rfl) ⟨_, _, rfl⟩ (As := [.int (iI z), .int (iI p)]) rfl rfl rfl rfl dL_codeAt_5 (fun E ad9 g9 hp => ?_) (fun r ad9 g9 hp => ?_)
  · obtain ⟨hp, rfl, rfl⟩ := hp
    rcases exn_s hp with ⟨hk, he⟩ | hp
    · subst he
      refine XTh.caught C M [] ⟨0, 10, 13, 19⟩ [⟨0, 10, 17, 21⟩] rfl (fun _ h => absurd h List.not_mem_nil) rfl (by decide) lk_19 (List.mem_of_getElem? (i := 2) (by decide +kernel)) (fun q9 => ?_)
      refine X_astore_4 C (by decide) rfl dL_codeAt_13 ?_
      refine X_iconst C dL_codeAt_15 ?_
      have hw := pW_no (V := vL Y ((iI (tAt τ (2 * z) p)).toInt64)) (C := τ) (τ := τ) (σ := σ) (ad := ad9) ho (show kCod τ z p = 1 by omega) (by decide)
      rw [mQ_sm] at hw
      exact X_iretW C M rfl (by decide) (by decide) dL_codeAt_16 hw
    rcases exn_s hp with ⟨hk, he⟩ | hp
    · subst he
      refine XTh.caught C M [⟨0, 10, 13, 19⟩] ⟨0, 10, 17, 21⟩ [] rfl (List.forall_mem_cons.mpr ⟨⟨by decide, _, lk_19, List.mem_of_getElem? (i := 10) (by decide +kernel)⟩, fun _ h => absurd h List.not_mem_nil⟩) rfl (by decide) lk_21 (List.mem_of_getElem? (i := 3) (by decide +kernel)) (fun q9 => ?_)
      refine X_astore_4 C (by decide) rfl dL_codeAt_17 ?_
      refine X_iconst C dL_codeAt_19 ?_
      have hw := pW_no (V := vL Y ((iI (tAt τ (2 * z) p)).toInt64)) (C := τ) (τ := τ) (σ := σ) (ad := ad9) ho (show kCod τ z p = 2 by omega) (by decide)
      rw [mQ_sm] at hw
      exact X_iretW C M rfl (by decide) (by decide) dL_codeAt_20 hw
    · exact (exn_nil hp).elim
  · obtain ⟨hk, rfl, rfl, rfl⟩ := hp
    refine X_i2lR C dL_codeAt_8 ?_
    refine X_last C ((jG_at (by decide)).trans hfo) (by decide) (by decide) (by decide) dL_codeAt_9 ?_
    rw [jG_rho (by decide)]
    refine X_goto (tgt := 21) C dL_codeAt_10 rfl ?_
    refine X_iconst C dL_codeAt_21 ?_
    have hw := pW_L (x := (iI (tAt τ (2 * z) p)).toInt64) (C := τ) (τ := τ) (σ := σ) (f := fo) (ad := ad9) (ad2 := ad9) ho hk xKp_rf
    rw [mQ_sm] at hw
    exact X_iretW C M rfl (by decide) (by decide) dL_codeAt_22 hw
theorem w_version {lc : Launch} (hlc : lc.stackTraces = false) {D : va_G} {Y : Nat → ClassId} {A : Nat → Prop} {τ σ : xS} {ρ : xG} {ad : xL} {n z : Int} (I : xI n τ) (hz0 : rg z) (ho : oK Y ρ) : CtW lc yL_version cL_version 4 (some .int) [(0, 9, 12, 19)] (rmL 8 12 224) D Y A ad (jG Y τ σ ρ ad) [.ref (ad 0 0), .int (iI z), .ref (ad 61 0)] (pW Y (kDoc τ z) (vL Y ((iI (τ 2 z 0)).toInt64)) τ σ ad) := by
  refine CtW_of hlc (by decide +kernel) rfl (own := RL) (l0 := [some (.ref (ad 0 0)), some (.int (iI z)), some (.ref (ad 61 0)), none]) rfl (Nat.le_of_ble_eq_true rfl) (fun κ C M => ?_)
  obtain ⟨fo, hfo⟩ := ho.1
  refine X_aload_n C rfl dL_version_0 ?_
  refine X_iconst C dL_version_1 ?_
  refine X_aload_n C rfl dL_version_2 ?_
  refine X_iload_n C rfl dL_version_3 ?_
  refine X_callVg C (c_X8_version C.hlc I hz0) cv_L_45 (jG_0 rfl) ⟨_, _, rfl⟩ (As := [.int (iI z)]) rfl rfl rfl rfl dL_version_4 (fun E ad9 g9 hp => ?_) (fun r ad9 g9 hp => ?_)
  · obtain ⟨hp, rfl, rfl⟩ := hp
    rcases exn_s hp with ⟨hk, he⟩ | hp
    · subst he
      refine XTh.caught C M [] ⟨0, 9, 12, 19⟩ [] rfl (fun _ h => absurd h List.not_mem_nil) rfl (by decide) lk_19 (List.mem_of_getElem? (i := 2) (by decide +kernel)) (fun q9 => ?_)
      refine X_astore_3 C (by decide) rfl dL_version_12 ?_
      refine X_iconst C dL_version_13 ?_
      have hw := pW_no (V := vL Y ((iI (τ 2 z 0)).toInt64)) (C := τ) (τ := τ) (σ := σ) (ad := ad9) ho (show kDoc τ z = 1 by omega) (by decide)
      rw [mQ_sm] at hw
      exact X_iretW C M rfl (by decide) (by decide) dL_version_14 hw
    · exact (exn_nil hp).elim
  · obtain ⟨hk, rfl, rfl, rfl⟩ := hp
    refine X_i2lR C dL_version_7 ?_
    refine X_last C ((jG_at (by decide)).trans hfo) (by decide) (by decide) (by decide) dL_version_8 ?_
    rw [jG_rho (by decide)]
    refine X_goto (tgt := 15) C dL_version_9 rfl ?_
    refine X_iconst C dL_version_15 ?_
    have hw := pW_L (x := (iI (τ 2 z 0)).toInt64) (C := τ) (τ := τ) (σ := σ) (f := fo) (ad := ad9) (ad2 := ad9) ho hk xKp_rf
    rw [mQ_sm] at hw
    exact X_iretW C M rfl (by decide) (by decide) dL_version_16 hw
theorem w_comment {lc : Launch} (hlc : lc.stackTraces = false) {D : va_G} {Y : Nat → ClassId} {A : Nat → Prop} {τ σ : xS} {ρ : xG} {ad : xL} {n z f t : Int} (I : xI n τ) (hz0 : rg z) (hz1 : rg f) (hz2 : rg t) (ho : oK Y ρ) : CtW lc yL_comment cL_comment 6 (some .int) [(0, 12, 15, 19), (0, 12, 19, 21), (0, 12, 23, 13)] (rmL 8 12 224) D Y A ad (jG Y τ σ ρ ad) [.ref (ad 0 0), .int (iI z), .int (iI f), .int (iI t), .ref (ad 61 0)] (pW Y (kCom τ z f t) (vL Y ((iI (τ 31 0 0)).toInt64)) (mQ (kCom τ z f t) (comS τ z f t) τ) σ ad) := by
  refine CtW_of hlc (by decide +kernel) rfl (own := RL) (l0 := [some (.ref (ad 0 0)), some (.int (iI z)), some (.int (iI f)), some (.int (iI t)), some (.ref (ad 61 0)), none]) rfl (Nat.le_of_ble_eq_true rfl) (fun κ C M => ?_)
  obtain ⟨fo, hfo⟩ := ho.1
  refine X_aload C rfl dL_comment_0 ?_
  refine X_iconst C dL_comment_2 ?_
  refine X_aload_n C rfl dL_comment_3 ?_
  refine X_iload_n C rfl dL_comment_4 ?_
  refine X_iload_n C rfl dL_comment_5 ?_
  refine X_iload_n C rfl dL_comment_6 ?_
  refine X_callVg C (c_X8_comment C.hlc I hz0 hz1 hz2) cv_L_48 (jG_0 rfl) ⟨_, _, rfl⟩ (As := [.int (iI z), .int (iI f), .int (iI t)]) rfl rfl rfl rfl dL_comment_7 (fun E ad9 g9 hp => ?_) (fun r ad9 g9 hp => ?_)
  · obtain ⟨hp, rfl, rfl⟩ := hp
    rcases exn_s hp with ⟨hk, he⟩ | hp
    · subst he
      refine XTh.caught C M [] ⟨0, 12, 15, 19⟩ [⟨0, 12, 19, 21⟩, ⟨0, 12, 23, 13⟩] rfl (fun _ h => absurd h List.not_mem_nil) rfl (by decide) lk_19 (List.mem_of_getElem? (i := 2) (by decide +kernel)) (fun q9 => ?_)
      refine X_astore_5 C (by decide) rfl dL_comment_15 ?_
      refine X_iconst C dL_comment_17 ?_
      exact X_iretW C M rfl (by decide) (by decide) dL_comment_18 (pW_no ho (by omega) (by decide))
    rcases exn_s hp with ⟨hk, he⟩ | hp
    · subst he
      refine XTh.caught C M [⟨0, 12, 15, 19⟩] ⟨0, 12, 19, 21⟩ [⟨0, 12, 23, 13⟩] rfl (List.forall_mem_cons.mpr ⟨⟨by decide, _, lk_19, List.mem_of_getElem? (i := 10) (by decide +kernel)⟩, fun _ h => absurd h List.not_mem_nil⟩) rfl (by decide) lk_21 (List.mem_of_getElem? (i := 3) (by decide +kernel)) (fun q9 => ?_)
      refine X_astore_5 C (by decide) rfl dL_comment_19 ?_
      refine X_iconst C dL_comment_21 ?_
      exact X_iretW C M rfl (by decide) (by decide) dL_comment_22 (pW_no ho (by omega) (by decide))
    rcases exn_s hp with ⟨hk, he⟩ | hp
    · subst he
      refine XTh.caught C M [⟨0, 12, 15, 19⟩, ⟨0, 12, 19, 21⟩] ⟨0, 12, 23, 13⟩ [] rfl (List.forall_mem_cons.mpr ⟨⟨by decide, _, lk_19, List.mem_of_getElem? (i := 5) (by decide +kernel)⟩, List.forall_mem_cons.mpr ⟨⟨by decide, _, lk_21, List.mem_of_getElem? (i := 6) (by decide +kernel)⟩, fun _ h => absurd h List.not_mem_nil⟩⟩) rfl (by decide) lk_13 (List.mem_of_getElem? (i := 0) (by decide +kernel)) (fun q9 => ?_)
      refine X_astore_5 C (by decide) rfl dL_comment_23 ?_
      refine X_iconst C dL_comment_25 ?_
      exact X_iretW C M rfl (by decide) (by decide) dL_comment_26 (pW_no ho (by omega) (by decide))
    · exact (exn_nil hp).elim
  · obtain ⟨hk, rfl, hkp, rfl⟩ := hp
    refine X_i2lR C dL_comment_10 ?_
    rw [show ad 61 0 = ad9 61 0 from (hkp 61 0 (by omega)).symm]
    refine X_last C ((jG_at (by decide)).trans hfo) (by decide) (by decide) (by decide) dL_comment_11 ?_
    rw [jG_rho (by decide)]
    refine X_goto (tgt := 27) C dL_comment_12 rfl ?_
    refine X_iconst C dL_comment_27 ?_
    have hw := pW_L (x := (iI (τ 31 0 0)).toInt64) (C := (comS τ z f t)) (τ := τ) (σ := σ) (f := fo) (ad := ad) (ad2 := ad9) ho hk hkp
    exact X_iretW C M rfl (by decide) (by decide) dL_comment_28 hw
theorem w_answer {lc : Launch} (hlc : lc.stackTraces = false) {D : va_G} {Y : Nat → ClassId} {A : Nat → Prop} {τ σ : xS} {ρ : xG} {ad : xL} {n z : Int} (I : xI n τ) (hz0 : rg z) (ho : oK Y ρ) : CtW lc yL_answer cL_answer 4 (some .int) [(0, 9, 12, 19), (0, 9, 15, 13)] (rmL 8 12 224) D Y A ad (jG Y τ σ ρ ad) [.ref (ad 0 0), .int (iI z), .ref (ad 61 0)] (pW Y (kAns τ z) (vL Y ((iI (opA (up τ 8 z 0 0) (τ 5 z 0) (τ 31 0 0))).toInt64)) (mQ (kAns τ z) (up τ 8 z 0 0) τ) σ ad) := by
  refine CtW_of hlc (by decide +kernel) rfl (own := RL) (l0 := [some (.ref (ad 0 0)), some (.int (iI z)), some (.ref (ad 61 0)), none]) rfl (Nat.le_of_ble_eq_true rfl) (fun κ C M => ?_)
  obtain ⟨fo, hfo⟩ := ho.1
  refine X_aload_n C rfl dL_answer_0 ?_
  refine X_iconst C dL_answer_1 ?_
  refine X_aload_n C rfl dL_answer_2 ?_
  refine X_iload_n C rfl dL_answer_3 ?_
  refine X_callVg C (c_X8_answer C.hlc I hz0) cv_L_51 (jG_0 rfl) ⟨_, _, rfl⟩ (As := [.int (iI z)]) rfl rfl rfl rfl dL_answer_4 (fun E ad9 g9 hp => ?_) (fun r ad9 g9 hp => ?_)
  · obtain ⟨hp, rfl, rfl⟩ := hp
    rcases exn_s hp with ⟨hk, he⟩ | hp
    · subst he
      refine XTh.caught C M [] ⟨0, 9, 12, 19⟩ [⟨0, 9, 15, 13⟩] rfl (fun _ h => absurd h List.not_mem_nil) rfl (by decide) lk_19 (List.mem_of_getElem? (i := 2) (by decide +kernel)) (fun q9 => ?_)
      refine X_astore_3 C (by decide) rfl dL_answer_12 ?_
      refine X_iconst C dL_answer_13 ?_
      exact X_iretW C M rfl (by decide) (by decide) dL_answer_14 (pW_no ho (by omega) (by decide))
    rcases exn_s hp with ⟨hk, he⟩ | hp
    · subst he
      refine XTh.caught C M [⟨0, 9, 12, 19⟩] ⟨0, 9, 15, 13⟩ [] rfl (List.forall_mem_cons.mpr ⟨⟨by decide, _, lk_19, List.mem_of_getElem? (i := 5) (by decide +kernel)⟩, fun _ h => absurd h List.not_mem_nil⟩) rfl (by decide) lk_13 (List.mem_of_getElem? (i := 0) (by decide +kernel)) (fun q9 => ?_)
      refine X_astore_3 C (by decide) rfl dL_answer_15 ?_
      refine X_iconst C dL_answer_16 ?_
      exact X_iretW C M rfl (by decide) (by decide) dL_answer_17 (pW_no ho (by omega) (by decide))
    · exact (exn_nil hp).elim
  · obtain ⟨hk, rfl, rfl, rfl⟩ := hp
    refine X_i2lR C dL_answer_7 ?_
    refine X_last C ((jG_at (by decide)).trans hfo) (by decide) (by decide) (by decide) dL_answer_8 ?_
    rw [jG_rho (by decide)]
    refine X_goto (tgt := 18) C dL_answer_9 rfl ?_
    refine X_iconst C dL_answer_18 ?_
    have hw := pW_L (x := (iI (opA (up τ 8 z 0 0) (τ 5 z 0) (τ 31 0 0))).toInt64) (C := (up τ 8 z 0 0)) (τ := τ) (σ := σ) (f := fo) (ad := ad9) (ad2 := ad9) ho hk xKp_rf
    exact X_iretW C M rfl (by decide) (by decide) dL_answer_19 hw
theorem w_isOpen {lc : Launch} (hlc : lc.stackTraces = false) {D : va_G} {Y : Nat → ClassId} {A : Nat → Prop} {τ σ : xS} {ρ : xG} {ad : xL} {n z : Int} (I : xI n τ) (hz0 : rg z) (ho : oK Y ρ) : CtW lc yL_isOpen cL_isOpen 4 (some .int) [(0, 16, 19, 19)] (rmL 8 12 224) D Y A ad (jG Y τ σ ρ ad) [.ref (ad 0 0), .int (iI z), .ref (ad 61 0)] (pW Y (kIsO τ z) (vL Y (lI (if (τ 8 z 0) = 0 then 0 else 1))) τ σ ad) := by
  refine CtW_of hlc (by decide +kernel) rfl (own := RL) (l0 := [some (.ref (ad 0 0)), some (.int (iI z)), some (.ref (ad 61 0)), none]) rfl (Nat.le_of_ble_eq_true rfl) (fun κ C M => ?_)
  obtain ⟨fo, hfo⟩ := ho.1
  refine X_aload_n C rfl dL_isOpen_0 ?_
  refine X_iconst C dL_isOpen_1 ?_
  refine X_aload_n C rfl dL_isOpen_2 ?_
  refine X_iload_n C rfl dL_isOpen_3 ?_
  refine X_callVg C (c_X8_isOpen C.hlc I hz0) cv_L_54 (jG_0 rfl) ⟨_, _, rfl⟩ (As := [.int (iI z)]) rfl rfl rfl rfl dL_isOpen_4 (fun E ad9 g9 hp => ?_) (fun r ad9 g9 hp => ?_)
  · obtain ⟨hp, rfl, rfl⟩ := hp
    rcases exn_s hp with ⟨hk, he⟩ | hp
    · subst he
      refine XTh.caught C M [] ⟨0, 16, 19, 19⟩ [] rfl (fun _ h => absurd h List.not_mem_nil) rfl (by decide) lk_19 (List.mem_of_getElem? (i := 2) (by decide +kernel)) (fun q9 => ?_)
      refine X_astore_3 C (by decide) rfl dL_isOpen_19 ?_
      refine X_iconst C dL_isOpen_20 ?_
      have hw := pW_no (V := vL Y (lI (if (τ 8 z 0) = 0 then 0 else 1))) (C := τ) (τ := τ) (σ := σ) (ad := ad9) ho (show kIsO τ z = 1 by omega) (by decide)
      rw [mQ_sm] at hw
      exact X_iretW C M rfl (by decide) (by decide) dL_isOpen_21 hw
    · exact (exn_nil hp).elim
  · obtain ⟨hk, rfl, rfl, rfl⟩ := hp
    refine X_if_eq (tgt := 14) C dL_isOpen_7 rfl (by have h := I.op z 0; constructor <;> omega) (fun h0 => ?_) (fun h0 => ?_)
    · refine X_lconst (v := 0) C rfl dL_isOpen_14 ?_
      have e0 : lI 0 = lI (if (τ 8 z 0) = 0 then 0 else 1) := by rw [if_pos h0]
      rw [e0]
      refine X_last C ((jG_at (by decide)).trans hfo) (by decide) (by decide) (by decide) dL_isOpen_15 ?_
      rw [jG_rho (by decide)]
      refine X_goto (tgt := 22) C dL_isOpen_16 rfl ?_
      refine X_iconst C dL_isOpen_22 ?_
      have hw := pW_L (x := lI (if (τ 8 z 0) = 0 then 0 else 1)) (C := τ) (τ := τ) (σ := σ) (f := fo) (ad := ad9) (ad2 := ad9) ho hk xKp_rf
      rw [mQ_sm] at hw
      exact X_iretW C M rfl (by decide) (by decide) dL_isOpen_23 hw
    · refine X_lconst (v := 1) C rfl dL_isOpen_10 ?_
      refine X_goto (tgt := 15) C dL_isOpen_11 rfl ?_
      have e0 : lI 1 = lI (if (τ 8 z 0) = 0 then 0 else 1) := by rw [if_neg h0]
      rw [e0]
      refine X_last C ((jG_at (by decide)).trans hfo) (by decide) (by decide) (by decide) dL_isOpen_15 ?_
      rw [jG_rho (by decide)]
      refine X_goto (tgt := 22) C dL_isOpen_16 rfl ?_
      refine X_iconst C dL_isOpen_22 ?_
      have hw := pW_L (x := lI (if (τ 8 z 0) = 0 then 0 else 1)) (C := τ) (τ := τ) (σ := σ) (f := fo) (ad := ad9) (ad2 := ad9) ho hk xKp_rf
      rw [mQ_sm] at hw
      exact X_iretW C M rfl (by decide) (by decide) dL_isOpen_23 hw
theorem w_spanFrom {lc : Launch} (hlc : lc.stackTraces = false) {D : va_G} {Y : Nat → ClassId} {A : Nat → Prop} {τ σ : xS} {ρ : xG} {ad : xL} {n z : Int} (I : xI n τ) (hz0 : rg z) (ho : oK Y ρ) : CtW lc yL_spanFrom cL_spanFrom 4 (some .int) [(0, 9, 12, 19), (0, 9, 15, 13)] (rmL 8 12 224) D Y A ad (jG Y τ σ ρ ad) [.ref (ad 0 0), .int (iI z), .ref (ad 61 0)] (pW Y (kAns τ z) (vL Y ((iI (τ 6 z 0)).toInt64)) τ σ ad) := by
  refine CtW_of hlc (by decide +kernel) rfl (own := RL) (l0 := [some (.ref (ad 0 0)), some (.int (iI z)), some (.ref (ad 61 0)), none]) rfl (Nat.le_of_ble_eq_true rfl) (fun κ C M => ?_)
  obtain ⟨fo, hfo⟩ := ho.1
  refine X_aload_n C rfl dL_spanFrom_0 ?_
  refine X_iconst C dL_spanFrom_1 ?_
  refine X_aload_n C rfl dL_spanFrom_2 ?_
  refine X_iload_n C rfl dL_spanFrom_3 ?_
  refine X_callVg C (c_X8_spanFrom C.hlc I hz0) cv_L_58 (jG_0 rfl) ⟨_, _, rfl⟩ (As := [.int (iI z)]) rfl rfl rfl rfl dL_spanFrom_4 (fun E ad9 g9 hp => ?_) (fun r ad9 g9 hp => ?_)
  · obtain ⟨hp, rfl, rfl⟩ := hp
    rcases exn_s hp with ⟨hk, he⟩ | hp
    · subst he
      refine XTh.caught C M [] ⟨0, 9, 12, 19⟩ [⟨0, 9, 15, 13⟩] rfl (fun _ h => absurd h List.not_mem_nil) rfl (by decide) lk_19 (List.mem_of_getElem? (i := 2) (by decide +kernel)) (fun q9 => ?_)
      refine X_astore_3 C (by decide) rfl dL_spanFrom_12 ?_
      refine X_iconst C dL_spanFrom_13 ?_
      have hw := pW_no (V := vL Y ((iI (τ 6 z 0)).toInt64)) (C := τ) (τ := τ) (σ := σ) (ad := ad9) ho (show kAns τ z = 1 by omega) (by decide)
      rw [mQ_sm] at hw
      exact X_iretW C M rfl (by decide) (by decide) dL_spanFrom_14 hw
    rcases exn_s hp with ⟨hk, he⟩ | hp
    · subst he
      refine XTh.caught C M [⟨0, 9, 12, 19⟩] ⟨0, 9, 15, 13⟩ [] rfl (List.forall_mem_cons.mpr ⟨⟨by decide, _, lk_19, List.mem_of_getElem? (i := 5) (by decide +kernel)⟩, fun _ h => absurd h List.not_mem_nil⟩) rfl (by decide) lk_13 (List.mem_of_getElem? (i := 0) (by decide +kernel)) (fun q9 => ?_)
      refine X_astore_3 C (by decide) rfl dL_spanFrom_15 ?_
      refine X_iconst C dL_spanFrom_16 ?_
      have hw := pW_no (V := vL Y ((iI (τ 6 z 0)).toInt64)) (C := τ) (τ := τ) (σ := σ) (ad := ad9) ho (show kAns τ z = 2 by omega) (by decide)
      rw [mQ_sm] at hw
      exact X_iretW C M rfl (by decide) (by decide) dL_spanFrom_17 hw
    · exact (exn_nil hp).elim
  · obtain ⟨hk, rfl, rfl, rfl⟩ := hp
    refine X_i2lR C dL_spanFrom_7 ?_
    refine X_last C ((jG_at (by decide)).trans hfo) (by decide) (by decide) (by decide) dL_spanFrom_8 ?_
    rw [jG_rho (by decide)]
    refine X_goto (tgt := 18) C dL_spanFrom_9 rfl ?_
    refine X_iconst C dL_spanFrom_18 ?_
    have hw := pW_L (x := (iI (τ 6 z 0)).toInt64) (C := τ) (τ := τ) (σ := σ) (f := fo) (ad := ad9) (ad2 := ad9) ho hk xKp_rf
    rw [mQ_sm] at hw
    exact X_iretW C M rfl (by decide) (by decide) dL_spanFrom_19 hw
