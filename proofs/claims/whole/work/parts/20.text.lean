set_option maxRecDepth 100000 in
set_option maxHeartbeats 4000000 in
theorem c_X7_at {lc : Launch} (hlc : lc.stackTraces = false) {D : va_G} {Y : Nat → ClassId} {A : Nat → Prop} {τ σ : xS} {ρ : xG} {ad : xL} {t z : Int} (h0 : 0 ≤ t) (h1 : t < 2 * τ 30 0 0) (hz : rg z) (hb : 0 ≤ τ 1 t 0 ∧ τ 1 t 0 ≤ 80) : Ct lc yX7_at cX7_at 2 (some .int) (rmL 0 0 0) D Y A ad (jG Y τ σ ρ ad) [.ref (ad 12 t), .int (iI z)] (pE (some (.int (iI (tAt τ t z)))) ad (jG Y τ σ ρ ad)) (pF) := by
  refine Ct_of hlc (by decide +kernel) rfl rfl (own := RX7) (nm := "at") (l0 := [some (.ref (ad 12 t)), some (.int (iI z))]) rfl (Nat.le_of_ble_eq_true rfl) (fun κ C M => ?_)
  refine X_iload_n C rfl dX7_at_0 ?_
  refine X_if_lt C (tgt := 21) dX7_at_1 (by decide) ⟨by omega, by omega⟩ (fun c_1 => ?_) (fun c_1 => ?_)
  · refine X_iconst C dX7_at_21 ?_
    exact X_ireturn C M rfl (by decide) (by decide) dX7_at_22 ⟨rI (by unfold tAt; split <;> omega), rfl, rfl⟩
  · refine X_iload_n C rfl dX7_at_4 ?_
    refine X_aload_n C rfl dX7_at_5 ?_
    refine Xg_X7_size C ⟨h0, h1⟩ rfl fl_X7_15 dX7_at_6 ?_
    refine X_icmp_ge C (tgt := 21) dX7_at_9 (by decide) ⟨by omega, by omega⟩ ⟨by omega, by omega⟩ (fun c_9 => ?_) (fun c_9 => ?_)
    · refine X_iconst C dX7_at_21 ?_
      exact X_ireturn C M rfl (by decide) (by decide) dX7_at_22 ⟨rI (by unfold tAt; split <;> omega), rfl, rfl⟩
    · refine X_aload_n C rfl dX7_at_12 ?_
      refine Xg_X7_codes C ⟨h0, h1⟩ fl_X7_9 dX7_at_13 ?_
      refine X_iload_n C rfl dX7_at_16 ?_
      refine Xa_tcodes_ld C ⟨h0, h1⟩ (by omega) (by omega) rfl dX7_at_17 ?_
      refine X_goto C (tgt := 22) dX7_at_18 (by decide) ?_
      exact X_ireturn C M rfl (by decide) (by decide) dX7_at_22 ⟨rI (by unfold tAt; split <;> omega), rfl, rfl⟩
set_option maxRecDepth 100000 in
set_option maxHeartbeats 4000000 in
theorem c_X2_sheetCount {lc : Launch} (hlc : lc.stackTraces = false) {D : va_G} {Y : Nat → ClassId} {A : Nat → Prop} {τ σ : xS} {ρ : xG} {ad : xL} {n : Int} (h0 : 0 ≤ n) (h1 : n ≤ 80) : Ct lc yX2_sheetCount cX2_sheetCount 2 (some .int) (rmL 0 0 0) D Y A ad (jG Y τ σ ρ ad) [.int (iI n)] (pE (some (.int (iI (shC n)))) ad (jG Y τ σ ρ ad)) (pF) := by
  refine Ct_of hlc (by decide +kernel) rfl rfl (own := RX2) (nm := "sheetCount") (l0 := [some (.int (iI n)), none]) rfl (Nat.le_of_ble_eq_true rfl) (fun κ C M => ?_)
  refine X_iload_n C rfl dX2_sheetCount_0 ?_
  refine X_bipush C ⟨by decide, by decide⟩ dX2_sheetCount_1 ?_
  refine X_iadd C dX2_sheetCount_3 ?_
  refine X_iconst C dX2_sheetCount_4 ?_
  refine X_isub C dX2_sheetCount_5 ?_
  refine X_bipush C ⟨by decide, by decide⟩ dX2_sheetCount_6 ?_
  refine X_idiv C ⟨by omega, by omega⟩ (by omega) ⟨by omega, by omega⟩ (by omega) dX2_sheetCount_8 ?_
  refine X_istore_1 C (by decide) rfl dX2_sheetCount_9 ?_
  refine X_iload_n C rfl dX2_sheetCount_10 ?_
  refine X_iconst C dX2_sheetCount_11 ?_
  refine X_iadd C dX2_sheetCount_12 ?_
  refine X_iconst C dX2_sheetCount_13 ?_
  refine X_isub C dX2_sheetCount_14 ?_
  refine X_iconst C dX2_sheetCount_15 ?_
  refine X_idiv C ⟨by omega, by omega⟩ (by omega) ⟨by omega, by omega⟩ (by omega) dX2_sheetCount_16 ?_
  exact X_ireturn C M rfl (by decide) (by decide) dX2_sheetCount_17 ⟨rI (by unfold shC; omega), rfl, rfl⟩
