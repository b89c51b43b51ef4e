set_option maxRecDepth 100000 in
set_option maxHeartbeats 4000000 in
theorem c_X7_at {lc : Launch} (hlc : lc.stackTraces = false) {D : va_G} {Y : Nat → ClassId} {A : Nat → Prop} {τ σ : xS} {ρ : xG} {ad : xL} {t z : Int} (h0 : 0 ≤ t) (h1 : t < 2 * τ 30 0 0) (hz : rg z) (hb : 0 ≤ τ 1 t 0 ∧ τ 1 t 0 ≤ 80) : Ct lc yX7_at cX7_at 2 (some .int) (rmL 0 0 0) D Y A ad (jG Y τ σ ρ ad) [.ref (ad 12 t), .int (iI z)] (pE (some (.int (iI (tAt τ t z)))) ad (jG Y τ σ ρ ad)) (pF) := by
  refine Ct_of hlc (by decide +kernel) rfl rfl (own := RX7) (nm := "at") (l0 := [some (.ref (ad 12 t)), some (.int (iI z))]) rfl (Nat.le_of_ble_eq_true rfl) (fun κ C M => ?_)
  refine X_iload_n C rfl dX7_at_0 ?_
  refine X_if_lt C (tgt := 21) dX7_at_1 (by decide) ⟨by omega, by omega⟩ (fun c_1 => ?_) (fun c_1 => ?_)
  · refine X_iconst C dX7_at_21 ?_
    exact X_ireturn C M rfl (by decide) (by decide) dX7_at_22 ⟨rI (by unfold tAt; split <;> omega), rfl, rfl⟩
  · refine X_iload_n C rfl dX7_at_4 ?_
    refine X_aload_n C rfl dX7_at_5 ?_
    refine Xg_X7_size C ⟨h0, h1⟩ rfl fl_X7_15 dX7_at_6 ?_
    refine X_icmp_ge C (tgt := 21) dX7_at_9 (by decide) ⟨by omega, by omega⟩ ⟨by omega, by omega⟩ (fun c_9 => ?_) (fun c_9 => ?_)
    · refine X_iconst C dX7_at_21 ?_
      exact X_ireturn C M rfl (by decide) (by decide) dX7_at_22 ⟨rI (by unfold tAt; split <;> omega), rfl, rfl⟩
    · refine X_aload_n C rfl dX7_at_12 ?_
      refine Xg_X7_codes C ⟨h0, h1⟩ fl_X7_9 dX7_at_13 ?_
      refine X_iload_n C rfl dX7_at_16 ?_
      refine Xa_tcodes_ld C ⟨h0, h1⟩ (by omega) (by omega) rfl dX7_at_17 ?_
      refine X_goto C (tgt := 22) dX7_at_18 (by decide) ?_
      exact X_ireturn C M rfl (by decide) (by decide) dX7_at_22 ⟨rI (by unfold tAt; split <;> omega), rfl, rfl⟩
set_option maxRecDepth 100000 in
set_option maxHeartbeats 4000000 in
theorem c_X2_sheetCount {lc : Launch} (hlc : lc.stackTraces = false) {D : va_G} {Y : Nat → ClassId} {A : Nat → Prop} {τ σ : xS} {ρ : xG} {ad : xL} {n : Int} (h0 : 0 ≤ n) (h1 : n ≤ 80) : Ct lc yX2_sheetCount cX2_sheetCount 2 (some .int) (rmL 0 0 0) D Y A ad (jG Y τ σ ρ ad) [.int (iI n)] (pE (some (.int (iI (shC n)))) ad (jG Y τ σ ρ ad)) (pF) := by
  refine Ct_of hlc (by decide +kernel) rfl rfl (own := RX2) (nm := "sheetCount") (l0 := [some (.int (iI n)), none]) rfl (Nat.le_of_ble_eq_true rfl) (fun κ C M => ?_)
  refine X_iload_n C rfl dX2_sheetCount_0 ?_
  refine X_bipush C ⟨by decide, by decide⟩ dX2_sheetCount_1 ?_
  refine X_iadd C dX2_sheetCount_3 ?_
  refine X_iconst C dX2_sheetCount_4 ?_
  refine X_isub C dX2_sheetCount_5 ?_
  refine X_bipush C ⟨by decide, by decide⟩ dX2_sheetCount_6 ?_
  refine X_idiv C ⟨by omega, by omega⟩ (by omega) ⟨by omega, by omega⟩ (by omega) dX2_sheetCount_8 ?_
  refine X_istore_1 C (by decide) rfl dX2_sheetCount_9 ?_
  refine X_iload_n C rfl dX2_sheetCount_10 ?_
  refine X_iconst C dX2_sheetCount_11 ?_
  refine X_iadd C dX2_sheetCount_12 ?_
  refine X_iconst C dX2_sheetCount_13 ?_
  refine X_isub C dX2_sheetCount_14 ?_
  refine X_iconst C dX2_sheetCount_15 ?_
  refine X_idiv C ⟨by omega, by omega⟩ (by omega) ⟨by omega, by omega⟩ (by omega) dX2_sheetCount_16 ?_
  exact X_ireturn C M rfl (by decide) (by decide) dX2_sheetCount_17 ⟨rI (by unfold shC; omega), rfl, rfl⟩
set_option maxRecDepth 100000 in
set_option maxHeartbeats 4000000 in
theorem c_X2_pageAt {lc : Launch} (hlc : lc.stackTraces = false) {D : va_G} {Y : Nat → ClassId} {A : Nat → Prop} {τ σ : xS} {ρ : xG} {ad : xL} {S s q : Int} (hS : 0 ≤ S ∧ S ≤ 3) (hs : 0 ≤ s ∧ s ≤ 3) (hq : 0 ≤ q ∧ q ≤ 3) : Ct lc yX2_pageAt cX2_pageAt 4 (some .int) (rmL 0 0 0) D Y A ad (jG Y τ σ ρ ad) [.int (iI S), .int (iI s), .int (iI q)] (pE (some (.int (iI (pgA S s q)))) ad (jG Y τ σ ρ ad)) (pF) := by
  refine Ct_of hlc (by decide +kernel) rfl rfl (own := RX2) (nm := "pageAt") (l0 := [some (.int (iI S)), some (.int (iI s)), some (.int (iI q)), none]) rfl (Nat.le_of_ble_eq_true rfl) (fun κ C M => ?_)
  refine X_iconst C dX2_pageAt_0 ?_
  refine X_iload_n C rfl dX2_pageAt_1 ?_
  refine X_imul C dX2_pageAt_2 ?_
  refine X_istore_3 C (by decide) rfl dX2_pageAt_3 ?_
  refine X_iload_n C rfl dX2_pageAt_4 ?_
  by_cases q0 : q = 0
  · subst q0
    refine X_tabIn C ⟨by omega, by omega⟩ dX2_pageAt_5 (by decide) (by decide) rfl (by decide : ((0 + 1 + 1 + 1 + 1 + 1 : Nat) : Int) + _ = ((32 : Nat) : Int)) ?_
    refine X_iload_n C rfl dX2_pageAt_32 ?_
    refine X_iconst C dX2_pageAt_33 ?_
    refine X_isub C dX2_pageAt_34 ?_
    refine X_iconst C dX2_pageAt_35 ?_
    refine X_iload_n C rfl dX2_pageAt_36 ?_
    refine X_imul C dX2_pageAt_37 ?_
    refine X_isub C dX2_pageAt_38 ?_
    exact X_ireturn C M rfl (by decide) (by decide) dX2_pageAt_39 ⟨rI (by unfold pgA; (repeat' split) <;> omega), rfl, rfl⟩
  by_cases q1 : q = 1
  · subst q1
    refine X_tabIn C ⟨by omega, by omega⟩ dX2_pageAt_5 (by decide) (by decide) rfl (by decide : ((0 + 1 + 1 + 1 + 1 + 1 : Nat) : Int) + _ = ((40 : Nat) : Int)) ?_
    refine X_iconst C dX2_pageAt_40 ?_
    refine X_iload_n C rfl dX2_pageAt_41 ?_
    refine X_imul C dX2_pageAt_42 ?_
    exact X_ireturn C M rfl (by decide) (by decide) dX2_pageAt_43 ⟨rI (by unfold pgA; (repeat' split) <;> omega), rfl, rfl⟩
  by_cases q2 : q = 2
  · subst q2
    refine X_tabIn C ⟨by omega, by omega⟩ dX2_pageAt_5 (by decide) (by decide) rfl (by decide : ((0 + 1 + 1 + 1 + 1 + 1 : Nat) : Int) + _ = ((44 : Nat) : Int)) ?_
    refine X_iconst C dX2_pageAt_44 ?_
    refine X_iload_n C rfl dX2_pageAt_45 ?_
    refine X_imul C dX2_pageAt_46 ?_
    refine X_iconst C dX2_pageAt_47 ?_
    refine X_iadd C dX2_pageAt_48 ?_
    exact X_ireturn C M rfl (by decide) (by decide) dX2_pageAt_49 ⟨rI (by unfold pgA; (repeat' split) <;> omega), rfl, rfl⟩
  refine X_tabOut C (tgt := 50) ⟨by omega, by omega⟩ dX2_pageAt_5 (by omega) (by decide) ?_
  refine X_iload_n C rfl dX2_pageAt_50 ?_
  refine X_iconst C dX2_pageAt_51 ?_
  refine X_isub C dX2_pageAt_52 ?_
  refine X_iconst C dX2_pageAt_53 ?_
  refine X_iload_n C rfl dX2_pageAt_54 ?_
  refine X_imul C dX2_pageAt_55 ?_
  refine X_isub C dX2_pageAt_56 ?_
  exact X_ireturn C M rfl (by decide) (by decide) dX2_pageAt_57 ⟨rI (by unfold pgA; (repeat' split) <;> omega), rfl, rfl⟩
set_option maxRecDepth 100000 in
set_option maxHeartbeats 4000000 in
theorem c_X2_greatestPage {lc : Launch} (hlc : lc.stackTraces = false) {D : va_G} {Y : Nat → ClassId} {A : Nat → Prop} {τ σ : xS} {ρ : xG} {ad : xL} {S s : Int} (hS : 1 ≤ S ∧ S ≤ 3) (hs : 0 ≤ s ∧ s < S) : Ct lc yX2_greatestPage cX2_greatestPage 4 (some .int) (rmL 1 0 0) D Y A ad (jG Y τ σ ρ ad) [.int (iI S), .int (iI s)] (pE (some (.int (iI (pgA S s 0)))) ad (jG Y τ σ ρ ad)) (pF) := by
  refine Ct_of hlc (by decide +kernel) rfl rfl (own := RX2) (nm := "greatestPage") (l0 := [some (.int (iI S)), some (.int (iI s)), none, none]) rfl (Nat.le_of_ble_eq_true rfl) (fun κ C M => ?_)
  refine X_iconst C dX2_greatestPage_0 ?_
  refine X_istore_2 C (by decide) rfl dX2_greatestPage_1 ?_
  refine X_iconst C dX2_greatestPage_2 ?_
  refine X_istore_3 C (by decide) rfl dX2_greatestPage_3 ?_
  have L4 : ∀ (n9 : Nat) (i a : Int), (0 ≤ i ∧ i ≤ 4) → (a = if i = 0 then 0 else 4 * S - 1 - 2 * s) → 4 - i < (n9 : Int) → X κ D A 4 0 0 4 ([some (.int (iI S)), some (.int (iI s)), some (.int (iI a)), some (.int (iI i))]) ([]) ad (jG Y τ σ ρ ad) := by
    intro n9
    induction n9 with
    | zero => intro i a  hi hm1 hm; exfalso; omega
    | succ n9 ih =>
      intro i a  hi hm1 hm
      refine X_iload_n C rfl dX2_greatestPage_4 ?_
      refine X_iconst C dX2_greatestPage_5 ?_
      refine X_icmp_ge C (tgt := 26) dX2_greatestPage_6 (by decide) ⟨by omega, by omega⟩ ⟨by omega, by omega⟩ (fun c_6 => ?_) (fun c_6 => ?_)
      · refine X_iload_n C rfl dX2_greatestPage_26 ?_
        exact X_ireturn C M rfl (by decide) (by decide) dX2_greatestPage_27 ⟨rI (by unfold pgA; (repeat' split at hm1) <;> (repeat' split) <;> omega), rfl, rfl⟩
      · refine X_iload_n C rfl dX2_greatestPage_9 ?_
        refine X_iload_n C rfl dX2_greatestPage_10 ?_
        refine X_iload_n C rfl dX2_greatestPage_11 ?_
        refine X_iload_n C rfl dX2_greatestPage_12 ?_
        refine X_callSE_3 C (c_X2_pageAt C.hlc (by omega) (by omega) (by omega)) cs_X2_9 rfl rfl dX2_greatestPage_13 ?_
        have hpb := pg_b (S := S) (s := s) (q := i) (by omega) (by omega) (by omega) (by omega)
        refine X_mmax C ⟨by omega, by omega⟩ ⟨by omega, by omega⟩ mx_X2_15 (by decide) (by decide) (by decide) (by decide) dX2_greatestPage_16 ?_
        refine X_istore_2 C (by decide) rfl dX2_greatestPage_19 ?_
        refine X_iinc_3 C (by decide) rfl dX2_greatestPage_20 ?_
        refine X_goto C (tgt := 4) dX2_greatestPage_23 (by decide) ?_
        exact ih (i + 1) _ (by omega) (by unfold pgA; (repeat' split at hm1) <;> (repeat' split) <;> omega) (by omega)
  exact L4 5 0 0 (by omega) (by rw [if_pos rfl]) (by omega)
set_option maxRecDepth 100000 in
set_option maxHeartbeats 4000000 in
theorem c_X1_hasProof {lc : Launch} (hlc : lc.stackTraces = false) {D : va_G} {Y : Nat → ClassId} {A : Nat → Prop} {τ σ : xS} {ρ : xG} {ad : xL} {d : Int} (h0 : 0 ≤ d) (h1 : d < τ 30 0 0) (hb : -1 ≤ τ 3 d 0 ∧ τ 3 d 0 ≤ 512) : Ct lc yX1_hasProof cX1_hasProof 1 (some .boolean) (rmL 0 0 0) D Y A ad (jG Y τ σ ρ ad) [.ref (ad 11 d)] (pE (some (.int (iI (bI (τ 3 d 0 ≠ -1))))) ad (jG Y τ σ ρ ad)) (pF) := by
  refine Ct_of hlc (by decide +kernel) rfl rfl (own := RX1) (nm := "hasProof") (l0 := [some (.ref (ad 11 d))]) rfl (Nat.le_of_ble_eq_true rfl) (fun κ C M => ?_)
  refine X_aload_n C rfl dX1_hasProof_0 ?_
  refine Xg_X1_proofVersion C ⟨h0, h1⟩ rfl fl_X1_25 dX1_hasProof_1 ?_
  refine X_iconst C dX1_hasProof_4 ?_
  refine X_icmp_eq C (tgt := 12) dX1_hasProof_5 (by decide) ⟨by omega, by omega⟩ ⟨by omega, by omega⟩ (fun c_5 => ?_) (fun c_5 => ?_)
  · refine X_iconst C dX1_hasProof_12 ?_
    exact X_ireturn C M rfl (by decide) (by decide) dX1_hasProof_13 ⟨by first | exact rB1 (by omega) | exact rB0 (by omega), rfl, rfl⟩
  · refine X_iconst C dX1_hasProof_8 ?_
    refine X_goto C (tgt := 13) dX1_hasProof_9 (by decide) ?_
    exact X_ireturn C M rfl (by decide) (by decide) dX1_hasProof_13 ⟨by first | exact rB1 (by omega) | exact rB0 (by omega), rfl, rfl⟩
set_option maxRecDepth 100000 in
set_option maxHeartbeats 4000000 in
theorem c_X1_codeOnSheet {lc : Launch} (hlc : lc.stackTraces = false) {D : va_G} {Y : Nat → ClassId} {A : Nat → Prop} {τ σ : xS} {ρ : xG} {ad : xL} {d s k : Int} (h : dOK τ d) (hs : 0 ≤ s ∧ s < shT τ d) (hk : 0 ≤ k ∧ k < 32) : Ct lc yX1_codeOnSheet cX1_codeOnSheet 4 (some .int) (rmL 1 0 0) D Y A ad (jG Y τ σ ρ ad) [.ref (ad 11 d), .int (iI s), .int (iI k)] (pE (some (.int (iI (cOn τ d s k)))) ad (jG Y τ σ ρ ad)) (pF) := by
  refine Ct_of hlc (by decide +kernel) rfl rfl (own := RX1) (nm := "codeOnSheet") (l0 := [some (.ref (ad 11 d)), some (.int (iI s)), some (.int (iI k)), none]) rfl (Nat.le_of_ble_eq_true rfl) (fun κ C M => ?_)
  obtain ⟨h0, h1, h2, h3, h4⟩ := id h
  have hsh := h.sh
  have hpb := pg_b (S := shT τ d) (s := s) (q := k / 8) (by omega) (by omega) (by omega) (by omega)
  refine X_aload_n C rfl dX1_codeOnSheet_0 ?_
  refine Xg_X1_proofSheets C ⟨by omega, by omega⟩ (v := shT τ d) h2 fl_X1_47 dX1_codeOnSheet_1 ?_
  refine X_iload_n C rfl dX1_codeOnSheet_4 ?_
  refine X_iload_n C rfl dX1_codeOnSheet_5 ?_
  refine X_bipush C ⟨by decide, by decide⟩ dX1_codeOnSheet_6 ?_
  refine X_idiv C ⟨by omega, by omega⟩ (by omega) ⟨by omega, by omega⟩ (by omega) dX1_codeOnSheet_8 ?_
  refine X_callSE_3 C (c_X2_pageAt C.hlc (by omega) (by omega) (by omega)) cs_X1_50 rfl rfl dX1_codeOnSheet_9 ?_
  refine X_istore_3 C (by decide) rfl dX1_codeOnSheet_12 ?_
  refine X_aload_n C rfl dX1_codeOnSheet_13 ?_
  refine Xg_X1_proof C ⟨by omega, by omega⟩ fl_X1_22 dX1_codeOnSheet_14 ?_
  refine X_bipush C ⟨by decide, by decide⟩ dX1_codeOnSheet_17 ?_
  refine X_iload_n C rfl dX1_codeOnSheet_19 ?_
  refine X_imul C dX1_codeOnSheet_20 ?_
  refine X_iload_n C rfl dX1_codeOnSheet_21 ?_
  refine X_bipush C ⟨by decide, by decide⟩ dX1_codeOnSheet_22 ?_
  refine X_irem C ⟨by omega, by omega⟩ (by omega) ⟨by omega, by omega⟩ (by omega) dX1_codeOnSheet_24 ?_
  refine X_iadd C dX1_codeOnSheet_25 ?_
  refine X_callVE_1 C (c_X7_at C.hlc (by omega) (by omega) (by omega) (by omega)) cv_X1_54 (jG_12 ⟨by omega, by omega⟩) ⟨_, _, rfl⟩ rfl rfl dX1_codeOnSheet_26 ?_
  exact X_ireturn C M rfl (by decide) (by decide) dX1_codeOnSheet_29 ⟨rI rfl, rfl, rfl⟩
