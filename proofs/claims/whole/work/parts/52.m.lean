set_option maxRecDepth 100000 in
set_option maxHeartbeats 4000000 in
theorem c_X9_pageAt2 {lc : Launch} (hlc : lc.stackTraces = false) {D : va_G} {Y : Nat → ClassId} {A : Nat → Prop} {τ σ : xS} {ρ : xG} {ad : xL} {d s q : Int} (hd : 0 ≤ d ∧ d < 3) (k2 : 0 ≤ σ 1 (2 * d + 1) 0 ∧ σ 1 (2 * d + 1) 0 ≤ 80) (hs : 0 ≤ s ∧ s < 3) (hq : 0 ≤ q ∧ q < 4) : Ct lc yX9_pageAt cX9_pageAt 5 (some .int) (rmL 1 0 0) D Y A ad (jG Y τ σ ρ ad) [.ref (ad 20 0), .int (iI d), .int (iI s), .int (iI q)] (pE (some (.int (iI (pgA (shT σ d) s q)))) ad (jG Y τ σ ρ ad)) (pF) := by
  refine Ct_of hlc (by decide +kernel) rfl rfl (own := RX9) (nm := "pageAt") (l0 := [some (.ref (ad 20 0)), some (.int (iI d)), some (.int (iI s)), some (.int (iI q)), none]) rfl (Nat.le_of_ble_eq_true rfl) (fun κ C M => ?_)
  have k1 : 0 ≤ shT σ d ∧ shT σ d ≤ 3 := shC_b k2.1 k2.2
  refine X_iconst C dX9_pageAt_0 ?_
  refine X_aload_n C rfl dX9_pageAt_1 ?_
  refine X_iload_n C rfl dX9_pageAt_2 ?_
  refine X_callVE_1 C (c_X9_sheetsOf2 (n := 0) C.hlc (by omega) (by omega)) cv_X9_132 jG_20 ⟨_, _, rfl⟩ rfl rfl dX9_pageAt_3 ?_
  refine X_imul C dX9_pageAt_6 ?_
  refine X_istore_4 C (by decide) rfl dX9_pageAt_7 ?_
  refine X_iload_n C rfl dX9_pageAt_9 ?_
  refine X_if_ne C (tgt := 24) dX9_pageAt_10 (by decide) ⟨by omega, by omega⟩ (fun c_10 => ?_) (fun c_10 => ?_)
  · refine X_iload_n C rfl dX9_pageAt_24 ?_
    refine X_iconst C dX9_pageAt_25 ?_
    refine X_icmp_ne C (tgt := 35) dX9_pageAt_26 (by decide) ⟨by omega, by omega⟩ ⟨by omega, by omega⟩ (fun c_26 => ?_) (fun c_26 => ?_)
    · refine X_iload_n C rfl dX9_pageAt_35 ?_
      refine X_iconst C dX9_pageAt_36 ?_
      refine X_icmp_ne C (tgt := 48) dX9_pageAt_37 (by decide) ⟨by omega, by omega⟩ ⟨by omega, by omega⟩ (fun c_37 => ?_) (fun c_37 => ?_)
      · refine X_iload C rfl dX9_pageAt_48 ?_
        refine X_iconst C dX9_pageAt_50 ?_
        refine X_isub C dX9_pageAt_51 ?_
        refine X_iconst C dX9_pageAt_52 ?_
        refine X_iload_n C rfl dX9_pageAt_53 ?_
        refine X_imul C dX9_pageAt_54 ?_
        refine X_isub C dX9_pageAt_55 ?_
        exact X_ireturn C M rfl (by decide) (by decide) dX9_pageAt_56 ⟨rI (by unfold pgA; (repeat' split) <;> omega), rfl, rfl⟩
      · refine X_iconst C dX9_pageAt_40 ?_
        refine X_iload_n C rfl dX9_pageAt_41 ?_
        refine X_imul C dX9_pageAt_42 ?_
        refine X_iconst C dX9_pageAt_43 ?_
        refine X_iadd C dX9_pageAt_44 ?_
        refine X_goto C (tgt := 56) dX9_pageAt_45 (by decide) ?_
        exact X_ireturn C M rfl (by decide) (by decide) dX9_pageAt_56 ⟨rI (by unfold pgA; (repeat' split) <;> omega), rfl, rfl⟩
    · refine X_iconst C dX9_pageAt_29 ?_
      refine X_iload_n C rfl dX9_pageAt_30 ?_
      refine X_imul C dX9_pageAt_31 ?_
      refine X_goto C (tgt := 56) dX9_pageAt_32 (by decide) ?_
      exact X_ireturn C M rfl (by decide) (by decide) dX9_pageAt_56 ⟨rI (by unfold pgA; (repeat' split) <;> omega), rfl, rfl⟩
  · refine X_iload C rfl dX9_pageAt_13 ?_
    refine X_iconst C dX9_pageAt_15 ?_
    refine X_isub C dX9_pageAt_16 ?_
    refine X_iconst C dX9_pageAt_17 ?_
    refine X_iload_n C rfl dX9_pageAt_18 ?_
    refine X_imul C dX9_pageAt_19 ?_
    refine X_isub C dX9_pageAt_20 ?_
    refine X_goto C (tgt := 56) dX9_pageAt_21 (by decide) ?_
    exact X_ireturn C M rfl (by decide) (by decide) dX9_pageAt_56 ⟨rI (by unfold pgA; (repeat' split) <;> omega), rfl, rfl⟩
set_option maxRecDepth 100000 in
set_option maxHeartbeats 4000000 in
theorem c_X9_codeOn2 {lc : Launch} (hlc : lc.stackTraces = false) {D : va_G} {Y : Nat → ClassId} {A : Nat → Prop} {τ σ : xS} {ρ : xG} {ad : xL} {d s k : Int} (hd : 0 ≤ d ∧ d < 3) (k2 : 0 ≤ σ 1 (2 * d + 1) 0 ∧ σ 1 (2 * d + 1) 0 ≤ 80) (hs : 0 ≤ s ∧ s < shT σ d) (hk : 0 ≤ k ∧ k < 32) : Ct lc yX9_codeOn cX9_codeOn 5 (some .int) (rmL 2 0 0) D Y A ad (jG Y τ σ ρ ad) [.ref (ad 20 0), .int (iI d), .int (iI s), .int (iI k)] (pE (some (.int (iI (cOn σ d s k)))) ad (jG Y τ σ ρ ad)) (pF) := by
  refine Ct_of hlc (by decide +kernel) rfl rfl (own := RX9) (nm := "codeOn") (l0 := [some (.ref (ad 20 0)), some (.int (iI d)), some (.int (iI s)), some (.int (iI k)), none]) rfl (Nat.le_of_ble_eq_true rfl) (fun κ C M => ?_)
  have k1 : 0 ≤ shT σ d ∧ shT σ d ≤ 3 := shC_b k2.1 k2.2
  have kp := pg_b (S := shT σ d) (s := s) (q := k / 8) (by omega) (by omega) (by omega) (by omega)
  refine X_bipush C ⟨by decide, by decide⟩ dX9_codeOn_0 ?_
  refine X_aload_n C rfl dX9_codeOn_2 ?_
  refine X_iload_n C rfl dX9_codeOn_3 ?_
  refine X_iload_n C rfl dX9_codeOn_4 ?_
  refine X_iload_n C rfl dX9_codeOn_5 ?_
  refine X_bipush C ⟨by decide, by decide⟩ dX9_codeOn_6 ?_
  refine X_idiv C ⟨by omega, by omega⟩ (by omega) ⟨by omega, by omega⟩ (by omega) dX9_codeOn_8 ?_
  refine X_callVE_3 C (c_X9_pageAt2 C.hlc (by omega) (by omega) (by omega) (by omega)) cv_X9_140 jG_20 ⟨_, _, rfl⟩ rfl rfl dX9_codeOn_9 ?_
  refine X_imul C dX9_codeOn_12 ?_
  refine X_iload_n C rfl dX9_codeOn_13 ?_
  refine X_bipush C ⟨by decide, by decide⟩ dX9_codeOn_14 ?_
  refine X_irem C ⟨by omega, by omega⟩ (by omega) ⟨by omega, by omega⟩ (by omega) dX9_codeOn_16 ?_
  refine X_iadd C dX9_codeOn_17 ?_
  refine X_istore_4 C (by decide) rfl dX9_codeOn_18 ?_
  refine X_iload C rfl dX9_codeOn_20 ?_
  refine X_aload_n C rfl dX9_codeOn_22 ?_
  refine Xg_X9_proofLengths C fl_X9_25 dX9_codeOn_23 ?_
  refine X_iload_n C rfl dX9_codeOn_26 ?_
  refine Xm_proofLengths_ld C (by omega) (by omega) rfl dX9_codeOn_27 ?_
  refine X_icmp_ge C (tgt := 46) dX9_codeOn_28 (by decide) ⟨by omega, by omega⟩ ⟨by omega, by omega⟩ (fun c_28 => ?_) (fun c_28 => ?_)
  · refine X_iconst C dX9_codeOn_46 ?_
    exact X_ireturn C M rfl (by decide) (by decide) dX9_codeOn_47 ⟨rI (by unfold cOn tAt; rw [if_neg (by omega)]), rfl, rfl⟩
  · refine X_aload_n C rfl dX9_codeOn_31 ?_
    refine Xg_X9_proofs C fl_X9_22 dX9_codeOn_32 ?_
    refine X_bipush C ⟨by decide, by decide⟩ dX9_codeOn_35 ?_
    refine X_iload_n C rfl dX9_codeOn_37 ?_
    refine X_imul C dX9_codeOn_38 ?_
    refine X_iload C rfl dX9_codeOn_39 ?_
    refine X_iadd C dX9_codeOn_41 ?_
    refine Xm_proofs_ld C d (8 * pgA (shT σ d) s (k / 8) + k % 8) (by omega) (by omega) ⟨by omega, by omega⟩ (by omega) rfl dX9_codeOn_42 ?_
    refine X_goto C (tgt := 47) dX9_codeOn_43 (by decide) ?_
    exact X_ireturn C M rfl (by decide) (by decide) dX9_codeOn_47 ⟨rI (by unfold cOn tAt; rw [if_pos (by omega)]), rfl, rfl⟩
