set_option maxRecDepth 100000 in
set_option maxHeartbeats 4000000 in
theorem c_X9_codeAt {lc : Launch} (hlc : lc.stackTraces = false) {D : va_G} {Y : Nat → ClassId} {A : Nat → Prop} {τ σ : xS} {ρ : xG} {ad : xL} {n z p : Int} (I : xI n σ) (hz0 : rg z) (hz1 : rg p) : Ct lc yX9_codeAt cX9_codeAt 3 (some .int) (rmL 2 0 0) D Y A ad (jG Y τ σ ρ ad) [.ref (ad 20 0), .int (iI z), .int (iI p)] (pE (some (.int (iI (mA (kCod σ z p) (tAt σ (2 * z) p) (-1))))) ad (jG Y τ (up σ 40 0 0 (kCod σ z p)) ρ ad)) (pF) := by
  refine Ct_of hlc (by decide +kernel) rfl rfl (own := RX9) (nm := "codeAt") (l0 := [some (.ref (ad 20 0)), some (.int (iI z)), some (.int (iI p))]) rfl (Nat.le_of_ble_eq_true rfl) (fun κ C M => ?_)
  have Ind := I.nd
  have Inc := I.nc
  have Ino := I.no
  have In := I.n0
  refine X_aload_n C rfl dX9_codeAt_0 ?_
  refine X_aload_n C rfl dX9_codeAt_1 ?_
  refine X_iload_n C rfl dX9_codeAt_2 ?_
  refine X_callVE_1 C (c_X9_isDocument C.hlc (by assumption) (by omega)) cv_X9_105 jG_20 ⟨_, _, rfl⟩ rfl rfl dX9_codeAt_3 ?_
  refine X_if_neB C (tgt := 13) dX9_codeAt_6 (by decide) (fun c_6 => ?_) (fun c_6 => ?_)
  · refine X_iload_n C rfl dX9_codeAt_13 ?_
    refine X_i2l C ⟨by omega, by omega⟩ dX9_codeAt_14 ?_
    refine X_lconst C (v := 0) rfl dX9_codeAt_15 ?_
    refine X_aload_n C rfl dX9_codeAt_16 ?_
    refine Xg_X9_lengths C fl_X9_13 dX9_codeAt_17 ?_
    have k1 := I.sz (2 * z) 0
    refine X_iload_n C rfl dX9_codeAt_20 ?_
    refine Xm_lengths_ld C (by omega) (by omega) rfl dX9_codeAt_21 ?_
    refine X_iconst C dX9_codeAt_22 ?_
    refine X_isub C dX9_codeAt_23 ?_
    refine X_i2l C ⟨by omega, by omega⟩ dX9_codeAt_24 ?_
    refine X_callSE_3 C (c_X9_in C.hlc (by omega) (by omega) (by omega)) cs_X9_84 rfl rfl dX9_codeAt_25 ?_
    refine X_if_neB C (tgt := 35) dX9_codeAt_28 (by decide) (fun c_28 => ?_) (fun c_28 => ?_)
    · refine X_iconst C dX9_codeAt_35 ?_
      refine Xp_X9_thrown C fw_X9_78 dX9_codeAt_36 ?_
      refine X_aload_n C rfl dX9_codeAt_39 ?_
      refine Xg_X9_thrown C up_s fl_X9_78 dX9_codeAt_40 ?_
      refine X_if_ne C (tgt := 60) dX9_codeAt_43 (by decide) ⟨by omega, by omega⟩ (fun c_43 => ?_) (fun c_43 => ?_)
      · exfalso; omega
      refine X_aload_n C rfl dX9_codeAt_46 ?_
      refine Xg_X9_texts C fl_X9_7 dX9_codeAt_47 ?_
      refine X_bipush C ⟨by decide, by decide⟩ dX9_codeAt_50 ?_
      refine X_iload_n C rfl dX9_codeAt_52 ?_
      refine X_imul C dX9_codeAt_53 ?_
      refine X_iload_n C rfl dX9_codeAt_54 ?_
      refine X_iadd C dX9_codeAt_55 ?_
      refine Xm_texts_ld C z p (by omega) (by omega) ⟨by omega, by omega⟩ (by omega) (up_q (by decide)) dX9_codeAt_56 ?_
      refine X_goto C (tgt := 61) dX9_codeAt_57 (by decide) ?_
      exact X_ireturn C M rfl (by decide) (by decide) dX9_codeAt_61 ⟨(by first | exact rI (Eq.trans (show _ = tAt σ (2 * z) p from by unfold tAt; rw [if_pos (by omega)]) (mA_0 (k := kCod σ z p) (by first | omega | (unfold kCod; (repeat' split) <;> omega))).symm) | exact rI (mA_n (k := kCod σ z p) (by first | omega | (unfold kCod; (repeat' split) <;> omega))).symm), rfl, (by first | rfl | exact congrArg (fun v9 => jG Y τ (up σ 40 0 0 v9) ρ ad) (show (0 : Int) = kCod σ z p from (by first | omega | (unfold kCod; (repeat' split) <;> omega))) | exact jG_up (show (0 : Int) = kCod σ z p from (by first | omega | (unfold kCod; (repeat' split) <;> omega))) | exact congrArg (fun v9 => jG Y τ (up σ 40 0 0 v9) ρ ad) (show (1 : Int) = kCod σ z p from (by first | omega | (unfold kCod; (repeat' split) <;> omega))) | exact jG_up (show (1 : Int) = kCod σ z p from (by first | omega | (unfold kCod; (repeat' split) <;> omega))) | exact congrArg (fun v9 => jG Y τ (up σ 40 0 0 v9) ρ ad) (show (2 : Int) = kCod σ z p from (by first | omega | (unfold kCod; (repeat' split) <;> omega))) | exact jG_up (show (2 : Int) = kCod σ z p from (by first | omega | (unfold kCod; (repeat' split) <;> omega))) | exact congrArg (fun v9 => jG Y τ (up σ 40 0 0 v9) ρ ad) (show (3 : Int) = kCod σ z p from (by first | omega | (unfold kCod; (repeat' split) <;> omega))) | exact jG_up (show (3 : Int) = kCod σ z p from (by first | omega | (unfold kCod; (repeat' split) <;> omega))) | exact congrArg (fun v9 => jG Y τ (up σ 40 0 0 v9) ρ ad) (show (4 : Int) = kCod σ z p from (by first | omega | (unfold kCod; (repeat' split) <;> omega))) | exact jG_up (show (4 : Int) = kCod σ z p from (by first | omega | (unfold kCod; (repeat' split) <;> omega))) | exact congrArg (fun v9 => jG Y τ (up σ 40 0 0 v9) ρ ad) (show (5 : Int) = kCod σ z p from (by first | omega | (unfold kCod; (repeat' split) <;> omega))) | exact jG_up (show (5 : Int) = kCod σ z p from (by first | omega | (unfold kCod; (repeat' split) <;> omega))))⟩
    · refine X_iconst C dX9_codeAt_31 ?_
      refine X_goto C (tgt := 36) dX9_codeAt_32 (by decide) ?_
      refine Xp_X9_thrown C fw_X9_78 dX9_codeAt_36 ?_
      refine X_aload_n C rfl dX9_codeAt_39 ?_
      refine Xg_X9_thrown C up_s fl_X9_78 dX9_codeAt_40 ?_
      refine X_if_ne C (tgt := 60) dX9_codeAt_43 (by decide) ⟨by omega, by omega⟩ (fun c_43 => ?_) (fun c_43 => ?_)
      rotate_left
      · exfalso; omega
      refine X_iconst C dX9_codeAt_60 ?_
      exact X_ireturn C M rfl (by decide) (by decide) dX9_codeAt_61 ⟨(by first | exact rI (Eq.trans (show _ = tAt σ (2 * z) p from by unfold tAt; rw [if_pos (by omega)]) (mA_0 (k := kCod σ z p) (by first | omega | (unfold kCod; (repeat' split) <;> omega))).symm) | exact rI (mA_n (k := kCod σ z p) (by first | omega | (unfold kCod; (repeat' split) <;> omega))).symm), rfl, (by first | rfl | exact congrArg (fun v9 => jG Y τ (up σ 40 0 0 v9) ρ ad) (show (0 : Int) = kCod σ z p from (by first | omega | (unfold kCod; (repeat' split) <;> omega))) | exact jG_up (show (0 : Int) = kCod σ z p from (by first | omega | (unfold kCod; (repeat' split) <;> omega))) | exact congrArg (fun v9 => jG Y τ (up σ 40 0 0 v9) ρ ad) (show (1 : Int) = kCod σ z p from (by first | omega | (unfold kCod; (repeat' split) <;> omega))) | exact jG_up (show (1 : Int) = kCod σ z p from (by first | omega | (unfold kCod; (repeat' split) <;> omega))) | exact congrArg (fun v9 => jG Y τ (up σ 40 0 0 v9) ρ ad) (show (2 : Int) = kCod σ z p from (by first | omega | (unfold kCod; (repeat' split) <;> omega))) | exact jG_up (show (2 : Int) = kCod σ z p from (by first | omega | (unfold kCod; (repeat' split) <;> omega))) | exact congrArg (fun v9 => jG Y τ (up σ 40 0 0 v9) ρ ad) (show (3 : Int) = kCod σ z p from (by first | omega | (unfold kCod; (repeat' split) <;> omega))) | exact jG_up (show (3 : Int) = kCod σ z p from (by first | omega | (unfold kCod; (repeat' split) <;> omega))) | exact congrArg (fun v9 => jG Y τ (up σ 40 0 0 v9) ρ ad) (show (4 : Int) = kCod σ z p from (by first | omega | (unfold kCod; (repeat' split) <;> omega))) | exact jG_up (show (4 : Int) = kCod σ z p from (by first | omega | (unfold kCod; (repeat' split) <;> omega))) | exact congrArg (fun v9 => jG Y τ (up σ 40 0 0 v9) ρ ad) (show (5 : Int) = kCod σ z p from (by first | omega | (unfold kCod; (repeat' split) <;> omega))) | exact jG_up (show (5 : Int) = kCod σ z p from (by first | omega | (unfold kCod; (repeat' split) <;> omega))))⟩
  · refine X_iconst C dX9_codeAt_9 ?_
    refine X_goto C (tgt := 36) dX9_codeAt_10 (by decide) ?_
    refine Xp_X9_thrown C fw_X9_78 dX9_codeAt_36 ?_
    refine X_aload_n C rfl dX9_codeAt_39 ?_
    refine Xg_X9_thrown C up_s fl_X9_78 dX9_codeAt_40 ?_
    refine X_if_ne C (tgt := 60) dX9_codeAt_43 (by decide) ⟨by omega, by omega⟩ (fun c_43 => ?_) (fun c_43 => ?_)
    rotate_left
    · exfalso; omega
    refine X_iconst C dX9_codeAt_60 ?_
    exact X_ireturn C M rfl (by decide) (by decide) dX9_codeAt_61 ⟨(by first | exact rI (Eq.trans (show _ = tAt σ (2 * z) p from by unfold tAt; rw [if_pos (by omega)]) (mA_0 (k := kCod σ z p) (by first | omega | (unfold kCod; (repeat' split) <;> omega))).symm) | exact rI (mA_n (k := kCod σ z p) (by first | omega | (unfold kCod; (repeat' split) <;> omega))).symm), rfl, (by first | rfl | exact congrArg (fun v9 => jG Y τ (up σ 40 0 0 v9) ρ ad) (show (0 : Int) = kCod σ z p from (by first | omega | (unfold kCod; (repeat' split) <;> omega))) | exact jG_up (show (0 : Int) = kCod σ z p from (by first | omega | (unfold kCod; (repeat' split) <;> omega))) | exact congrArg (fun v9 => jG Y τ (up σ 40 0 0 v9) ρ ad) (show (1 : Int) = kCod σ z p from (by first | omega | (unfold kCod; (repeat' split) <;> omega))) | exact jG_up (show (1 : Int) = kCod σ z p from (by first | omega | (unfold kCod; (repeat' split) <;> omega))) | exact congrArg (fun v9 => jG Y τ (up σ 40 0 0 v9) ρ ad) (show (2 : Int) = kCod σ z p from (by first | omega | (unfold kCod; (repeat' split) <;> omega))) | exact jG_up (show (2 : Int) = kCod σ z p from (by first | omega | (unfold kCod; (repeat' split) <;> omega))) | exact congrArg (fun v9 => jG Y τ (up σ 40 0 0 v9) ρ ad) (show (3 : Int) = kCod σ z p from (by first | omega | (unfold kCod; (repeat' split) <;> omega))) | exact jG_up (show (3 : Int) = kCod σ z p from (by first | omega | (unfold kCod; (repeat' split) <;> omega))) | exact congrArg (fun v9 => jG Y τ (up σ 40 0 0 v9) ρ ad) (show (4 : Int) = kCod σ z p from (by first | omega | (unfold kCod; (repeat' split) <;> omega))) | exact jG_up (show (4 : Int) = kCod σ z p from (by first | omega | (unfold kCod; (repeat' split) <;> omega))) | exact congrArg (fun v9 => jG Y τ (up σ 40 0 0 v9) ρ ad) (show (5 : Int) = kCod σ z p from (by first | omega | (unfold kCod; (repeat' split) <;> omega))) | exact jG_up (show (5 : Int) = kCod σ z p from (by first | omega | (unfold kCod; (repeat' split) <;> omega))))⟩
set_option maxRecDepth 100000 in
set_option maxHeartbeats 4000000 in
theorem c_X9_bar {lc : Launch} (hlc : lc.stackTraces = false) {D : va_G} {Y : Nat → ClassId} {A : Nat → Prop} {τ σ : xS} {ρ : xG} {ad : xL} {n z p b : Int} (I : xI n σ) (hz0 : rg z) (hz1 : rg p) (hz2 : rg b) (hb : b = 0 ∨ b = 1) : Ct lc yX9_bar cX9_bar 4 (some .char) (rmL 2 0 0) D Y A ad (jG Y τ σ ρ ad) [.ref (ad 20 0), .int (iI z), .int (iI p), .int (iI b)] (pE (some (.int (iI (mA (kBar σ z p b) (brA σ z p b) 32)))) ad (jG Y τ (up σ 40 0 0 (kBar σ z p b)) ρ ad)) (pF) := by
  refine Ct_of hlc (by decide +kernel) rfl rfl (own := RX9) (nm := "bar") (l0 := [some (.ref (ad 20 0)), some (.int (iI z)), some (.int (iI p)), some (.int (iI b))]) rfl (Nat.le_of_ble_eq_true rfl) (fun κ C M => ?_)
  have Ind := I.nd
  have Inc := I.nc
  have Ino := I.no
  have In := I.n0
  refine X_aload_n C rfl dX9_bar_0 ?_
  refine X_iload_n C rfl dX9_bar_1 ?_
  refine X_callVE_1 C (c_X9_isDocument C.hlc (by assumption) (by omega)) cv_X9_105 jG_20 ⟨_, _, rfl⟩ rfl rfl dX9_bar_2 ?_
  refine X_if_neB C (tgt := 16) dX9_bar_5 (by decide) (fun c_5 => ?_) (fun c_5 => ?_)
  · refine X_aload_n C rfl dX9_bar_16 ?_
    refine X_iload_n C rfl dX9_bar_17 ?_
    refine X_i2l C ⟨by omega, by omega⟩ dX9_bar_18 ?_
    refine X_lconst C (v := 0) rfl dX9_bar_19 ?_
    refine X_aload_n C rfl dX9_bar_20 ?_
    refine Xg_X9_lengths C fl_X9_13 dX9_bar_21 ?_
    have k1 := I.sz (2 * z) 0
    refine X_iload_n C rfl dX9_bar_24 ?_
    refine Xm_lengths_ld C (by omega) (by omega) rfl dX9_bar_25 ?_
    refine X_iload_n C rfl dX9_bar_26 ?_
    refine X_if_eq C (tgt := 34) dX9_bar_27 (by decide) ⟨by omega, by omega⟩ (fun c_27 => ?_) (fun c_27 => ?_)
    · refine X_iconst C dX9_bar_34 ?_
      refine X_isub C dX9_bar_35 ?_
      refine X_i2l C ⟨by omega, by omega⟩ dX9_bar_36 ?_
      refine X_callSE_3 C (c_X9_in C.hlc (by omega) (by omega) (by omega)) cs_X9_84 rfl rfl dX9_bar_37 ?_
      refine X_if_eqB C (tgt := 47) dX9_bar_40 (by decide) (fun c_40 => ?_) (fun c_40 => ?_)
      · refine X_iconst C dX9_bar_47 ?_
        refine Xp_X9_thrown C fw_X9_78 dX9_bar_48 ?_
        refine X_aload_n C rfl dX9_bar_51 ?_
        refine Xg_X9_thrown C up_s fl_X9_78 dX9_bar_52 ?_
        refine X_if_ne C (tgt := 68) dX9_bar_55 (by decide) ⟨by omega, by omega⟩ (fun c_55 => ?_) (fun c_55 => ?_)
        rotate_left
        · exfalso; omega
        refine X_bipush C ⟨by decide, by decide⟩ dX9_bar_68 ?_
        exact X_ireturn C M (narC (by omega) (by omega)) (by decide) (by decide) dX9_bar_70 ⟨(by first | exact rI (Eq.trans (by rfl) (mA_0 (k := kBar σ z p b) (by first | omega | (unfold kBar; (repeat' split) <;> omega))).symm) | exact rI (mA_n (k := kBar σ z p b) (by first | omega | (unfold kBar; (repeat' split) <;> omega))).symm), rfl, (by first | rfl | exact congrArg (fun v9 => jG Y τ (up σ 40 0 0 v9) ρ ad) (show (0 : Int) = kBar σ z p b from (by first | omega | (unfold kBar; (repeat' split) <;> omega))) | exact jG_up (show (0 : Int) = kBar σ z p b from (by first | omega | (unfold kBar; (repeat' split) <;> omega))) | exact congrArg (fun v9 => jG Y τ (up σ 40 0 0 v9) ρ ad) (show (1 : Int) = kBar σ z p b from (by first | omega | (unfold kBar; (repeat' split) <;> omega))) | exact jG_up (show (1 : Int) = kBar σ z p b from (by first | omega | (unfold kBar; (repeat' split) <;> omega))) | exact congrArg (fun v9 => jG Y τ (up σ 40 0 0 v9) ρ ad) (show (2 : Int) = kBar σ z p b from (by first | omega | (unfold kBar; (repeat' split) <;> omega))) | exact jG_up (show (2 : Int) = kBar σ z p b from (by first | omega | (unfold kBar; (repeat' split) <;> omega))) | exact congrArg (fun v9 => jG Y τ (up σ 40 0 0 v9) ρ ad) (show (3 : Int) = kBar σ z p b from (by first | omega | (unfold kBar; (repeat' split) <;> omega))) | exact jG_up (show (3 : Int) = kBar σ z p b from (by first | omega | (unfold kBar; (repeat' split) <;> omega))) | exact congrArg (fun v9 => jG Y τ (up σ 40 0 0 v9) ρ ad) (show (4 : Int) = kBar σ z p b from (by first | omega | (unfold kBar; (repeat' split) <;> omega))) | exact jG_up (show (4 : Int) = kBar σ z p b from (by first | omega | (unfold kBar; (repeat' split) <;> omega))) | exact congrArg (fun v9 => jG Y τ (up σ 40 0 0 v9) ρ ad) (show (5 : Int) = kBar σ z p b from (by first | omega | (unfold kBar; (repeat' split) <;> omega))) | exact jG_up (show (5 : Int) = kBar σ z p b from (by first | omega | (unfold kBar; (repeat' split) <;> omega))))⟩
      · refine X_iconst C dX9_bar_43 ?_
        refine X_goto C (tgt := 48) dX9_bar_44 (by decide) ?_
        refine Xp_X9_thrown C fw_X9_78 dX9_bar_48 ?_
        refine X_aload_n C rfl dX9_bar_51 ?_
        refine Xg_X9_thrown C up_s fl_X9_78 dX9_bar_52 ?_
        refine X_if_ne C (tgt := 68) dX9_bar_55 (by decide) ⟨by omega, by omega⟩ (fun c_55 => ?_) (fun c_55 => ?_)
        · exfalso; omega
        refine X_aload_n C rfl dX9_bar_58 ?_
        refine X_iload_n C rfl dX9_bar_59 ?_
        refine X_iload_n C rfl dX9_bar_60 ?_
        refine X_iload_n C rfl dX9_bar_61 ?_
        refine X_callVE_3 C (c_X9_barOf C.hlc (pr_thr I) (show 0 ≤ z ∧ z < σ 30 0 0 from by omega) (by omega) (by omega)) cv_X9_109 jG_20 ⟨_, _, rfl⟩ rfl rfl dX9_bar_62 ?_
        have hv := brA_v (up σ 40 0 0 0) z p b
        refine X_goto C (tgt := 70) dX9_bar_65 (by decide) ?_
        exact X_ireturn C M (narC (by omega) (by omega)) (by decide) (by decide) dX9_bar_70 ⟨(by first | exact rI (Eq.trans (by rfl) (mA_0 (k := kBar σ z p b) (by first | omega | (unfold kBar; (repeat' split) <;> omega))).symm) | exact rI (mA_n (k := kBar σ z p b) (by first | omega | (unfold kBar; (repeat' split) <;> omega))).symm), rfl, (by first | rfl | exact congrArg (fun v9 => jG Y τ (up σ 40 0 0 v9) ρ ad) (show (0 : Int) = kBar σ z p b from (by first | omega | (unfold kBar; (repeat' split) <;> omega))) | exact jG_up (show (0 : Int) = kBar σ z p b from (by first | omega | (unfold kBar; (repeat' split) <;> omega))) | exact congrArg (fun v9 => jG Y τ (up σ 40 0 0 v9) ρ ad) (show (1 : Int) = kBar σ z p b from (by first | omega | (unfold kBar; (repeat' split) <;> omega))) | exact jG_up (show (1 : Int) = kBar σ z p b from (by first | omega | (unfold kBar; (repeat' split) <;> omega))) | exact congrArg (fun v9 => jG Y τ (up σ 40 0 0 v9) ρ ad) (show (2 : Int) = kBar σ z p b from (by first | omega | (unfold kBar; (repeat' split) <;> omega))) | exact jG_up (show (2 : Int) = kBar σ z p b from (by first | omega | (unfold kBar; (repeat' split) <;> omega))) | exact congrArg (fun v9 => jG Y τ (up σ 40 0 0 v9) ρ ad) (show (3 : Int) = kBar σ z p b from (by first | omega | (unfold kBar; (repeat' split) <;> omega))) | exact jG_up (show (3 : Int) = kBar σ z p b from (by first | omega | (unfold kBar; (repeat' split) <;> omega))) | exact congrArg (fun v9 => jG Y τ (up σ 40 0 0 v9) ρ ad) (show (4 : Int) = kBar σ z p b from (by first | omega | (unfold kBar; (repeat' split) <;> omega))) | exact jG_up (show (4 : Int) = kBar σ z p b from (by first | omega | (unfold kBar; (repeat' split) <;> omega))) | exact congrArg (fun v9 => jG Y τ (up σ 40 0 0 v9) ρ ad) (show (5 : Int) = kBar σ z p b from (by first | omega | (unfold kBar; (repeat' split) <;> omega))) | exact jG_up (show (5 : Int) = kBar σ z p b from (by first | omega | (unfold kBar; (repeat' split) <;> omega))))⟩
    · refine X_iconst C dX9_bar_30 ?_
      refine X_goto C (tgt := 35) dX9_bar_31 (by decide) ?_
      refine X_isub C dX9_bar_35 ?_
      refine X_i2l C ⟨by omega, by omega⟩ dX9_bar_36 ?_
      refine X_callSE_3 C (c_X9_in C.hlc (by omega) (by omega) (by omega)) cs_X9_84 rfl rfl dX9_bar_37 ?_
      refine X_if_eqB C (tgt := 47) dX9_bar_40 (by decide) (fun c_40 => ?_) (fun c_40 => ?_)
      · refine X_iconst C dX9_bar_47 ?_
        refine Xp_X9_thrown C fw_X9_78 dX9_bar_48 ?_
        refine X_aload_n C rfl dX9_bar_51 ?_
        refine Xg_X9_thrown C up_s fl_X9_78 dX9_bar_52 ?_
        refine X_if_ne C (tgt := 68) dX9_bar_55 (by decide) ⟨by omega, by omega⟩ (fun c_55 => ?_) (fun c_55 => ?_)
        rotate_left
        · exfalso; omega
        refine X_bipush C ⟨by decide, by decide⟩ dX9_bar_68 ?_
        exact X_ireturn C M (narC (by omega) (by omega)) (by decide) (by decide) dX9_bar_70 ⟨(by first | exact rI (Eq.trans (by rfl) (mA_0 (k := kBar σ z p b) (by first | omega | (unfold kBar; (repeat' split) <;> omega))).symm) | exact rI (mA_n (k := kBar σ z p b) (by first | omega | (unfold kBar; (repeat' split) <;> omega))).symm), rfl, (by first | rfl | exact congrArg (fun v9 => jG Y τ (up σ 40 0 0 v9) ρ ad) (show (0 : Int) = kBar σ z p b from (by first | omega | (unfold kBar; (repeat' split) <;> omega))) | exact jG_up (show (0 : Int) = kBar σ z p b from (by first | omega | (unfold kBar; (repeat' split) <;> omega))) | exact congrArg (fun v9 => jG Y τ (up σ 40 0 0 v9) ρ ad) (show (1 : Int) = kBar σ z p b from (by first | omega | (unfold kBar; (repeat' split) <;> omega))) | exact jG_up (show (1 : Int) = kBar σ z p b from (by first | omega | (unfold kBar; (repeat' split) <;> omega))) | exact congrArg (fun v9 => jG Y τ (up σ 40 0 0 v9) ρ ad) (show (2 : Int) = kBar σ z p b from (by first | omega | (unfold kBar; (repeat' split) <;> omega))) | exact jG_up (show (2 : Int) = kBar σ z p b from (by first | omega | (unfold kBar; (repeat' split) <;> omega))) | exact congrArg (fun v9 => jG Y τ (up σ 40 0 0 v9) ρ ad) (show (3 : Int) = kBar σ z p b from (by first | omega | (unfold kBar; (repeat' split) <;> omega))) | exact jG_up (show (3 : Int) = kBar σ z p b from (by first | omega | (unfold kBar; (repeat' split) <;> omega))) | exact congrArg (fun v9 => jG Y τ (up σ 40 0 0 v9) ρ ad) (show (4 : Int) = kBar σ z p b from (by first | omega | (unfold kBar; (repeat' split) <;> omega))) | exact jG_up (show (4 : Int) = kBar σ z p b from (by first | omega | (unfold kBar; (repeat' split) <;> omega))) | exact congrArg (fun v9 => jG Y τ (up σ 40 0 0 v9) ρ ad) (show (5 : Int) = kBar σ z p b from (by first | omega | (unfold kBar; (repeat' split) <;> omega))) | exact jG_up (show (5 : Int) = kBar σ z p b from (by first | omega | (unfold kBar; (repeat' split) <;> omega))))⟩
      · refine X_iconst C dX9_bar_43 ?_
        refine X_goto C (tgt := 48) dX9_bar_44 (by decide) ?_
        refine Xp_X9_thrown C fw_X9_78 dX9_bar_48 ?_
        refine X_aload_n C rfl dX9_bar_51 ?_
        refine Xg_X9_thrown C up_s fl_X9_78 dX9_bar_52 ?_
        refine X_if_ne C (tgt := 68) dX9_bar_55 (by decide) ⟨by omega, by omega⟩ (fun c_55 => ?_) (fun c_55 => ?_)
        · exfalso; omega
        refine X_aload_n C rfl dX9_bar_58 ?_
        refine X_iload_n C rfl dX9_bar_59 ?_
        refine X_iload_n C rfl dX9_bar_60 ?_
        refine X_iload_n C rfl dX9_bar_61 ?_
        refine X_callVE_3 C (c_X9_barOf C.hlc (pr_thr I) (show 0 ≤ z ∧ z < σ 30 0 0 from by omega) (by omega) (by omega)) cv_X9_109 jG_20 ⟨_, _, rfl⟩ rfl rfl dX9_bar_62 ?_
        have hv := brA_v (up σ 40 0 0 0) z p b
        refine X_goto C (tgt := 70) dX9_bar_65 (by decide) ?_
        exact X_ireturn C M (narC (by omega) (by omega)) (by decide) (by decide) dX9_bar_70 ⟨(by first | exact rI (Eq.trans (by rfl) (mA_0 (k := kBar σ z p b) (by first | omega | (unfold kBar; (repeat' split) <;> omega))).symm) | exact rI (mA_n (k := kBar σ z p b) (by first | omega | (unfold kBar; (repeat' split) <;> omega))).symm), rfl, (by first | rfl | exact congrArg (fun v9 => jG Y τ (up σ 40 0 0 v9) ρ ad) (show (0 : Int) = kBar σ z p b from (by first | omega | (unfold kBar; (repeat' split) <;> omega))) | exact jG_up (show (0 : Int) = kBar σ z p b from (by first | omega | (unfold kBar; (repeat' split) <;> omega))) | exact congrArg (fun v9 => jG Y τ (up σ 40 0 0 v9) ρ ad) (show (1 : Int) = kBar σ z p b from (by first | omega | (unfold kBar; (repeat' split) <;> omega))) | exact jG_up (show (1 : Int) = kBar σ z p b from (by first | omega | (unfold kBar; (repeat' split) <;> omega))) | exact congrArg (fun v9 => jG Y τ (up σ 40 0 0 v9) ρ ad) (show (2 : Int) = kBar σ z p b from (by first | omega | (unfold kBar; (repeat' split) <;> omega))) | exact jG_up (show (2 : Int) = kBar σ z p b from (by first | omega | (unfold kBar; (repeat' split) <;> omega))) | exact congrArg (fun v9 => jG Y τ (up σ 40 0 0 v9) ρ ad) (show (3 : Int) = kBar σ z p b from (by first | omega | (unfold kBar; (repeat' split) <;> omega))) | exact jG_up (show (3 : Int) = kBar σ z p b from (by first | omega | (unfold kBar; (repeat' split) <;> omega))) | exact congrArg (fun v9 => jG Y τ (up σ 40 0 0 v9) ρ ad) (show (4 : Int) = kBar σ z p b from (by first | omega | (unfold kBar; (repeat' split) <;> omega))) | exact jG_up (show (4 : Int) = kBar σ z p b from (by first | omega | (unfold kBar; (repeat' split) <;> omega))) | exact congrArg (fun v9 => jG Y τ (up σ 40 0 0 v9) ρ ad) (show (5 : Int) = kBar σ z p b from (by first | omega | (unfold kBar; (repeat' split) <;> omega))) | exact jG_up (show (5 : Int) = kBar σ z p b from (by first | omega | (unfold kBar; (repeat' split) <;> omega))))⟩
  · refine X_aload_n C rfl dX9_bar_8 ?_
    refine X_iconst C dX9_bar_9 ?_
    refine Xp_X9_thrown C fw_X9_78 dX9_bar_10 ?_
    refine X_bipush C ⟨by decide, by decide⟩ dX9_bar_13 ?_
    exact X_ireturn C M (narC (by omega) (by omega)) (by decide) (by decide) dX9_bar_15 ⟨(by first | exact rI (Eq.trans (by rfl) (mA_0 (k := kBar σ z p b) (by first | omega | (unfold kBar; (repeat' split) <;> omega))).symm) | exact rI (mA_n (k := kBar σ z p b) (by first | omega | (unfold kBar; (repeat' split) <;> omega))).symm), rfl, (by first | rfl | exact congrArg (fun v9 => jG Y τ (up σ 40 0 0 v9) ρ ad) (show (0 : Int) = kBar σ z p b from (by first | omega | (unfold kBar; (repeat' split) <;> omega))) | exact jG_up (show (0 : Int) = kBar σ z p b from (by first | omega | (unfold kBar; (repeat' split) <;> omega))) | exact congrArg (fun v9 => jG Y τ (up σ 40 0 0 v9) ρ ad) (show (1 : Int) = kBar σ z p b from (by first | omega | (unfold kBar; (repeat' split) <;> omega))) | exact jG_up (show (1 : Int) = kBar σ z p b from (by first | omega | (unfold kBar; (repeat' split) <;> omega))) | exact congrArg (fun v9 => jG Y τ (up σ 40 0 0 v9) ρ ad) (show (2 : Int) = kBar σ z p b from (by first | omega | (unfold kBar; (repeat' split) <;> omega))) | exact jG_up (show (2 : Int) = kBar σ z p b from (by first | omega | (unfold kBar; (repeat' split) <;> omega))) | exact congrArg (fun v9 => jG Y τ (up σ 40 0 0 v9) ρ ad) (show (3 : Int) = kBar σ z p b from (by first | omega | (unfold kBar; (repeat' split) <;> omega))) | exact jG_up (show (3 : Int) = kBar σ z p b from (by first | omega | (unfold kBar; (repeat' split) <;> omega))) | exact congrArg (fun v9 => jG Y τ (up σ 40 0 0 v9) ρ ad) (show (4 : Int) = kBar σ z p b from (by first | omega | (unfold kBar; (repeat' split) <;> omega))) | exact jG_up (show (4 : Int) = kBar σ z p b from (by first | omega | (unfold kBar; (repeat' split) <;> omega))) | exact congrArg (fun v9 => jG Y τ (up σ 40 0 0 v9) ρ ad) (show (5 : Int) = kBar σ z p b from (by first | omega | (unfold kBar; (repeat' split) <;> omega))) | exact jG_up (show (5 : Int) = kBar σ z p b from (by first | omega | (unfold kBar; (repeat' split) <;> omega))))⟩
set_option maxRecDepth 100000 in
set_option maxHeartbeats 4000000 in
theorem c_X9_isOpen {lc : Launch} (hlc : lc.stackTraces = false) {D : va_G} {Y : Nat → ClassId} {A : Nat → Prop} {τ σ : xS} {ρ : xG} {ad : xL} {n z : Int} (I : xI n σ) (hz0 : rg z) : Ct lc yX9_isOpen cX9_isOpen 2 (some .boolean) (rmL 2 0 0) D Y A ad (jG Y τ σ ρ ad) [.ref (ad 20 0), .int (iI z)] (pE (some (.int (iI (mA (kIsO σ z) (σ 8 z 0) 0)))) ad (jG Y τ (up σ 40 0 0 (kIsO σ z)) ρ ad)) (pF) := by
  refine Ct_of hlc (by decide +kernel) rfl rfl (own := RX9) (nm := "isOpen") (l0 := [some (.ref (ad 20 0)), some (.int (iI z))]) rfl (Nat.le_of_ble_eq_true rfl) (fun κ C M => ?_)
  have Ind := I.nd
  have Inc := I.nc
  have Ino := I.no
  have In := I.n0
  refine X_aload_n C rfl dX9_isOpen_0 ?_
  refine X_aload_n C rfl dX9_isOpen_1 ?_
  refine X_iload_n C rfl dX9_isOpen_2 ?_
  refine X_callVE_1 C (c_X9_isComment C.hlc (by assumption) (by omega)) cv_X9_125 jG_20 ⟨_, _, rfl⟩ rfl rfl dX9_isOpen_3 ?_
  refine X_if_eqB C (tgt := 13) dX9_isOpen_6 (by decide) (fun c_6 => ?_) (fun c_6 => ?_)
  · refine X_iconst C dX9_isOpen_13 ?_
    refine Xp_X9_thrown C fw_X9_78 dX9_isOpen_14 ?_
    refine X_aload_n C rfl dX9_isOpen_17 ?_
    refine Xg_X9_thrown C up_s fl_X9_78 dX9_isOpen_18 ?_
    refine X_if_ne C (tgt := 37) dX9_isOpen_21 (by decide) ⟨by omega, by omega⟩ (fun c_21 => ?_) (fun c_21 => ?_)
    rotate_left
    · exfalso; omega
    refine X_iconst C dX9_isOpen_37 ?_
    exact X_ireturn C M rfl (by decide) (by decide) dX9_isOpen_38 ⟨(by first | exact rI (Eq.trans (show _ = σ 8 z 0 from by omega) (mA_0 (k := kIsO σ z) (by first | omega | (unfold kIsO; (repeat' split) <;> omega))).symm) | exact rI (mA_n (k := kIsO σ z) (by first | omega | (unfold kIsO; (repeat' split) <;> omega))).symm), rfl, (by first | rfl | exact congrArg (fun v9 => jG Y τ (up σ 40 0 0 v9) ρ ad) (show (0 : Int) = kIsO σ z from (by first | omega | (unfold kIsO; (repeat' split) <;> omega))) | exact jG_up (show (0 : Int) = kIsO σ z from (by first | omega | (unfold kIsO; (repeat' split) <;> omega))) | exact congrArg (fun v9 => jG Y τ (up σ 40 0 0 v9) ρ ad) (show (1 : Int) = kIsO σ z from (by first | omega | (unfold kIsO; (repeat' split) <;> omega))) | exact jG_up (show (1 : Int) = kIsO σ z from (by first | omega | (unfold kIsO; (repeat' split) <;> omega))) | exact congrArg (fun v9 => jG Y τ (up σ 40 0 0 v9) ρ ad) (show (2 : Int) = kIsO σ z from (by first | omega | (unfold kIsO; (repeat' split) <;> omega))) | exact jG_up (show (2 : Int) = kIsO σ z from (by first | omega | (unfold kIsO; (repeat' split) <;> omega))) | exact congrArg (fun v9 => jG Y τ (up σ 40 0 0 v9) ρ ad) (show (3 : Int) = kIsO σ z from (by first | omega | (unfold kIsO; (repeat' split) <;> omega))) | exact jG_up (show (3 : Int) = kIsO σ z from (by first | omega | (unfold kIsO; (repeat' split) <;> omega))) | exact congrArg (fun v9 => jG Y τ (up σ 40 0 0 v9) ρ ad) (show (4 : Int) = kIsO σ z from (by first | omega | (unfold kIsO; (repeat' split) <;> omega))) | exact jG_up (show (4 : Int) = kIsO σ z from (by first | omega | (unfold kIsO; (repeat' split) <;> omega))) | exact congrArg (fun v9 => jG Y τ (up σ 40 0 0 v9) ρ ad) (show (5 : Int) = kIsO σ z from (by first | omega | (unfold kIsO; (repeat' split) <;> omega))) | exact jG_up (show (5 : Int) = kIsO σ z from (by first | omega | (unfold kIsO; (repeat' split) <;> omega))))⟩
  · refine X_iconst C dX9_isOpen_9 ?_
    refine X_goto C (tgt := 14) dX9_isOpen_10 (by decide) ?_
    refine Xp_X9_thrown C fw_X9_78 dX9_isOpen_14 ?_
    refine X_aload_n C rfl dX9_isOpen_17 ?_
    refine Xg_X9_thrown C up_s fl_X9_78 dX9_isOpen_18 ?_
    refine X_if_ne C (tgt := 37) dX9_isOpen_21 (by decide) ⟨by omega, by omega⟩ (fun c_21 => ?_) (fun c_21 => ?_)
    · exfalso; omega
    refine X_aload_n C rfl dX9_isOpen_24 ?_
    refine Xg_X9_isOpen C fl_X9_40 dX9_isOpen_25 ?_
    have k1 := I.op z 0
    refine X_iload_n C rfl dX9_isOpen_28 ?_
    refine Xm_isOpen_ld C (by omega) (by omega) (up_q (by decide)) dX9_isOpen_29 ?_
    refine X_if_eq C (tgt := 37) dX9_isOpen_30 (by decide) ⟨by omega, by omega⟩ (fun c_30 => ?_) (fun c_30 => ?_)
    · refine X_iconst C dX9_isOpen_37 ?_
      exact X_ireturn C M rfl (by decide) (by decide) dX9_isOpen_38 ⟨(by first | exact rI (Eq.trans (show _ = σ 8 z 0 from by omega) (mA_0 (k := kIsO σ z) (by first | omega | (unfold kIsO; (repeat' split) <;> omega))).symm) | exact rI (mA_n (k := kIsO σ z) (by first | omega | (unfold kIsO; (repeat' split) <;> omega))).symm), rfl, (by first | rfl | exact congrArg (fun v9 => jG Y τ (up σ 40 0 0 v9) ρ ad) (show (0 : Int) = kIsO σ z from (by first | omega | (unfold kIsO; (repeat' split) <;> omega))) | exact jG_up (show (0 : Int) = kIsO σ z from (by first | omega | (unfold kIsO; (repeat' split) <;> omega))) | exact congrArg (fun v9 => jG Y τ (up σ 40 0 0 v9) ρ ad) (show (1 : Int) = kIsO σ z from (by first | omega | (unfold kIsO; (repeat' split) <;> omega))) | exact jG_up (show (1 : Int) = kIsO σ z from (by first | omega | (unfold kIsO; (repeat' split) <;> omega))) | exact congrArg (fun v9 => jG Y τ (up σ 40 0 0 v9) ρ ad) (show (2 : Int) = kIsO σ z from (by first | omega | (unfold kIsO; (repeat' split) <;> omega))) | exact jG_up (show (2 : Int) = kIsO σ z from (by first | omega | (unfold kIsO; (repeat' split) <;> omega))) | exact congrArg (fun v9 => jG Y τ (up σ 40 0 0 v9) ρ ad) (show (3 : Int) = kIsO σ z from (by first | omega | (unfold kIsO; (repeat' split) <;> omega))) | exact jG_up (show (3 : Int) = kIsO σ z from (by first | omega | (unfold kIsO; (repeat' split) <;> omega))) | exact congrArg (fun v9 => jG Y τ (up σ 40 0 0 v9) ρ ad) (show (4 : Int) = kIsO σ z from (by first | omega | (unfold kIsO; (repeat' split) <;> omega))) | exact jG_up (show (4 : Int) = kIsO σ z from (by first | omega | (unfold kIsO; (repeat' split) <;> omega))) | exact congrArg (fun v9 => jG Y τ (up σ 40 0 0 v9) ρ ad) (show (5 : Int) = kIsO σ z from (by first | omega | (unfold kIsO; (repeat' split) <;> omega))) | exact jG_up (show (5 : Int) = kIsO σ z from (by first | omega | (unfold kIsO; (repeat' split) <;> omega))))⟩
    · refine X_iconst C dX9_isOpen_33 ?_
      refine X_goto C (tgt := 38) dX9_isOpen_34 (by decide) ?_
      exact X_ireturn C M rfl (by decide) (by decide) dX9_isOpen_38 ⟨(by first | exact rI (Eq.trans (show _ = σ 8 z 0 from by omega) (mA_0 (k := kIsO σ z) (by first | omega | (unfold kIsO; (repeat' split) <;> omega))).symm) | exact rI (mA_n (k := kIsO σ z) (by first | omega | (unfold kIsO; (repeat' split) <;> omega))).symm), rfl, (by first | rfl | exact congrArg (fun v9 => jG Y τ (up σ 40 0 0 v9) ρ ad) (show (0 : Int) = kIsO σ z from (by first | omega | (unfold kIsO; (repeat' split) <;> omega))) | exact jG_up (show (0 : Int) = kIsO σ z from (by first | omega | (unfold kIsO; (repeat' split) <;> omega))) | exact congrArg (fun v9 => jG Y τ (up σ 40 0 0 v9) ρ ad) (show (1 : Int) = kIsO σ z from (by first | omega | (unfold kIsO; (repeat' split) <;> omega))) | exact jG_up (show (1 : Int) = kIsO σ z from (by first | omega | (unfold kIsO; (repeat' split) <;> omega))) | exact congrArg (fun v9 => jG Y τ (up σ 40 0 0 v9) ρ ad) (show (2 : Int) = kIsO σ z from (by first | omega | (unfold kIsO; (repeat' split) <;> omega))) | exact jG_up (show (2 : Int) = kIsO σ z from (by first | omega | (unfold kIsO; (repeat' split) <;> omega))) | exact congrArg (fun v9 => jG Y τ (up σ 40 0 0 v9) ρ ad) (show (3 : Int) = kIsO σ z from (by first | omega | (unfold kIsO; (repeat' split) <;> omega))) | exact jG_up (show (3 : Int) = kIsO σ z from (by first | omega | (unfold kIsO; (repeat' split) <;> omega))) | exact congrArg (fun v9 => jG Y τ (up σ 40 0 0 v9) ρ ad) (show (4 : Int) = kIsO σ z from (by first | omega | (unfold kIsO; (repeat' split) <;> omega))) | exact jG_up (show (4 : Int) = kIsO σ z from (by first | omega | (unfold kIsO; (repeat' split) <;> omega))) | exact congrArg (fun v9 => jG Y τ (up σ 40 0 0 v9) ρ ad) (show (5 : Int) = kIsO σ z from (by first | omega | (unfold kIsO; (repeat' split) <;> omega))) | exact jG_up (show (5 : Int) = kIsO σ z from (by first | omega | (unfold kIsO; (repeat' split) <;> omega))))⟩
set_option maxRecDepth 100000 in
set_option maxHeartbeats 4000000 in
theorem c_X9_isDone {lc : Launch} (hlc : lc.stackTraces = false) {D : va_G} {Y : Nat → ClassId} {A : Nat → Prop} {τ σ : xS} {ρ : xG} {ad : xL} {n z : Int} (I : xI n σ) (hz0 : rg z) : Ct lc yX9_isDone cX9_isDone 2 (some .boolean) (rmL 6 0 0) D Y A ad (jG Y τ σ ρ ad) [.ref (ad 20 0), .int (iI z)] (pE (some (.int (iI (mA (kOdr σ z) (bI (alA σ z)) 0)))) ad (jG Y τ (up σ 40 0 0 (kOdr σ z)) ρ ad)) (pF) := by
  refine Ct_of hlc (by decide +kernel) rfl rfl (own := RX9) (nm := "isDone") (l0 := [some (.ref (ad 20 0)), some (.int (iI z))]) rfl (Nat.le_of_ble_eq_true rfl) (fun κ C M => ?_)
  have Ind := I.nd
  have Inc := I.nc
  have Ino := I.no
  have In := I.n0
  have kf := kOdr_f σ z
  refine X_aload_n C rfl dX9_isDone_0 ?_
  refine X_iload_n C rfl dX9_isDone_1 ?_
  refine X_callVE_1 C (c_X9_asksOrder C.hlc (by assumption) (by omega)) cv_X9_192 jG_20 ⟨_, _, rfl⟩ rfl rfl dX9_isDone_2 ?_
  refine X_if_eqB C (tgt := 20) dX9_isDone_5 (by decide) (fun c_5 => ?_) (fun c_5 => ?_)
  · refine X_iconst C dX9_isDone_20 ?_
    exact X_ireturn C M rfl (by decide) (by decide) dX9_isDone_21 ⟨rI (mA_n (k := kOdr σ z) (by first | omega | (unfold kOdr; (repeat' split) <;> omega))).symm, rfl, rfl⟩
  · refine X_aload_n C rfl dX9_isDone_8 ?_
    refine X_iload_n C rfl dX9_isDone_9 ?_
    refine X_callVE_1 C (c_X9_isAll C.hlc (pr_thr I) (show 0 ≤ z ∧ z < σ 32 0 0 from by omega)) cv_X9_199 jG_20 ⟨_, _, rfl⟩ rfl rfl dX9_isDone_10 ?_
    refine X_if_eqB C (tgt := 20) dX9_isDone_13 (by decide) (fun c_13 => ?_) (fun c_13 => ?_)
    · refine X_iconst C dX9_isDone_20 ?_
      exact X_ireturn C M rfl (by decide) (by decide) dX9_isDone_21 ⟨rI (Eq.trans (show (0 : Int) = bI (alA σ z) from (bI_f c_13).symm) (mA_0 (k := kOdr σ z) (by first | omega | (unfold kOdr; (repeat' split) <;> omega))).symm), rfl, rfl⟩
    · refine X_iconst C dX9_isDone_16 ?_
      refine X_goto C (tgt := 21) dX9_isDone_17 (by decide) ?_
      exact X_ireturn C M rfl (by decide) (by decide) dX9_isDone_21 ⟨rI (Eq.trans (show (1 : Int) = bI (alA σ z) from (bI_t c_13).symm) (mA_0 (k := kOdr σ z) (by first | omega | (unfold kOdr; (repeat' split) <;> omega))).symm), rfl, rfl⟩
set_option maxRecDepth 100000 in
set_option maxHeartbeats 4000000 in
theorem c_X9_cost {lc : Launch} (hlc : lc.stackTraces = false) {D : va_G} {Y : Nat → ClassId} {A : Nat → Prop} {τ σ : xS} {ρ : xG} {ad : xL} {n z : Int} (I : xI n σ) (hz : rg z) : Ct lc yX9_cost cX9_cost 2 (some .long) (rmL 3 0 0) D Y A ad (jG Y τ σ ρ ad) [.ref (ad 20 0), .int (iI z)] (pE (some (.long (lI (mA (kOdr σ z) (2 * σ 12 z 0 + 30 * σ 13 z 0) (-1))))) ad (jG Y τ (up σ 40 0 0 (kOdr σ z)) ρ ad)) (pF) := by
  refine Ct_of hlc (by decide +kernel) rfl rfl (own := RX9) (nm := "cost") (l0 := [some (.ref (ad 20 0)), some (.int (iI z))]) rfl (Nat.le_of_ble_eq_true rfl) (fun κ C M => ?_)
  have Ind := I.nd
  have Inc := I.nc
  have Ino := I.no
  have In := I.n0
  have kf := kOdr_f σ z
  have k1 := I.pf z 0
  have k2 := I.lf z 0
  refine X_aload_n C rfl dX9_cost_0 ?_
  refine X_iload_n C rfl dX9_cost_1 ?_
  refine X_callVE_1 C (c_X9_asksOrder C.hlc (by assumption) (by omega)) cv_X9_192 jG_20 ⟨_, _, rfl⟩ rfl rfl dX9_cost_2 ?_
  refine X_if_eqB C (tgt := 34) dX9_cost_5 (by decide) (fun c_5 => ?_) (fun c_5 => ?_)
  · refine X_ldc2 C (n := -1) (v := -1) (by decide +kernel) k_X9_218 dX9_cost_34 ?_
    exact X_lreturn C M (by decide) (by decide) dX9_cost_37 ⟨(by first | exact rLm (Eq.trans (by rfl) (mA_0 (k := kOdr σ z) (by first | omega | (unfold kOdr; (repeat' split) <;> omega))).symm) | exact rLm (mA_n (k := kOdr σ z) (by first | omega | (unfold kOdr; (repeat' split) <;> omega))).symm), rfl, rfl⟩
  · refine X_ldc2 C (n := 2) (v := 2) (by decide +kernel) k_X9_214 dX9_cost_8 ?_
    refine X_aload_n C rfl dX9_cost_11 ?_
    refine Xg_X9_paperFor C fl_X9_53 dX9_cost_12 ?_
    refine X_iload_n C rfl dX9_cost_15 ?_
    refine Xm_paperFor_ld C (by omega) (by omega) (up_q (by decide)) dX9_cost_16 ?_
    refine X_i2l C ⟨by omega, by omega⟩ dX9_cost_17 ?_
    refine X_lmul C dX9_cost_18 ?_
    refine X_ldc2 C (n := 30) (v := 30) (by decide +kernel) k_X9_216 dX9_cost_19 ?_
    refine X_aload_n C rfl dX9_cost_22 ?_
    refine Xg_X9_platesFor C fl_X9_56 dX9_cost_23 ?_
    refine X_iload_n C rfl dX9_cost_26 ?_
    refine Xm_platesFor_ld C (by omega) (by omega) (up_q (by decide)) dX9_cost_27 ?_
    refine X_i2l C ⟨by omega, by omega⟩ dX9_cost_28 ?_
    refine X_lmul C dX9_cost_29 ?_
    refine X_ladd C dX9_cost_30 ?_
    refine X_goto C (tgt := 37) dX9_cost_31 (by decide) ?_
    exact X_lreturn C M (by decide) (by decide) dX9_cost_37 ⟨(by first | exact rLm (Eq.trans (by rfl) (mA_0 (k := kOdr σ z) (by first | omega | (unfold kOdr; (repeat' split) <;> omega))).symm) | exact rLm (mA_n (k := kOdr σ z) (by first | omega | (unfold kOdr; (repeat' split) <;> omega))).symm), rfl, rfl⟩
set_option maxRecDepth 100000 in
set_option maxHeartbeats 4000000 in
theorem c_X9_lateBy {lc : Launch} (hlc : lc.stackTraces = false) {D : va_G} {Y : Nat → ClassId} {A : Nat → Prop} {τ σ : xS} {ρ : xG} {ad : xL} {n z : Int} (I : xI n σ) (hz0 : rg z) : Ct lc yX9_lateBy cX9_lateBy 2 (some .int) (rmL 6 0 0) D Y A ad (jG Y τ σ ρ ad) [.ref (ad 20 0), .int (iI z)] (pE (some (.int (iI (mA (kOdr σ z) (ltA σ z) (-1))))) ad (jG Y τ (up σ 40 0 0 (kOdr σ z)) ρ ad)) (pF) := by
  refine Ct_of hlc (by decide +kernel) rfl rfl (own := RX9) (nm := "lateBy") (l0 := [some (.ref (ad 20 0)), some (.int (iI z))]) rfl (Nat.le_of_ble_eq_true rfl) (fun κ C M => ?_)
  have Ind := I.nd
  have Inc := I.nc
  have Ino := I.no
  have In := I.n0
  have kf := kOdr_f σ z
  have k1 := I.hr
  have k2 := I.du z 0
  refine X_aload_n C rfl dX9_lateBy_0 ?_
  refine X_iload_n C rfl dX9_lateBy_1 ?_
  refine X_callVE_1 C (c_X9_asksOrder C.hlc (by assumption) (by omega)) cv_X9_192 jG_20 ⟨_, _, rfl⟩ rfl rfl dX9_lateBy_2 ?_
  refine X_if_neB C (tgt := 10) dX9_lateBy_5 (by decide) (fun c_5 => ?_) (fun c_5 => ?_)
  · refine X_aload_n C rfl dX9_lateBy_10 ?_
    refine X_iload_n C rfl dX9_lateBy_11 ?_
    refine X_callVE_1 C (c_X9_isAll C.hlc (pr_thr I) (show 0 ≤ z ∧ z < σ 32 0 0 from by omega)) cv_X9_199 jG_20 ⟨_, _, rfl⟩ rfl rfl dX9_lateBy_12 ?_
    refine X_if_neB C (tgt := 31) dX9_lateBy_15 (by decide) (fun c_15 => ?_) (fun c_15 => ?_)
    · refine X_iconst C dX9_lateBy_31 ?_
      refine X_goto C (tgt := 46) dX9_lateBy_32 (by decide) ?_
      exact X_ireturn C M rfl (by decide) (by decide) dX9_lateBy_46 ⟨rI (Eq.trans (show (0 : Int) = ltA σ z from by unfold ltA; exact (pk_t (Or.inr c_15)).symm) (mA_0 (k := kOdr σ z) (by first | omega | (unfold kOdr; (repeat' split) <;> omega))).symm), rfl, rfl⟩
    · refine X_aload_n C rfl dX9_lateBy_18 ?_
      refine Xg_X9_hour C (up_q (by decide)) fl_X9_88 dX9_lateBy_19 ?_
      refine X_aload_n C rfl dX9_lateBy_22 ?_
      refine Xg_X9_dues C fl_X9_50 dX9_lateBy_23 ?_
      refine X_iload_n C rfl dX9_lateBy_26 ?_
      refine Xm_dues_ld C (by omega) (by omega) (up_q (by decide)) dX9_lateBy_27 ?_
      refine X_icmp_ge C (tgt := 35) dX9_lateBy_28 (by decide) ⟨by omega, by omega⟩ ⟨by omega, by omega⟩ (fun c_28 => ?_) (fun c_28 => ?_)
      · refine X_aload_n C rfl dX9_lateBy_35 ?_
        refine Xg_X9_hour C (up_q (by decide)) fl_X9_88 dX9_lateBy_36 ?_
        refine X_aload_n C rfl dX9_lateBy_39 ?_
        refine Xg_X9_dues C fl_X9_50 dX9_lateBy_40 ?_
        refine X_iload_n C rfl dX9_lateBy_43 ?_
        refine Xm_dues_ld C (by omega) (by omega) (up_q (by decide)) dX9_lateBy_44 ?_
        refine X_isub C dX9_lateBy_45 ?_
        exact X_ireturn C M rfl (by decide) (by decide) dX9_lateBy_46 ⟨rI (Eq.trans (show _ = ltA σ z from by unfold ltA; by_cases e : σ 39 0 0 ≤ σ 11 z 0; rw [pk_t (Or.inl e)]; omega; exact (pk_f (fun w => w.elim e c_15)).symm) (mA_0 (k := kOdr σ z) (by first | omega | (unfold kOdr; (repeat' split) <;> omega))).symm), rfl, rfl⟩
      · refine X_iconst C dX9_lateBy_31 ?_
        refine X_goto C (tgt := 46) dX9_lateBy_32 (by decide) ?_
        exact X_ireturn C M rfl (by decide) (by decide) dX9_lateBy_46 ⟨rI (Eq.trans (show (0 : Int) = ltA σ z from by unfold ltA; exact (pk_t (Or.inl (by omega))).symm) (mA_0 (k := kOdr σ z) (by first | omega | (unfold kOdr; (repeat' split) <;> omega))).symm), rfl, rfl⟩
  · refine X_iconst C dX9_lateBy_8 ?_
    exact X_ireturn C M rfl (by decide) (by decide) dX9_lateBy_9 ⟨rI (mA_n (k := kOdr σ z) (by first | omega | (unfold kOdr; (repeat' split) <;> omega))).symm, rfl, rfl⟩
set_option maxRecDepth 100000 in
set_option maxHeartbeats 4000000 in
theorem c_X9_plateLength {lc : Launch} (hlc : lc.stackTraces = false) {D : va_G} {Y : Nat → ClassId} {A : Nat → Prop} {τ σ : xS} {ρ : xG} {ad : xL} {n z s : Int} (I : xI n σ) (hz0 : rg z) (hz1 : rg s) : Ct lc yX9_plateLength cX9_plateLength 3 (some .int) (rmL 4 0 0) D Y A ad (jG Y τ σ ρ ad) [.ref (ad 20 0), .int (iI z), .int (iI s)] (pE (some (.int (iI (mA (kPlL σ z s) (σ 15 (3 * z + s) 0) (-1))))) ad (jG Y τ (up σ 40 0 0 (kPlL σ z s)) ρ ad)) (pF) := by
  refine Ct_of hlc (by decide +kernel) rfl rfl (own := RX9) (nm := "plateLength") (l0 := [some (.ref (ad 20 0)), some (.int (iI z)), some (.int (iI s))]) rfl (Nat.le_of_ble_eq_true rfl) (fun κ C M => ?_)
  have Ind := I.nd
  have Inc := I.nc
  have Ino := I.no
  have In := I.n0
  have kf := kSta_f σ z s
  have k5 := I.sb (σ 9 z 0)
  have k6 := I.pl (3 * z + s) 0
  refine X_aload_n C rfl dX9_plateLength_0 ?_
  refine X_iload_n C rfl dX9_plateLength_1 ?_
  refine X_iload_n C rfl dX9_plateLength_2 ?_
  refine X_callVE_2 C (c_X9_asksSheet C.hlc (by assumption) (by omega) (by omega)) cv_X9_195 jG_20 ⟨_, _, rfl⟩ rfl rfl dX9_plateLength_3 ?_
  refine X_if_eqB C (tgt := 32) dX9_plateLength_6 (by decide) (fun c_6 => ?_) (fun c_6 => ?_)
  · refine X_aload_n C rfl dX9_plateLength_32 ?_
    refine Xg_X9_thrown C up_s fl_X9_78 dX9_plateLength_33 ?_
    refine X_if_ne C (tgt := 52) dX9_plateLength_36 (by decide) ⟨by omega, by omega⟩ (fun c_36 => ?_) (fun c_36 => ?_)
    · refine X_iconst C dX9_plateLength_52 ?_
      exact X_ireturn C M rfl (by decide) (by decide) dX9_plateLength_53 ⟨(by first | exact rI (Eq.trans (by rfl) (mA_0 (k := kPlL σ z s) (by first | omega | (unfold kPlL; (repeat' split) <;> omega))).symm) | exact rI (mA_n (k := kPlL σ z s) (by first | omega | (unfold kPlL; (repeat' split) <;> omega))).symm), rfl, (by first | rfl | exact congrArg (fun v9 => jG Y τ (up σ 40 0 0 v9) ρ ad) (show (0 : Int) = kPlL σ z s from (by first | omega | (unfold kPlL; (repeat' split) <;> omega))) | exact jG_up (show (0 : Int) = kPlL σ z s from (by first | omega | (unfold kPlL; (repeat' split) <;> omega))) | exact congrArg (fun v9 => jG Y τ (up σ 40 0 0 v9) ρ ad) (show (1 : Int) = kPlL σ z s from (by first | omega | (unfold kPlL; (repeat' split) <;> omega))) | exact jG_up (show (1 : Int) = kPlL σ z s from (by first | omega | (unfold kPlL; (repeat' split) <;> omega))) | exact congrArg (fun v9 => jG Y τ (up σ 40 0 0 v9) ρ ad) (show (2 : Int) = kPlL σ z s from (by first | omega | (unfold kPlL; (repeat' split) <;> omega))) | exact jG_up (show (2 : Int) = kPlL σ z s from (by first | omega | (unfold kPlL; (repeat' split) <;> omega))) | exact congrArg (fun v9 => jG Y τ (up σ 40 0 0 v9) ρ ad) (show (3 : Int) = kPlL σ z s from (by first | omega | (unfold kPlL; (repeat' split) <;> omega))) | exact jG_up (show (3 : Int) = kPlL σ z s from (by first | omega | (unfold kPlL; (repeat' split) <;> omega))) | exact congrArg (fun v9 => jG Y τ (up σ 40 0 0 v9) ρ ad) (show (4 : Int) = kPlL σ z s from (by first | omega | (unfold kPlL; (repeat' split) <;> omega))) | exact jG_up (show (4 : Int) = kPlL σ z s from (by first | omega | (unfold kPlL; (repeat' split) <;> omega))) | exact congrArg (fun v9 => jG Y τ (up σ 40 0 0 v9) ρ ad) (show (5 : Int) = kPlL σ z s from (by first | omega | (unfold kPlL; (repeat' split) <;> omega))) | exact jG_up (show (5 : Int) = kPlL σ z s from (by first | omega | (unfold kPlL; (repeat' split) <;> omega))) | exact congrArg (fun v9 => jG Y τ (up σ 40 0 0 v9) ρ ad) (show kSta σ z s = kPlL σ z s from (by first | omega | (unfold kPlL; (repeat' split) <;> omega))))⟩
    · refine X_aload_n C rfl dX9_plateLength_39 ?_
      refine Xg_X9_plateLength C fl_X9_62 dX9_plateLength_40 ?_
      refine X_iconst C dX9_plateLength_43 ?_
      refine X_iload_n C rfl dX9_plateLength_44 ?_
      refine X_imul C dX9_plateLength_45 ?_
      refine X_iload_n C rfl dX9_plateLength_46 ?_
      refine X_iadd C dX9_plateLength_47 ?_
      refine Xm_plateLength_ld C (by omega) (by omega) (up_q (by decide)) dX9_plateLength_48 ?_
      refine X_goto C (tgt := 53) dX9_plateLength_49 (by decide) ?_
      exact X_ireturn C M rfl (by decide) (by decide) dX9_plateLength_53 ⟨(by first | exact rI (Eq.trans (by rfl) (mA_0 (k := kPlL σ z s) (by first | omega | (unfold kPlL; (repeat' split) <;> omega))).symm) | exact rI (mA_n (k := kPlL σ z s) (by first | omega | (unfold kPlL; (repeat' split) <;> omega))).symm), rfl, (by first | rfl | exact congrArg (fun v9 => jG Y τ (up σ 40 0 0 v9) ρ ad) (show (0 : Int) = kPlL σ z s from (by first | omega | (unfold kPlL; (repeat' split) <;> omega))) | exact jG_up (show (0 : Int) = kPlL σ z s from (by first | omega | (unfold kPlL; (repeat' split) <;> omega))) | exact congrArg (fun v9 => jG Y τ (up σ 40 0 0 v9) ρ ad) (show (1 : Int) = kPlL σ z s from (by first | omega | (unfold kPlL; (repeat' split) <;> omega))) | exact jG_up (show (1 : Int) = kPlL σ z s from (by first | omega | (unfold kPlL; (repeat' split) <;> omega))) | exact congrArg (fun v9 => jG Y τ (up σ 40 0 0 v9) ρ ad) (show (2 : Int) = kPlL σ z s from (by first | omega | (unfold kPlL; (repeat' split) <;> omega))) | exact jG_up (show (2 : Int) = kPlL σ z s from (by first | omega | (unfold kPlL; (repeat' split) <;> omega))) | exact congrArg (fun v9 => jG Y τ (up σ 40 0 0 v9) ρ ad) (show (3 : Int) = kPlL σ z s from (by first | omega | (unfold kPlL; (repeat' split) <;> omega))) | exact jG_up (show (3 : Int) = kPlL σ z s from (by first | omega | (unfold kPlL; (repeat' split) <;> omega))) | exact congrArg (fun v9 => jG Y τ (up σ 40 0 0 v9) ρ ad) (show (4 : Int) = kPlL σ z s from (by first | omega | (unfold kPlL; (repeat' split) <;> omega))) | exact jG_up (show (4 : Int) = kPlL σ z s from (by first | omega | (unfold kPlL; (repeat' split) <;> omega))) | exact congrArg (fun v9 => jG Y τ (up σ 40 0 0 v9) ρ ad) (show (5 : Int) = kPlL σ z s from (by first | omega | (unfold kPlL; (repeat' split) <;> omega))) | exact jG_up (show (5 : Int) = kPlL σ z s from (by first | omega | (unfold kPlL; (repeat' split) <;> omega))) | exact congrArg (fun v9 => jG Y τ (up σ 40 0 0 v9) ρ ad) (show kSta σ z s = kPlL σ z s from (by first | omega | (unfold kPlL; (repeat' split) <;> omega))))⟩
  · refine X_aload_n C rfl dX9_plateLength_9 ?_
    refine X_aload_n C rfl dX9_plateLength_10 ?_
    refine Xg_X9_plateLength C fl_X9_62 dX9_plateLength_11 ?_
    refine X_iconst C dX9_plateLength_14 ?_
    refine X_iload_n C rfl dX9_plateLength_15 ?_
    refine X_imul C dX9_plateLength_16 ?_
    refine X_iload_n C rfl dX9_plateLength_17 ?_
    refine X_iadd C dX9_plateLength_18 ?_
    refine Xm_plateLength_ld C (by omega) (by omega) (up_q (by decide)) dX9_plateLength_19 ?_
    refine X_iconst C dX9_plateLength_20 ?_
    refine X_icmp_ne C (tgt := 28) dX9_plateLength_21 (by decide) ⟨by omega, by omega⟩ ⟨by omega, by omega⟩ (fun c_21 => ?_) (fun c_21 => ?_)
    · refine X_iconst C dX9_plateLength_28 ?_
      refine Xp_X9_thrown C fw_X9_78 dX9_plateLength_29 ?_
      refine X_aload_n C rfl dX9_plateLength_32 ?_
      refine Xg_X9_thrown C up_s fl_X9_78 dX9_plateLength_33 ?_
      refine X_if_ne C (tgt := 52) dX9_plateLength_36 (by decide) ⟨by omega, by omega⟩ (fun c_36 => ?_) (fun c_36 => ?_)
      · exfalso; omega
      refine X_aload_n C rfl dX9_plateLength_39 ?_
      refine Xg_X9_plateLength C fl_X9_62 dX9_plateLength_40 ?_
      refine X_iconst C dX9_plateLength_43 ?_
      refine X_iload_n C rfl dX9_plateLength_44 ?_
      refine X_imul C dX9_plateLength_45 ?_
      refine X_iload_n C rfl dX9_plateLength_46 ?_
      refine X_iadd C dX9_plateLength_47 ?_
      refine Xm_plateLength_ld C (by omega) (by omega) (up_q2 (by decide)) dX9_plateLength_48 ?_
      refine X_goto C (tgt := 53) dX9_plateLength_49 (by decide) ?_
      exact X_ireturn C M rfl (by decide) (by decide) dX9_plateLength_53 ⟨(by first | exact rI (Eq.trans (by rfl) (mA_0 (k := kPlL σ z s) (by first | omega | (unfold kPlL; (repeat' split) <;> omega))).symm) | exact rI (mA_n (k := kPlL σ z s) (by first | omega | (unfold kPlL; (repeat' split) <;> omega))).symm), rfl, (by first | rfl | exact congrArg (fun v9 => jG Y τ (up σ 40 0 0 v9) ρ ad) (show (0 : Int) = kPlL σ z s from (by first | omega | (unfold kPlL; (repeat' split) <;> omega))) | exact jG_up (show (0 : Int) = kPlL σ z s from (by first | omega | (unfold kPlL; (repeat' split) <;> omega))) | exact congrArg (fun v9 => jG Y τ (up σ 40 0 0 v9) ρ ad) (show (1 : Int) = kPlL σ z s from (by first | omega | (unfold kPlL; (repeat' split) <;> omega))) | exact jG_up (show (1 : Int) = kPlL σ z s from (by first | omega | (unfold kPlL; (repeat' split) <;> omega))) | exact congrArg (fun v9 => jG Y τ (up σ 40 0 0 v9) ρ ad) (show (2 : Int) = kPlL σ z s from (by first | omega | (unfold kPlL; (repeat' split) <;> omega))) | exact jG_up (show (2 : Int) = kPlL σ z s from (by first | omega | (unfold kPlL; (repeat' split) <;> omega))) | exact congrArg (fun v9 => jG Y τ (up σ 40 0 0 v9) ρ ad) (show (3 : Int) = kPlL σ z s from (by first | omega | (unfold kPlL; (repeat' split) <;> omega))) | exact jG_up (show (3 : Int) = kPlL σ z s from (by first | omega | (unfold kPlL; (repeat' split) <;> omega))) | exact congrArg (fun v9 => jG Y τ (up σ 40 0 0 v9) ρ ad) (show (4 : Int) = kPlL σ z s from (by first | omega | (unfold kPlL; (repeat' split) <;> omega))) | exact jG_up (show (4 : Int) = kPlL σ z s from (by first | omega | (unfold kPlL; (repeat' split) <;> omega))) | exact congrArg (fun v9 => jG Y τ (up σ 40 0 0 v9) ρ ad) (show (5 : Int) = kPlL σ z s from (by first | omega | (unfold kPlL; (repeat' split) <;> omega))) | exact jG_up (show (5 : Int) = kPlL σ z s from (by first | omega | (unfold kPlL; (repeat' split) <;> omega))) | exact congrArg (fun v9 => jG Y τ (up σ 40 0 0 v9) ρ ad) (show kSta σ z s = kPlL σ z s from (by first | omega | (unfold kPlL; (repeat' split) <;> omega))))⟩
    · refine X_iconst C dX9_plateLength_24 ?_
      refine X_goto C (tgt := 29) dX9_plateLength_25 (by decide) ?_
      refine Xp_X9_thrown C fw_X9_78 dX9_plateLength_29 ?_
      refine X_aload_n C rfl dX9_plateLength_32 ?_
      refine Xg_X9_thrown C up_s fl_X9_78 dX9_plateLength_33 ?_
      refine X_if_ne C (tgt := 52) dX9_plateLength_36 (by decide) ⟨by omega, by omega⟩ (fun c_36 => ?_) (fun c_36 => ?_)
      rotate_left
      · exfalso; omega
      refine X_iconst C dX9_plateLength_52 ?_
      exact X_ireturn C M rfl (by decide) (by decide) dX9_plateLength_53 ⟨(by first | exact rI (Eq.trans (by rfl) (mA_0 (k := kPlL σ z s) (by first | omega | (unfold kPlL; (repeat' split) <;> omega))).symm) | exact rI (mA_n (k := kPlL σ z s) (by first | omega | (unfold kPlL; (repeat' split) <;> omega))).symm), rfl, (by first | rfl | exact congrArg (fun v9 => jG Y τ (up σ 40 0 0 v9) ρ ad) (show (0 : Int) = kPlL σ z s from (by first | omega | (unfold kPlL; (repeat' split) <;> omega))) | exact jG_up (show (0 : Int) = kPlL σ z s from (by first | omega | (unfold kPlL; (repeat' split) <;> omega))) | exact congrArg (fun v9 => jG Y τ (up σ 40 0 0 v9) ρ ad) (show (1 : Int) = kPlL σ z s from (by first | omega | (unfold kPlL; (repeat' split) <;> omega))) | exact jG_up (show (1 : Int) = kPlL σ z s from (by first | omega | (unfold kPlL; (repeat' split) <;> omega))) | exact congrArg (fun v9 => jG Y τ (up σ 40 0 0 v9) ρ ad) (show (2 : Int) = kPlL σ z s from (by first | omega | (unfold kPlL; (repeat' split) <;> omega))) | exact jG_up (show (2 : Int) = kPlL σ z s from (by first | omega | (unfold kPlL; (repeat' split) <;> omega))) | exact congrArg (fun v9 => jG Y τ (up σ 40 0 0 v9) ρ ad) (show (3 : Int) = kPlL σ z s from (by first | omega | (unfold kPlL; (repeat' split) <;> omega))) | exact jG_up (show (3 : Int) = kPlL σ z s from (by first | omega | (unfold kPlL; (repeat' split) <;> omega))) | exact congrArg (fun v9 => jG Y τ (up σ 40 0 0 v9) ρ ad) (show (4 : Int) = kPlL σ z s from (by first | omega | (unfold kPlL; (repeat' split) <;> omega))) | exact jG_up (show (4 : Int) = kPlL σ z s from (by first | omega | (unfold kPlL; (repeat' split) <;> omega))) | exact congrArg (fun v9 => jG Y τ (up σ 40 0 0 v9) ρ ad) (show (5 : Int) = kPlL σ z s from (by first | omega | (unfold kPlL; (repeat' split) <;> omega))) | exact jG_up (show (5 : Int) = kPlL σ z s from (by first | omega | (unfold kPlL; (repeat' split) <;> omega))) | exact congrArg (fun v9 => jG Y τ (up σ 40 0 0 v9) ρ ad) (show kSta σ z s = kPlL σ z s from (by first | omega | (unfold kPlL; (repeat' split) <;> omega))))⟩
set_option maxRecDepth 100000 in
set_option maxHeartbeats 4000000 in
theorem c_X9_plateAt {lc : Launch} (hlc : lc.stackTraces = false) {D : va_G} {Y : Nat → ClassId} {A : Nat → Prop} {τ σ : xS} {ρ : xG} {ad : xL} {n z s i : Int} (I : xI n σ) (hz0 : rg z) (hz1 : rg s) (hz2 : rg i) : Ct lc yX9_plateAt cX9_plateAt 4 (some .int) (rmL 4 0 0) D Y A ad (jG Y τ σ ρ ad) [.ref (ad 20 0), .int (iI z), .int (iI s), .int (iI i)] (pE (some (.int (iI (mA (kPlA σ z s i) (σ 17 (3 * z + s) i) (-1))))) ad (jG Y τ (up σ 40 0 0 (kPlA σ z s i)) ρ ad)) (pF) := by
  refine Ct_of hlc (by decide +kernel) rfl rfl (own := RX9) (nm := "plateAt") (l0 := [some (.ref (ad 20 0)), some (.int (iI z)), some (.int (iI s)), some (.int (iI i))]) rfl (Nat.le_of_ble_eq_true rfl) (fun κ C M => ?_)
  have Ind := I.nd
  have Inc := I.nc
  have Ino := I.no
  have In := I.n0
  have kf := kSta_f σ z s
  have k5 := I.sb (σ 9 z 0)
  have k6 := I.pl (3 * z + s) 0
  refine X_aload_n C rfl dX9_plateAt_0 ?_
  refine X_iload_n C rfl dX9_plateAt_1 ?_
  refine X_iload_n C rfl dX9_plateAt_2 ?_
  refine X_callVE_2 C (c_X9_asksSheet C.hlc (by assumption) (by omega) (by omega)) cv_X9_195 jG_20 ⟨_, _, rfl⟩ rfl rfl dX9_plateAt_3 ?_
  refine X_if_eqB C (tgt := 40) dX9_plateAt_6 (by decide) (fun c_6 => ?_) (fun c_6 => ?_)
  · refine X_aload_n C rfl dX9_plateAt_40 ?_
    refine Xg_X9_thrown C up_s fl_X9_78 dX9_plateAt_41 ?_
    refine X_if_ne C (tgt := 65) dX9_plateAt_44 (by decide) ⟨by omega, by omega⟩ (fun c_44 => ?_) (fun c_44 => ?_)
    · refine X_iconst C dX9_plateAt_65 ?_
      exact X_ireturn C M rfl (by decide) (by decide) dX9_plateAt_66 ⟨(by first | exact rI (Eq.trans (by rfl) (mA_0 (k := kPlA σ z s i) (by first | omega | (unfold kPlA; (repeat' split) <;> omega))).symm) | exact rI (mA_n (k := kPlA σ z s i) (by first | omega | (unfold kPlA; (repeat' split) <;> omega))).symm), rfl, (by first | rfl | exact congrArg (fun v9 => jG Y τ (up σ 40 0 0 v9) ρ ad) (show (0 : Int) = kPlA σ z s i from (by first | omega | (unfold kPlA; (repeat' split) <;> omega))) | exact jG_up (show (0 : Int) = kPlA σ z s i from (by first | omega | (unfold kPlA; (repeat' split) <;> omega))) | exact congrArg (fun v9 => jG Y τ (up σ 40 0 0 v9) ρ ad) (show (1 : Int) = kPlA σ z s i from (by first | omega | (unfold kPlA; (repeat' split) <;> omega))) | exact jG_up (show (1 : Int) = kPlA σ z s i from (by first | omega | (unfold kPlA; (repeat' split) <;> omega))) | exact congrArg (fun v9 => jG Y τ (up σ 40 0 0 v9) ρ ad) (show (2 : Int) = kPlA σ z s i from (by first | omega | (unfold kPlA; (repeat' split) <;> omega))) | exact jG_up (show (2 : Int) = kPlA σ z s i from (by first | omega | (unfold kPlA; (repeat' split) <;> omega))) | exact congrArg (fun v9 => jG Y τ (up σ 40 0 0 v9) ρ ad) (show (3 : Int) = kPlA σ z s i from (by first | omega | (unfold kPlA; (repeat' split) <;> omega))) | exact jG_up (show (3 : Int) = kPlA σ z s i from (by first | omega | (unfold kPlA; (repeat' split) <;> omega))) | exact congrArg (fun v9 => jG Y τ (up σ 40 0 0 v9) ρ ad) (show (4 : Int) = kPlA σ z s i from (by first | omega | (unfold kPlA; (repeat' split) <;> omega))) | exact jG_up (show (4 : Int) = kPlA σ z s i from (by first | omega | (unfold kPlA; (repeat' split) <;> omega))) | exact congrArg (fun v9 => jG Y τ (up σ 40 0 0 v9) ρ ad) (show (5 : Int) = kPlA σ z s i from (by first | omega | (unfold kPlA; (repeat' split) <;> omega))) | exact jG_up (show (5 : Int) = kPlA σ z s i from (by first | omega | (unfold kPlA; (repeat' split) <;> omega))) | exact congrArg (fun v9 => jG Y τ (up σ 40 0 0 v9) ρ ad) (show kSta σ z s = kPlA σ z s i from (by first | omega | (unfold kPlA; (repeat' split) <;> omega))))⟩
    · refine X_aload_n C rfl dX9_plateAt_47 ?_
      refine Xg_X9_plate C fl_X9_68 dX9_plateAt_48 ?_
      refine X_bipush C ⟨by decide, by decide⟩ dX9_plateAt_51 ?_
      refine X_iconst C dX9_plateAt_53 ?_
      refine X_iload_n C rfl dX9_plateAt_54 ?_
      refine X_imul C dX9_plateAt_55 ?_
      refine X_iload_n C rfl dX9_plateAt_56 ?_
      refine X_iadd C dX9_plateAt_57 ?_
      refine X_imul C dX9_plateAt_58 ?_
      refine X_iload_n C rfl dX9_plateAt_59 ?_
      refine X_iadd C dX9_plateAt_60 ?_
      refine Xm_plate_ld C (3 * z + s) i (by omega) (by omega) ⟨by omega, by omega⟩ (by omega) (up_q (by decide)) dX9_plateAt_61 ?_
      refine X_goto C (tgt := 66) dX9_plateAt_62 (by decide) ?_
      exact X_ireturn C M rfl (by decide) (by decide) dX9_plateAt_66 ⟨(by first | exact rI (Eq.trans (by rfl) (mA_0 (k := kPlA σ z s i) (by first | omega | (unfold kPlA; (repeat' split) <;> omega))).symm) | exact rI (mA_n (k := kPlA σ z s i) (by first | omega | (unfold kPlA; (repeat' split) <;> omega))).symm), rfl, (by first | rfl | exact congrArg (fun v9 => jG Y τ (up σ 40 0 0 v9) ρ ad) (show (0 : Int) = kPlA σ z s i from (by first | omega | (unfold kPlA; (repeat' split) <;> omega))) | exact jG_up (show (0 : Int) = kPlA σ z s i from (by first | omega | (unfold kPlA; (repeat' split) <;> omega))) | exact congrArg (fun v9 => jG Y τ (up σ 40 0 0 v9) ρ ad) (show (1 : Int) = kPlA σ z s i from (by first | omega | (unfold kPlA; (repeat' split) <;> omega))) | exact jG_up (show (1 : Int) = kPlA σ z s i from (by first | omega | (unfold kPlA; (repeat' split) <;> omega))) | exact congrArg (fun v9 => jG Y τ (up σ 40 0 0 v9) ρ ad) (show (2 : Int) = kPlA σ z s i from (by first | omega | (unfold kPlA; (repeat' split) <;> omega))) | exact jG_up (show (2 : Int) = kPlA σ z s i from (by first | omega | (unfold kPlA; (repeat' split) <;> omega))) | exact congrArg (fun v9 => jG Y τ (up σ 40 0 0 v9) ρ ad) (show (3 : Int) = kPlA σ z s i from (by first | omega | (unfold kPlA; (repeat' split) <;> omega))) | exact jG_up (show (3 : Int) = kPlA σ z s i from (by first | omega | (unfold kPlA; (repeat' split) <;> omega))) | exact congrArg (fun v9 => jG Y τ (up σ 40 0 0 v9) ρ ad) (show (4 : Int) = kPlA σ z s i from (by first | omega | (unfold kPlA; (repeat' split) <;> omega))) | exact jG_up (show (4 : Int) = kPlA σ z s i from (by first | omega | (unfold kPlA; (repeat' split) <;> omega))) | exact congrArg (fun v9 => jG Y τ (up σ 40 0 0 v9) ρ ad) (show (5 : Int) = kPlA σ z s i from (by first | omega | (unfold kPlA; (repeat' split) <;> omega))) | exact jG_up (show (5 : Int) = kPlA σ z s i from (by first | omega | (unfold kPlA; (repeat' split) <;> omega))) | exact congrArg (fun v9 => jG Y τ (up σ 40 0 0 v9) ρ ad) (show kSta σ z s = kPlA σ z s i from (by first | omega | (unfold kPlA; (repeat' split) <;> omega))))⟩
  · refine X_aload_n C rfl dX9_plateAt_9 ?_
    refine X_iload_n C rfl dX9_plateAt_10 ?_
    refine X_i2l C ⟨by omega, by omega⟩ dX9_plateAt_11 ?_
    refine X_lconst C (v := 0) rfl dX9_plateAt_12 ?_
    refine X_aload_n C rfl dX9_plateAt_13 ?_
    refine Xg_X9_plateLength C fl_X9_62 dX9_plateAt_14 ?_
    refine X_iconst C dX9_plateAt_17 ?_
    refine X_iload_n C rfl dX9_plateAt_18 ?_
    refine X_imul C dX9_plateAt_19 ?_
    refine X_iload_n C rfl dX9_plateAt_20 ?_
    refine X_iadd C dX9_plateAt_21 ?_
    refine Xm_plateLength_ld C (by omega) (by omega) (up_q (by decide)) dX9_plateAt_22 ?_
    refine X_iconst C dX9_plateAt_23 ?_
    refine X_isub C dX9_plateAt_24 ?_
    refine X_i2l C ⟨by omega, by omega⟩ dX9_plateAt_25 ?_
    refine X_callSE_3 C (c_X9_in C.hlc (by omega) (by omega) (by omega)) cs_X9_84 rfl rfl dX9_plateAt_26 ?_
    refine X_if_eqB C (tgt := 36) dX9_plateAt_29 (by decide) (fun c_29 => ?_) (fun c_29 => ?_)
    · refine X_iconst C dX9_plateAt_36 ?_
      refine Xp_X9_thrown C fw_X9_78 dX9_plateAt_37 ?_
      refine X_aload_n C rfl dX9_plateAt_40 ?_
      refine Xg_X9_thrown C up_s fl_X9_78 dX9_plateAt_41 ?_
      refine X_if_ne C (tgt := 65) dX9_plateAt_44 (by decide) ⟨by omega, by omega⟩ (fun c_44 => ?_) (fun c_44 => ?_)
      rotate_left
      · exfalso; omega
      refine X_iconst C dX9_plateAt_65 ?_
      exact X_ireturn C M rfl (by decide) (by decide) dX9_plateAt_66 ⟨(by first | exact rI (Eq.trans (by rfl) (mA_0 (k := kPlA σ z s i) (by first | omega | (unfold kPlA; (repeat' split) <;> omega))).symm) | exact rI (mA_n (k := kPlA σ z s i) (by first | omega | (unfold kPlA; (repeat' split) <;> omega))).symm), rfl, (by first | rfl | exact congrArg (fun v9 => jG Y τ (up σ 40 0 0 v9) ρ ad) (show (0 : Int) = kPlA σ z s i from (by first | omega | (unfold kPlA; (repeat' split) <;> omega))) | exact jG_up (show (0 : Int) = kPlA σ z s i from (by first | omega | (unfold kPlA; (repeat' split) <;> omega))) | exact congrArg (fun v9 => jG Y τ (up σ 40 0 0 v9) ρ ad) (show (1 : Int) = kPlA σ z s i from (by first | omega | (unfold kPlA; (repeat' split) <;> omega))) | exact jG_up (show (1 : Int) = kPlA σ z s i from (by first | omega | (unfold kPlA; (repeat' split) <;> omega))) | exact congrArg (fun v9 => jG Y τ (up σ 40 0 0 v9) ρ ad) (show (2 : Int) = kPlA σ z s i from (by first | omega | (unfold kPlA; (repeat' split) <;> omega))) | exact jG_up (show (2 : Int) = kPlA σ z s i from (by first | omega | (unfold kPlA; (repeat' split) <;> omega))) | exact congrArg (fun v9 => jG Y τ (up σ 40 0 0 v9) ρ ad) (show (3 : Int) = kPlA σ z s i from (by first | omega | (unfold kPlA; (repeat' split) <;> omega))) | exact jG_up (show (3 : Int) = kPlA σ z s i from (by first | omega | (unfold kPlA; (repeat' split) <;> omega))) | exact congrArg (fun v9 => jG Y τ (up σ 40 0 0 v9) ρ ad) (show (4 : Int) = kPlA σ z s i from (by first | omega | (unfold kPlA; (repeat' split) <;> omega))) | exact jG_up (show (4 : Int) = kPlA σ z s i from (by first | omega | (unfold kPlA; (repeat' split) <;> omega))) | exact congrArg (fun v9 => jG Y τ (up σ 40 0 0 v9) ρ ad) (show (5 : Int) = kPlA σ z s i from (by first | omega | (unfold kPlA; (repeat' split) <;> omega))) | exact jG_up (show (5 : Int) = kPlA σ z s i from (by first | omega | (unfold kPlA; (repeat' split) <;> omega))) | exact congrArg (fun v9 => jG Y τ (up σ 40 0 0 v9) ρ ad) (show kSta σ z s = kPlA σ z s i from (by first | omega | (unfold kPlA; (repeat' split) <;> omega))))⟩
    · refine X_iconst C dX9_plateAt_32 ?_
      refine X_goto C (tgt := 37) dX9_plateAt_33 (by decide) ?_
      refine Xp_X9_thrown C fw_X9_78 dX9_plateAt_37 ?_
      refine X_aload_n C rfl dX9_plateAt_40 ?_
      refine Xg_X9_thrown C up_s fl_X9_78 dX9_plateAt_41 ?_
      refine X_if_ne C (tgt := 65) dX9_plateAt_44 (by decide) ⟨by omega, by omega⟩ (fun c_44 => ?_) (fun c_44 => ?_)
      · exfalso; omega
      refine X_aload_n C rfl dX9_plateAt_47 ?_
      refine Xg_X9_plate C fl_X9_68 dX9_plateAt_48 ?_
      refine X_bipush C ⟨by decide, by decide⟩ dX9_plateAt_51 ?_
      refine X_iconst C dX9_plateAt_53 ?_
      refine X_iload_n C rfl dX9_plateAt_54 ?_
      refine X_imul C dX9_plateAt_55 ?_
      refine X_iload_n C rfl dX9_plateAt_56 ?_
      refine X_iadd C dX9_plateAt_57 ?_
      refine X_imul C dX9_plateAt_58 ?_
      refine X_iload_n C rfl dX9_plateAt_59 ?_
      refine X_iadd C dX9_plateAt_60 ?_
      refine Xm_plate_ld C (3 * z + s) i (by omega) (by omega) ⟨by omega, by omega⟩ (by omega) (up_q2 (by decide)) dX9_plateAt_61 ?_
      refine X_goto C (tgt := 66) dX9_plateAt_62 (by decide) ?_
      exact X_ireturn C M rfl (by decide) (by decide) dX9_plateAt_66 ⟨(by first | exact rI (Eq.trans (by rfl) (mA_0 (k := kPlA σ z s i) (by first | omega | (unfold kPlA; (repeat' split) <;> omega))).symm) | exact rI (mA_n (k := kPlA σ z s i) (by first | omega | (unfold kPlA; (repeat' split) <;> omega))).symm), rfl, (by first | rfl | exact congrArg (fun v9 => jG Y τ (up σ 40 0 0 v9) ρ ad) (show (0 : Int) = kPlA σ z s i from (by first | omega | (unfold kPlA; (repeat' split) <;> omega))) | exact jG_up (show (0 : Int) = kPlA σ z s i from (by first | omega | (unfold kPlA; (repeat' split) <;> omega))) | exact congrArg (fun v9 => jG Y τ (up σ 40 0 0 v9) ρ ad) (show (1 : Int) = kPlA σ z s i from (by first | omega | (unfold kPlA; (repeat' split) <;> omega))) | exact jG_up (show (1 : Int) = kPlA σ z s i from (by first | omega | (unfold kPlA; (repeat' split) <;> omega))) | exact congrArg (fun v9 => jG Y τ (up σ 40 0 0 v9) ρ ad) (show (2 : Int) = kPlA σ z s i from (by first | omega | (unfold kPlA; (repeat' split) <;> omega))) | exact jG_up (show (2 : Int) = kPlA σ z s i from (by first | omega | (unfold kPlA; (repeat' split) <;> omega))) | exact congrArg (fun v9 => jG Y τ (up σ 40 0 0 v9) ρ ad) (show (3 : Int) = kPlA σ z s i from (by first | omega | (unfold kPlA; (repeat' split) <;> omega))) | exact jG_up (show (3 : Int) = kPlA σ z s i from (by first | omega | (unfold kPlA; (repeat' split) <;> omega))) | exact congrArg (fun v9 => jG Y τ (up σ 40 0 0 v9) ρ ad) (show (4 : Int) = kPlA σ z s i from (by first | omega | (unfold kPlA; (repeat' split) <;> omega))) | exact jG_up (show (4 : Int) = kPlA σ z s i from (by first | omega | (unfold kPlA; (repeat' split) <;> omega))) | exact congrArg (fun v9 => jG Y τ (up σ 40 0 0 v9) ρ ad) (show (5 : Int) = kPlA σ z s i from (by first | omega | (unfold kPlA; (repeat' split) <;> omega))) | exact jG_up (show (5 : Int) = kPlA σ z s i from (by first | omega | (unfold kPlA; (repeat' split) <;> omega))) | exact congrArg (fun v9 => jG Y τ (up σ 40 0 0 v9) ρ ad) (show kSta σ z s = kPlA σ z s i from (by first | omega | (unfold kPlA; (repeat' split) <;> omega))))⟩
set_option maxRecDepth 100000 in
set_option maxHeartbeats 4000000 in
theorem c_X9_goodShare {lc : Launch} (hlc : lc.stackTraces = false) {D : va_G} {Y : Nat → ClassId} {A : Nat → Prop} {τ σ : xS} {ρ : xG} {ad : xL} {n : Int} (I : xI n σ) : Ct lc yX9_goodShare cX9_goodShare 4 (some .float) (rmL 5 0 0) D Y A ad (jG Y τ σ ρ ad) [.ref (ad 20 0)] (pE (some (.float (mQ (kNon (σ 32 0 0)) (FP.fdiv (FP.i2f (iI (gsG σ (σ 32 0 0)))) (FP.i2f (iI (gsT σ (σ 32 0 0))))) FP.fconst0))) ad (jG Y τ (up σ 40 0 0 (kNon (σ 32 0 0))) ρ ad)) (pF) := by
  refine Ct_of hlc (by decide +kernel) rfl rfl (own := RX9) (nm := "goodShare") (l0 := [some (.ref (ad 20 0)), none, none, none]) rfl (Nat.le_of_ble_eq_true rfl) (fun κ C M => ?_)
  have Ind := I.nd
  have Inc := I.nc
  have Ino := I.no
  have In := I.n0
  refine X_iconst C dX9_goodShare_0 ?_
  refine X_istore_1 C (by decide) rfl dX9_goodShare_1 ?_
  refine X_iconst C dX9_goodShare_2 ?_
  refine X_istore_2 C (by decide) rfl dX9_goodShare_3 ?_
  refine X_iconst C dX9_goodShare_4 ?_
  refine X_istore_3 C (by decide) rfl dX9_goodShare_5 ?_
  have L6 : ∀ (n9 : Nat) (a b o : Int), (0 ≤ o ∧ o ≤ σ 32 0 0) → (a = gsG σ o) → (b = gsT σ o) → σ 32 0 0 - o < (n9 : Int) → X κ D A 4 0 0 6 ([some (.ref (ad 20 0)), some (.int (iI a)), some (.int (iI b)), some (.int (iI o))]) ([]) ad (jG Y τ σ ρ ad) := by
    intro n9
    induction n9 with
    | zero => intro a b o  ho ha hb hm; exfalso; omega
    | succ n9 ih =>
      intro a b o  ho ha hb hm
      refine X_iload_n C rfl dX9_goodShare_6 ?_
      refine X_aload_n C rfl dX9_goodShare_7 ?_
      refine Xg_X9_orders C rfl fl_X9_165 dX9_goodShare_8 ?_
      refine X_icmp_ge C (tgt := 38) dX9_goodShare_11 (by decide) ⟨by omega, by omega⟩ ⟨by omega, by omega⟩ (fun c_11 => ?_) (fun c_11 => ?_)
      · obtain rfl : o = σ 32 0 0 := by omega
        have gb := gs_b I Ino.1 (Int.le_refl _)
        refine X_aload_n C rfl dX9_goodShare_38 ?_
        refine X_aload_n C rfl dX9_goodShare_39 ?_
        refine Xg_X9_orders C rfl fl_X9_165 dX9_goodShare_40 ?_
        refine X_if_ne C (tgt := 50) dX9_goodShare_43 (by decide) ⟨by omega, by omega⟩ (fun c_43 => ?_) (fun c_43 => ?_)
        · refine X_iconst C dX9_goodShare_50 ?_
          refine Xp_X9_thrown C fw_X9_78 dX9_goodShare_51 ?_
          refine X_aload_n C rfl dX9_goodShare_54 ?_
          refine Xg_X9_thrown C up_s fl_X9_78 dX9_goodShare_55 ?_
          refine X_if_ne C (tgt := 69) dX9_goodShare_58 (by decide) ⟨by omega, by omega⟩ (fun c_58 => ?_) (fun c_58 => ?_)
          · exfalso; omega
          refine X_iload_n C rfl dX9_goodShare_61 ?_
          refine X_i2f C dX9_goodShare_62 ?_
          refine X_iload_n C rfl dX9_goodShare_63 ?_
          refine X_i2f C dX9_goodShare_64 ?_
          refine X_fdiv C (by rw [ha, hb]; exact fsh_n (by omega) (by omega) (by omega) (by omega)) dX9_goodShare_65 ?_
          refine X_goto C (tgt := 70) dX9_goodShare_66 (by decide) ?_
          exact X_freturn C M (by decide) (by decide) dX9_goodShare_70 ⟨by rw [ha, hb, mQ_0 (k := kNon (σ 32 0 0)) (by first | omega | (unfold kNon; (repeat' split) <;> omega))], rfl, (by first | rfl | exact congrArg (fun v9 => jG Y τ (up σ 40 0 0 v9) ρ ad) (show (0 : Int) = kNon (σ 32 0 0) from (by first | omega | (unfold kNon; (repeat' split) <;> omega))) | exact jG_up (show (0 : Int) = kNon (σ 32 0 0) from (by first | omega | (unfold kNon; (repeat' split) <;> omega))) | exact congrArg (fun v9 => jG Y τ (up σ 40 0 0 v9) ρ ad) (show (1 : Int) = kNon (σ 32 0 0) from (by first | omega | (unfold kNon; (repeat' split) <;> omega))) | exact jG_up (show (1 : Int) = kNon (σ 32 0 0) from (by first | omega | (unfold kNon; (repeat' split) <;> omega))) | exact congrArg (fun v9 => jG Y τ (up σ 40 0 0 v9) ρ ad) (show (2 : Int) = kNon (σ 32 0 0) from (by first | omega | (unfold kNon; (repeat' split) <;> omega))) | exact jG_up (show (2 : Int) = kNon (σ 32 0 0) from (by first | omega | (unfold kNon; (repeat' split) <;> omega))) | exact congrArg (fun v9 => jG Y τ (up σ 40 0 0 v9) ρ ad) (show (3 : Int) = kNon (σ 32 0 0) from (by first | omega | (unfold kNon; (repeat' split) <;> omega))) | exact jG_up (show (3 : Int) = kNon (σ 32 0 0) from (by first | omega | (unfold kNon; (repeat' split) <;> omega))) | exact congrArg (fun v9 => jG Y τ (up σ 40 0 0 v9) ρ ad) (show (4 : Int) = kNon (σ 32 0 0) from (by first | omega | (unfold kNon; (repeat' split) <;> omega))) | exact jG_up (show (4 : Int) = kNon (σ 32 0 0) from (by first | omega | (unfold kNon; (repeat' split) <;> omega))) | exact congrArg (fun v9 => jG Y τ (up σ 40 0 0 v9) ρ ad) (show (5 : Int) = kNon (σ 32 0 0) from (by first | omega | (unfold kNon; (repeat' split) <;> omega))) | exact jG_up (show (5 : Int) = kNon (σ 32 0 0) from (by first | omega | (unfold kNon; (repeat' split) <;> omega))))⟩
        · refine X_iconst C dX9_goodShare_46 ?_
          refine X_goto C (tgt := 51) dX9_goodShare_47 (by decide) ?_
          refine Xp_X9_thrown C fw_X9_78 dX9_goodShare_51 ?_
          refine X_aload_n C rfl dX9_goodShare_54 ?_
          refine Xg_X9_thrown C up_s fl_X9_78 dX9_goodShare_55 ?_
          refine X_if_ne C (tgt := 69) dX9_goodShare_58 (by decide) ⟨by omega, by omega⟩ (fun c_58 => ?_) (fun c_58 => ?_)
          rotate_left
          · exfalso; omega
          refine X_fconst0 C dX9_goodShare_69 ?_
          exact X_freturn C M (by decide) (by decide) dX9_goodShare_70 ⟨by rw [mQ_n (k := kNon (σ 32 0 0)) (by first | omega | (unfold kNon; (repeat' split) <;> omega))], rfl, (by first | rfl | exact congrArg (fun v9 => jG Y τ (up σ 40 0 0 v9) ρ ad) (show (0 : Int) = kNon (σ 32 0 0) from (by first | omega | (unfold kNon; (repeat' split) <;> omega))) | exact jG_up (show (0 : Int) = kNon (σ 32 0 0) from (by first | omega | (unfold kNon; (repeat' split) <;> omega))) | exact congrArg (fun v9 => jG Y τ (up σ 40 0 0 v9) ρ ad) (show (1 : Int) = kNon (σ 32 0 0) from (by first | omega | (unfold kNon; (repeat' split) <;> omega))) | exact jG_up (show (1 : Int) = kNon (σ 32 0 0) from (by first | omega | (unfold kNon; (repeat' split) <;> omega))) | exact congrArg (fun v9 => jG Y τ (up σ 40 0 0 v9) ρ ad) (show (2 : Int) = kNon (σ 32 0 0) from (by first | omega | (unfold kNon; (repeat' split) <;> omega))) | exact jG_up (show (2 : Int) = kNon (σ 32 0 0) from (by first | omega | (unfold kNon; (repeat' split) <;> omega))) | exact congrArg (fun v9 => jG Y τ (up σ 40 0 0 v9) ρ ad) (show (3 : Int) = kNon (σ 32 0 0) from (by first | omega | (unfold kNon; (repeat' split) <;> omega))) | exact jG_up (show (3 : Int) = kNon (σ 32 0 0) from (by first | omega | (unfold kNon; (repeat' split) <;> omega))) | exact congrArg (fun v9 => jG Y τ (up σ 40 0 0 v9) ρ ad) (show (4 : Int) = kNon (σ 32 0 0) from (by first | omega | (unfold kNon; (repeat' split) <;> omega))) | exact jG_up (show (4 : Int) = kNon (σ 32 0 0) from (by first | omega | (unfold kNon; (repeat' split) <;> omega))) | exact congrArg (fun v9 => jG Y τ (up σ 40 0 0 v9) ρ ad) (show (5 : Int) = kNon (σ 32 0 0) from (by first | omega | (unfold kNon; (repeat' split) <;> omega))) | exact jG_up (show (5 : Int) = kNon (σ 32 0 0) from (by first | omega | (unfold kNon; (repeat' split) <;> omega))))⟩
      · refine X_iload_n C rfl dX9_goodShare_14 ?_
        refine X_aload_n C rfl dX9_goodShare_15 ?_
        refine X_iload_n C rfl dX9_goodShare_16 ?_
        refine X_bipush C ⟨by decide, by decide⟩ dX9_goodShare_17 ?_
        refine X_callVE_2 C (c_X9_count C.hlc (by assumption) (by omega) (by omega)) cv_X9_182 jG_20 ⟨_, _, rfl⟩ rfl rfl dX9_goodShare_19 ?_
        refine X_iadd C dX9_goodShare_22 ?_
        refine X_istore_1 C (by decide) rfl dX9_goodShare_23 ?_
        refine X_iload_n C rfl dX9_goodShare_24 ?_
        refine X_aload_n C rfl dX9_goodShare_25 ?_
        refine X_iload_n C rfl dX9_goodShare_26 ?_
        refine X_callVE_1 C (c_X9_sheetsIn C.hlc (by assumption) (by omega)) cv_X9_175 jG_20 ⟨_, _, rfl⟩ rfl rfl dX9_goodShare_27 ?_
        refine X_iadd C dX9_goodShare_30 ?_
        refine X_istore_2 C (by decide) rfl dX9_goodShare_31 ?_
        refine X_iinc_3 C (by decide) rfl dX9_goodShare_32 ?_
        refine X_goto C (tgt := 6) dX9_goodShare_35 (by decide) ?_
        exact ih _ _ (o + 1) (by omega) (by unfold gsG gdA at ha ⊢; rw [sumZ_s ho.1, ← ha]) (by unfold gsT at hb ⊢; rw [sumZ_s ho.1, ← hb]) (by omega)
  exact L6 7 0 0 0 (by omega) rfl rfl (by omega)
set_option maxRecDepth 100000 in
set_option maxHeartbeats 4000000 in
theorem c_X9_meanLength {lc : Launch} (hlc : lc.stackTraces = false) {D : va_G} {Y : Nat → ClassId} {A : Nat → Prop} {τ σ : xS} {ρ : xG} {ad : xL} {n : Int} (I : xI n σ) : Ct lc yX9_meanLength cX9_meanLength 3 (some .double) (rmL 0 0 0) D Y A ad (jG Y τ σ ρ ad) [.ref (ad 20 0)] (pE (some (.double (mQ (kNon (σ 30 0 0)) (FP.ddiv (FP.i2d (iI (mlT σ (σ 30 0 0)))) (FP.i2d (iI (σ 30 0 0)))) FP.dconst0))) ad (jG Y τ (up σ 40 0 0 (kNon (σ 30 0 0))) ρ ad)) (pF) := by
  refine Ct_of hlc (by decide +kernel) rfl rfl (own := RX9) (nm := "meanLength") (l0 := [some (.ref (ad 20 0)), none, none]) rfl (Nat.le_of_ble_eq_true rfl) (fun κ C M => ?_)
  have Ind := I.nd
  have Inc := I.nc
  have Ino := I.no
  have In := I.n0
  refine X_iconst C dX9_meanLength_0 ?_
  refine X_istore_1 C (by decide) rfl dX9_meanLength_1 ?_
  refine X_iconst C dX9_meanLength_2 ?_
  refine X_istore_2 C (by decide) rfl dX9_meanLength_3 ?_
  have L4 : ∀ (n9 : Nat) (a d : Int), (0 ≤ d ∧ d ≤ σ 30 0 0) → (a = mlT σ d) → σ 30 0 0 - d < (n9 : Int) → X κ D A 3 0 0 4 ([some (.ref (ad 20 0)), some (.int (iI a)), some (.int (iI d))]) ([]) ad (jG Y τ σ ρ ad) := by
    intro n9
    induction n9 with
    | zero => intro a d  ho ha hm; exfalso; omega
    | succ n9 ih =>
      intro a d  ho ha hm
      refine X_iload_n C rfl dX9_meanLength_4 ?_
      refine X_aload_n C rfl dX9_meanLength_5 ?_
      refine Xg_X9_documents C rfl fl_X9_81 dX9_meanLength_6 ?_
      refine X_icmp_ge C (tgt := 27) dX9_meanLength_9 (by decide) ⟨by omega, by omega⟩ ⟨by omega, by omega⟩ (fun c_9 => ?_) (fun c_9 => ?_)
      · obtain rfl : d = σ 30 0 0 := by omega
        have gb := ml_b I Ind.1
        refine X_aload_n C rfl dX9_meanLength_27 ?_
        refine X_aload_n C rfl dX9_meanLength_28 ?_
        refine Xg_X9_documents C rfl fl_X9_81 dX9_meanLength_29 ?_
        refine X_if_ne C (tgt := 39) dX9_meanLength_32 (by decide) ⟨by omega, by omega⟩ (fun c_32 => ?_) (fun c_32 => ?_)
        · refine X_iconst C dX9_meanLength_39 ?_
          refine Xp_X9_thrown C fw_X9_78 dX9_meanLength_40 ?_
          refine X_aload_n C rfl dX9_meanLength_43 ?_
          refine Xg_X9_thrown C up_s fl_X9_78 dX9_meanLength_44 ?_
          refine X_if_ne C (tgt := 61) dX9_meanLength_47 (by decide) ⟨by omega, by omega⟩ (fun c_47 => ?_) (fun c_47 => ?_)
          · exfalso; omega
          refine X_iload_n C rfl dX9_meanLength_50 ?_
          refine X_i2d C dX9_meanLength_51 ?_
          refine X_aload_n C rfl dX9_meanLength_52 ?_
          refine Xg_X9_documents C (up_q (by decide)) fl_X9_81 dX9_meanLength_53 ?_
          refine X_i2d C dX9_meanLength_56 ?_
          refine X_ddiv C (by rw [ha]; exact dml_n (by omega) (by omega) (by omega) (by omega)) dX9_meanLength_57 ?_
          refine X_goto C (tgt := 62) dX9_meanLength_58 (by decide) ?_
          exact X_dreturn C M (by decide) (by decide) dX9_meanLength_62 ⟨by rw [ha, mQ_0 (k := kNon (σ 30 0 0)) (by first | omega | (unfold kNon; (repeat' split) <;> omega))], rfl, (by first | rfl | exact congrArg (fun v9 => jG Y τ (up σ 40 0 0 v9) ρ ad) (show (0 : Int) = kNon (σ 30 0 0) from (by first | omega | (unfold kNon; (repeat' split) <;> omega))) | exact jG_up (show (0 : Int) = kNon (σ 30 0 0) from (by first | omega | (unfold kNon; (repeat' split) <;> omega))) | exact congrArg (fun v9 => jG Y τ (up σ 40 0 0 v9) ρ ad) (show (1 : Int) = kNon (σ 30 0 0) from (by first | omega | (unfold kNon; (repeat' split) <;> omega))) | exact jG_up (show (1 : Int) = kNon (σ 30 0 0) from (by first | omega | (unfold kNon; (repeat' split) <;> omega))) | exact congrArg (fun v9 => jG Y τ (up σ 40 0 0 v9) ρ ad) (show (2 : Int) = kNon (σ 30 0 0) from (by first | omega | (unfold kNon; (repeat' split) <;> omega))) | exact jG_up (show (2 : Int) = kNon (σ 30 0 0) from (by first | omega | (unfold kNon; (repeat' split) <;> omega))) | exact congrArg (fun v9 => jG Y τ (up σ 40 0 0 v9) ρ ad) (show (3 : Int) = kNon (σ 30 0 0) from (by first | omega | (unfold kNon; (repeat' split) <;> omega))) | exact jG_up (show (3 : Int) = kNon (σ 30 0 0) from (by first | omega | (unfold kNon; (repeat' split) <;> omega))) | exact congrArg (fun v9 => jG Y τ (up σ 40 0 0 v9) ρ ad) (show (4 : Int) = kNon (σ 30 0 0) from (by first | omega | (unfold kNon; (repeat' split) <;> omega))) | exact jG_up (show (4 : Int) = kNon (σ 30 0 0) from (by first | omega | (unfold kNon; (repeat' split) <;> omega))) | exact congrArg (fun v9 => jG Y τ (up σ 40 0 0 v9) ρ ad) (show (5 : Int) = kNon (σ 30 0 0) from (by first | omega | (unfold kNon; (repeat' split) <;> omega))) | exact jG_up (show (5 : Int) = kNon (σ 30 0 0) from (by first | omega | (unfold kNon; (repeat' split) <;> omega))))⟩
        · refine X_iconst C dX9_meanLength_35 ?_
          refine X_goto C (tgt := 40) dX9_meanLength_36 (by decide) ?_
          refine Xp_X9_thrown C fw_X9_78 dX9_meanLength_40 ?_
          refine X_aload_n C rfl dX9_meanLength_43 ?_
          refine Xg_X9_thrown C up_s fl_X9_78 dX9_meanLength_44 ?_
          refine X_if_ne C (tgt := 61) dX9_meanLength_47 (by decide) ⟨by omega, by omega⟩ (fun c_47 => ?_) (fun c_47 => ?_)
          rotate_left
          · exfalso; omega
          refine X_dconst0 C dX9_meanLength_61 ?_
          exact X_dreturn C M (by decide) (by decide) dX9_meanLength_62 ⟨by rw [mQ_n (k := kNon (σ 30 0 0)) (by first | omega | (unfold kNon; (repeat' split) <;> omega))], rfl, (by first | rfl | exact congrArg (fun v9 => jG Y τ (up σ 40 0 0 v9) ρ ad) (show (0 : Int) = kNon (σ 30 0 0) from (by first | omega | (unfold kNon; (repeat' split) <;> omega))) | exact jG_up (show (0 : Int) = kNon (σ 30 0 0) from (by first | omega | (unfold kNon; (repeat' split) <;> omega))) | exact congrArg (fun v9 => jG Y τ (up σ 40 0 0 v9) ρ ad) (show (1 : Int) = kNon (σ 30 0 0) from (by first | omega | (unfold kNon; (repeat' split) <;> omega))) | exact jG_up (show (1 : Int) = kNon (σ 30 0 0) from (by first | omega | (unfold kNon; (repeat' split) <;> omega))) | exact congrArg (fun v9 => jG Y τ (up σ 40 0 0 v9) ρ ad) (show (2 : Int) = kNon (σ 30 0 0) from (by first | omega | (unfold kNon; (repeat' split) <;> omega))) | exact jG_up (show (2 : Int) = kNon (σ 30 0 0) from (by first | omega | (unfold kNon; (repeat' split) <;> omega))) | exact congrArg (fun v9 => jG Y τ (up σ 40 0 0 v9) ρ ad) (show (3 : Int) = kNon (σ 30 0 0) from (by first | omega | (unfold kNon; (repeat' split) <;> omega))) | exact jG_up (show (3 : Int) = kNon (σ 30 0 0) from (by first | omega | (unfold kNon; (repeat' split) <;> omega))) | exact congrArg (fun v9 => jG Y τ (up σ 40 0 0 v9) ρ ad) (show (4 : Int) = kNon (σ 30 0 0) from (by first | omega | (unfold kNon; (repeat' split) <;> omega))) | exact jG_up (show (4 : Int) = kNon (σ 30 0 0) from (by first | omega | (unfold kNon; (repeat' split) <;> omega))) | exact congrArg (fun v9 => jG Y τ (up σ 40 0 0 v9) ρ ad) (show (5 : Int) = kNon (σ 30 0 0) from (by first | omega | (unfold kNon; (repeat' split) <;> omega))) | exact jG_up (show (5 : Int) = kNon (σ 30 0 0) from (by first | omega | (unfold kNon; (repeat' split) <;> omega))))⟩
      · refine X_iload_n C rfl dX9_meanLength_12 ?_
        refine X_aload_n C rfl dX9_meanLength_13 ?_
        refine Xg_X9_lengths C fl_X9_13 dX9_meanLength_14 ?_
        refine X_iload_n C rfl dX9_meanLength_17 ?_
        refine Xm_lengths_ld C (by omega) (by omega) rfl dX9_meanLength_18 ?_
        refine X_iadd C dX9_meanLength_19 ?_
        refine X_istore_1 C (by decide) rfl dX9_meanLength_20 ?_
        refine X_iinc_2 C (by decide) rfl dX9_meanLength_21 ?_
        refine X_goto C (tgt := 4) dX9_meanLength_24 (by decide) ?_
        exact ih _ (d + 1) (by omega) (by unfold mlT at ha ⊢; rw [sumZ_s ho.1, ← ha]) (by omega)
  exact L4 7 0 0 (by omega) rfl (by omega)
