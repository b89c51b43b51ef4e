set_option maxRecDepth 100000 in
set_option maxHeartbeats 4000000 in
theorem c_X9_hours {lc : Launch} (hlc : lc.stackTraces = false) {D : va_G} {Y : Nat → ClassId} {A : Nat → Prop} {τ σ : xS} {ρ : xG} {ad : xL}  (hpo : σ 35 0 0 = -1 ∨ 0 ≤ σ 35 0 0 ∧ σ 35 0 0 < 6) (hps : 0 ≤ σ 36 0 0 ∧ σ 36 0 0 < 3) (hhr : 0 ≤ σ 39 0 0 ∧ σ 39 0 0 ≤ 2000) (hpu : 0 ≤ σ 37 0 0 ∧ σ 37 0 0 ≤ 2000) : Ct lc yX9_hours cX9_hours 3 (some .int) (rmL 0 0 0) D Y A ad (jG Y τ σ ρ ad) [.ref (ad 20 0)] (pE (some (.int (iI (hrA σ)))) ad (jG Y τ (hrS σ) ρ ad)) (pF) := by
  refine Ct_of hlc (by decide +kernel) rfl rfl (own := RX9) (nm := "hours") (l0 := [some (.ref (ad 20 0)), none, none]) rfl (Nat.le_of_ble_eq_true rfl) (fun κ C M => ?_)
  refine X_aload_n C rfl dX9_hours_0 ?_
  refine X_dup C rfl dX9_hours_1 ?_
  refine Xg_X9_hour C rfl fl_X9_88 dX9_hours_2 ?_
  refine X_iconst C dX9_hours_5 ?_
  refine X_iadd C dX9_hours_6 ?_
  refine Xp_X9_hour C fw_X9_88 dX9_hours_7 ?_
  refine X_aload_n C rfl dX9_hours_10 ?_
  refine Xg_X9_pressOrder C (v := σ 35 0 0) (by simp (discharger := decide) only [up_r, upR_r, up_s, pasH_r]) fl_X9_71 dX9_hours_11 ?_
  refine X_iconst C dX9_hours_14 ?_
  refine X_icmp_eq C (tgt := 29) dX9_hours_15 (by decide) ⟨by omega, by omega⟩ ⟨by omega, by omega⟩ (fun c_15 => ?_) (fun c_15 => ?_)
  · refine X_iconst C dX9_hours_29 ?_
    exact X_ireturn C M rfl (by decide) (by decide) dX9_hours_30 ⟨rI (by unfold hrA; rw [if_neg (show ¬ pasP σ 1 from fun w => by have w1 := w.1; have w2 := w.2; omega)]), rfl, by unfold hrS; rw [if_neg (show ¬ pasP σ 1 from fun w => by have w1 := w.1; have w2 := w.2; omega)]; rfl⟩
  · refine X_aload_n C rfl dX9_hours_18 ?_
    refine Xg_X9_hour C (v := σ 39 0 0 + 1) (by simp (discharger := decide) only [up_r, upR_r, up_s, pasH_r]) fl_X9_88 dX9_hours_19 ?_
    refine X_aload_n C rfl dX9_hours_22 ?_
    refine Xg_X9_pressUntil C (v := σ 37 0 0) (by simp (discharger := decide) only [up_r, upR_r, up_s, pasH_r]) fl_X9_206 dX9_hours_23 ?_
    refine X_icmp_ge C (tgt := 31) dX9_hours_26 (by decide) ⟨by omega, by omega⟩ ⟨by omega, by omega⟩ (fun c_26 => ?_) (fun c_26 => ?_)
    · refine X_iconst C dX9_hours_31 ?_
      refine X_aload_n C rfl dX9_hours_32 ?_
      refine Xg_X9_pressOrder C (v := σ 35 0 0) (by simp (discharger := decide) only [up_r, upR_r, up_s, pasH_r]) fl_X9_71 dX9_hours_33 ?_
      refine X_imul C dX9_hours_36 ?_
      refine X_aload_n C rfl dX9_hours_37 ?_
      refine Xg_X9_pressSheet C (v := σ 36 0 0) (by simp (discharger := decide) only [up_r, upR_r, up_s, pasH_r]) fl_X9_172 dX9_hours_38 ?_
      refine X_iadd C dX9_hours_41 ?_
      refine X_istore_1 C (by decide) rfl dX9_hours_42 ?_
      refine X_iconst C dX9_hours_43 ?_
      refine X_istore_2 C (by decide) rfl dX9_hours_44 ?_
      have L45 : ∀ (n9 : Nat) (k : Int), (0 ≤ k ∧ k ≤ 32) → 32 - k < (n9 : Int) → X κ D A 3 0 0 45 ([some (.ref (ad 20 0)), some (.int (iI (3 * σ 35 0 0 + σ 36 0 0))), some (.int (iI k))]) ([]) ad (jG Y τ (upR (up σ 39 0 0 (σ 39 0 0 + 1)) 16 (3 * σ 35 0 0 + σ 36 0 0) (rwU (σ 16 (3 * σ 35 0 0 + σ 36 0 0)) (σ 18 0) k)) ρ ad) := by
        intro n9
        induction n9 with
        | zero => intro k  hk hm; exfalso; omega
        | succ n9 ih =>
          intro k  hk hm
          refine X_iload_n C rfl dX9_hours_45 ?_
          refine X_bipush C ⟨by decide, by decide⟩ dX9_hours_46 ?_
          refine X_icmp_ge C (tgt := 74) dX9_hours_48 (by decide) ⟨by omega, by omega⟩ ⟨by omega, by omega⟩ (fun c_48 => ?_) (fun c_48 => ?_)
          · obtain rfl : k = 32 := by omega
            refine X_aload_n C rfl dX9_hours_74 ?_
            refine Xg_X9_printings C fl_X9_59 dX9_hours_75 ?_
            refine X_iload_n C rfl dX9_hours_78 ?_
            refine X_dup2 C rfl rfl dX9_hours_79 ?_
            refine Xm_printings_ld C (by omega) (by omega) (v := σ 14 (3 * σ 35 0 0 + σ 36 0 0) 0) (by simp (discharger := decide) only [up_r, upR_r, up_s, pasH_r]) dX9_hours_80 ?_
            refine X_iconst C dX9_hours_81 ?_
            refine X_iadd C dX9_hours_82 ?_
            refine Xm_printings_st C (by omega) (by omega) dX9_hours_83 ?_
            refine X_aload_n C rfl dX9_hours_84 ?_
            refine X_iconst C dX9_hours_85 ?_
            refine Xp_X9_pressOrder C fw_X9_71 dX9_hours_86 ?_
            refine X_iconst C dX9_hours_89 ?_
            exact X_ireturn C M rfl (by decide) (by decide) dX9_hours_90 ⟨rI (by unfold hrA; rw [if_pos (show pasP σ 1 from ⟨by omega, by omega⟩)]), rfl, by unfold hrS; rw [if_pos (show pasP σ 1 from ⟨by omega, by omega⟩)]; rfl⟩
          · refine X_aload_n C rfl dX9_hours_51 ?_
            refine Xg_X9_printed C fl_X9_65 dX9_hours_52 ?_
            refine X_bipush C ⟨by decide, by decide⟩ dX9_hours_55 ?_
            refine X_iload_n C rfl dX9_hours_57 ?_
            refine X_imul C dX9_hours_58 ?_
            refine X_iload_n C rfl dX9_hours_59 ?_
            refine X_iadd C dX9_hours_60 ?_
            refine X_aload_n C rfl dX9_hours_61 ?_
            refine Xg_X9_onPress C fl_X9_75 dX9_hours_62 ?_
            refine X_iload_n C rfl dX9_hours_65 ?_
            refine Xm_onPress_ld C (by omega) (by omega) (v := σ 18 0 k) (by rw [upR_r (by decide), up_r (by decide)]) dX9_hours_66 ?_
            refine Xm_printed_st C (3 * σ 35 0 0 + σ 36 0 0) k (by omega) (by omega) ⟨by omega, by omega⟩ (by omega) dX9_hours_67 ?_
            refine X_iinc_2 C (by decide) rfl dX9_hours_68 ?_
            refine X_goto C (tgt := 45) dX9_hours_71 (by decide) ?_
            rw [rwU_s (f := σ 16 (3 * σ 35 0 0 + σ 36 0 0)) (g := σ 18 0) hk.1]
            exact ih (k + 1) (by omega) (by omega)
      have h9 := L45 33 0 (by omega) (by omega)
      rw [rwU_0, show upR (up σ 39 0 0 (σ 39 0 0 + 1)) 16 (3 * σ 35 0 0 + σ 36 0 0) (σ 16 (3 * σ 35 0 0 + σ 36 0 0)) = (up σ 39 0 0 (σ 39 0 0 + 1)) from by rw [show σ 16 (3 * σ 35 0 0 + σ 36 0 0) = (up σ 39 0 0 (σ 39 0 0 + 1)) 16 (3 * σ 35 0 0 + σ 36 0 0) from by rw [up_r (by decide)]]; exact upR_self] at h9
      exact h9
    · refine X_iconst C dX9_hours_29 ?_
      exact X_ireturn C M rfl (by decide) (by decide) dX9_hours_30 ⟨rI (by unfold hrA; rw [if_neg (show ¬ pasP σ 1 from fun w => by have w1 := w.1; have w2 := w.2; omega)]), rfl, by unfold hrS; rw [if_neg (show ¬ pasP σ 1 from fun w => by have w1 := w.1; have w2 := w.2; omega)]; rfl⟩
set_option maxRecDepth 100000 in
set_option maxHeartbeats 4000000 in
theorem c_X9_pass {lc : Launch} (hlc : lc.stackTraces = false) {D : va_G} {Y : Nat → ClassId} {A : Nat → Prop} {τ σ : xS} {ρ : xG} {ad : xL} {n u : Int} (I : xI n σ) (hz0 : rg u) : Ct lc yX9_pass cX9_pass 4 (some .int) (rmL 1 0 0) D Y A ad (jG Y τ σ ρ ad) [.ref (ad 20 0), .int (iI u)] (pE (some (.int (iI (mA (kPas σ u) (pasA σ u) (-1))))) ad (jG Y τ (mS (kPas σ u) (fun σ => pkS σ u) σ) ρ ad)) (pF) := by
  refine Ct_of hlc (by decide +kernel) rfl rfl (own := RX9) (nm := "pass") (l0 := [some (.ref (ad 20 0)), some (.int (iI u)), none, none]) rfl (Nat.le_of_ble_eq_true rfl) (fun κ C M => ?_)
  have Ind := I.nd
  have Inc := I.nc
  have Ino := I.no
  have In := I.n0
  have k1 := I.hr
  have k2 := I.pu
  have k3 := I.po
  have k4 := I.ps
  have k5 := I.ph
  refine X_aload_n C rfl dX9_pass_0 ?_
  refine X_iload_n C rfl dX9_pass_1 ?_
  refine X_i2l C ⟨by omega, by omega⟩ dX9_pass_2 ?_
  refine X_lconst C (v := 1) rfl dX9_pass_3 ?_
  refine X_ldc2 C (n := 100) (v := 100) (by decide +kernel) k_X9_209 dX9_pass_4 ?_
  refine X_callSE_3 C (c_X9_in C.hlc (by omega) (by omega) (by omega)) cs_X9_84 rfl rfl dX9_pass_7 ?_
  refine X_if_neB C (tgt := 17) dX9_pass_10 (by decide) (fun c_10 => ?_) (fun c_10 => ?_)
  · refine X_aload_n C rfl dX9_pass_17 ?_
    refine Xg_X9_hour C rfl fl_X9_88 dX9_pass_18 ?_
    refine X_iload_n C rfl dX9_pass_21 ?_
    refine X_iadd C dX9_pass_22 ?_
    refine X_sipush C ⟨by decide, by decide⟩ dX9_pass_23 ?_
    refine X_icmp_le C (tgt := 33) dX9_pass_26 (by decide) ⟨by omega, by omega⟩ ⟨by omega, by omega⟩ (fun c_26 => ?_) (fun c_26 => ?_)
    · refine X_iconst C dX9_pass_33 ?_
      refine Xp_X9_thrown C fw_X9_78 dX9_pass_34 ?_
      refine X_aload_n C rfl dX9_pass_37 ?_
      refine Xg_X9_thrown C up_s fl_X9_78 dX9_pass_38 ?_
      refine X_if_le C (tgt := 46) dX9_pass_41 (by decide) ⟨by omega, by omega⟩ (fun c_41 => ?_) (fun c_41 => ?_)
      rotate_left
      · exfalso; omega
      refine X_iconst C dX9_pass_46 ?_
      refine X_istore_2 C (by decide) rfl dX9_pass_47 ?_
      refine X_iconst C dX9_pass_48 ?_
      refine X_istore_3 C (by decide) rfl dX9_pass_49 ?_
      have L50 : ∀ (n9 : Nat) (a k : Int), (0 ≤ k ∧ k ≤ u) → (a = pasA (up σ 40 0 0 0) k) → u - k < (n9 : Int) → X κ D A 4 0 0 50 ([some (.ref (ad 20 0)), some (.int (iI u)), some (.int (iI a)), some (.int (iI k))]) ([]) ad (jG Y τ (pkS (up σ 40 0 0 0) k) ρ ad) := by
        intro n9
        induction n9 with
        | zero => intro a k  hk ha hm; exfalso; omega
        | succ n9 ih =>
          intro a k  hk ha hm
          refine X_iload_n C rfl dX9_pass_50 ?_
          refine X_iload_n C rfl dX9_pass_51 ?_
          refine X_icmp_ge C (tgt := 68) dX9_pass_52 (by decide) ⟨by omega, by omega⟩ ⟨by omega, by omega⟩ (fun c_52 => ?_) (fun c_52 => ?_)
          · obtain rfl : u = k := by omega
            refine X_iload_n C rfl dX9_pass_68 ?_
            exact X_ireturn C M rfl (by decide) (by decide) dX9_pass_69 ⟨rI (Eq.trans (show _ = pasA σ u from by rw [ha]; rfl) (mA_0 (k := kPas σ u) (by first | omega | (unfold kPas; (repeat' split) <;> omega))).symm), rfl, by rw [mS_0 (k := kPas σ u) (by first | omega | (unfold kPas; (repeat' split) <;> omega))]; all_goals rfl⟩
          · have q35 : (pkS (up σ 40 0 0 0) k) 35 0 0 = -1 ∨ (pkS (up σ 40 0 0 0) k) 35 0 0 = σ 35 0 0 := by unfold pkS; split; exact Or.inl lvS_35; exact Or.inr (by rw [pasH_r (by decide), up_r (by decide)])
            have q36 : (pkS (up σ 40 0 0 0) k) 36 0 0 = σ 36 0 0 := by
              unfold pkS
              split
              · rw [lvS_r (by decide) (by decide) (by decide), pasH_r (by decide), up_r (by decide)]
              · rw [pasH_r (by decide), up_r (by decide)]
            have q37 : (pkS (up σ 40 0 0 0) k) 37 0 0 = σ 37 0 0 := by
              unfold pkS
              split
              · rw [lvS_r (by decide) (by decide) (by decide), pasH_r (by decide), up_r (by decide)]
              · rw [pasH_r (by decide), up_r (by decide)]
            have q39 : (pkS (up σ 40 0 0 0) k) 39 0 0 = σ 39 0 0 + k := by
              unfold pkS
              split
              · rw [lvS_r (by decide) (by decide) (by decide)]; unfold pasH; rw [up_s, up_r (by decide)]
              · unfold pasH; rw [up_s, up_r (by decide)]
            refine X_iload_n C rfl dX9_pass_55 ?_
            refine X_aload_n C rfl dX9_pass_56 ?_
            refine X_callVE_0 C (c_X9_hours C.hlc (by omega) (by omega) (by omega) (by omega)) cv_X9_211 jG_20 ⟨_, _, rfl⟩ rfl rfl dX9_pass_57 ?_
            refine X_iadd C dX9_pass_60 ?_
            refine X_istore_2 C (by decide) rfl dX9_pass_61 ?_
            refine X_iinc_3 C (by decide) rfl dX9_pass_62 ?_
            refine X_goto C (tgt := 50) dX9_pass_65 (by decide) ?_
            rw [(pkS_s (σ := (up σ 40 0 0 0)) (k := k)).1]
            exact ih _ (k + 1) (by omega) (by rw [← (pkS_s (σ := (up σ 40 0 0 0)) (k := k)).2, ← ha]) (by omega)
      have np : ¬ pasP (up σ 40 0 0 0) 0 := fun w => by have w1 : σ 35 0 0 ≠ -1 := w.1; have w2 : σ 37 0 0 ≤ σ 39 0 0 + 0 := w.2; omega
      have h9 := L50 2000 0 0 (by omega) (by unfold pasA; rw [if_neg np]) (by omega)
      rw [pkS_0 np] at h9
      exact h9
    · refine X_iconst C dX9_pass_29 ?_
      refine X_goto C (tgt := 34) dX9_pass_30 (by decide) ?_
      refine Xp_X9_thrown C fw_X9_78 dX9_pass_34 ?_
      refine X_aload_n C rfl dX9_pass_37 ?_
      refine Xg_X9_thrown C up_s fl_X9_78 dX9_pass_38 ?_
      refine X_if_le C (tgt := 46) dX9_pass_41 (by decide) ⟨by omega, by omega⟩ (fun c_41 => ?_) (fun c_41 => ?_)
      · exfalso; omega
      refine X_iconst C dX9_pass_44 ?_
      exact X_ireturn C M rfl (by decide) (by decide) dX9_pass_45 ⟨rI (mA_n (k := kPas σ u) (by first | omega | (unfold kPas; (repeat' split) <;> omega))).symm, rfl, by rw [mS_n (k := kPas σ u) (v := 2) (by first | omega | (unfold kPas; (repeat' split) <;> omega)) (by decide)]⟩
  · refine X_iconst C dX9_pass_13 ?_
    refine X_goto C (tgt := 34) dX9_pass_14 (by decide) ?_
    refine Xp_X9_thrown C fw_X9_78 dX9_pass_34 ?_
    refine X_aload_n C rfl dX9_pass_37 ?_
    refine Xg_X9_thrown C up_s fl_X9_78 dX9_pass_38 ?_
    refine X_if_le C (tgt := 46) dX9_pass_41 (by decide) ⟨by omega, by omega⟩ (fun c_41 => ?_) (fun c_41 => ?_)
    · exfalso; omega
    refine X_iconst C dX9_pass_44 ?_
    exact X_ireturn C M rfl (by decide) (by decide) dX9_pass_45 ⟨rI (mA_n (k := kPas σ u) (by first | omega | (unfold kPas; (repeat' split) <;> omega))).symm, rfl, by rw [mS_n (k := kPas σ u) (v := 1) (by first | omega | (unfold kPas; (repeat' split) <;> omega)) (by decide)]⟩
