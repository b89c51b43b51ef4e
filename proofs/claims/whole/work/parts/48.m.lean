set_option maxRecDepth 100000 in
set_option maxHeartbeats 4000000 in
theorem c_X9_sheetsOf2 {lc : Launch} (hlc : lc.stackTraces = false) {D : va_G} {Y : Nat → ClassId} {A : Nat → Prop} {τ σ : xS} {ρ : xG} {ad : xL} {n d : Int} (hd : 0 ≤ d ∧ d < 3) (k1 : 0 ≤ σ 1 (2 * d + 1) 0 ∧ σ 1 (2 * d + 1) 0 ≤ 80) : Ct lc yX9_sheetsOf cX9_sheetsOf 3 (some .int) (rmL 0 0 0) D Y A ad (jG Y τ σ ρ ad) [.ref (ad 20 0), .int (iI d)] (pE (some (.int (iI (shT σ d)))) ad (jG Y τ σ ρ ad)) (pF) := by
  refine Ct_of hlc (by decide +kernel) rfl rfl (own := RX9) (nm := "sheetsOf") (l0 := [some (.ref (ad 20 0)), some (.int (iI d)), none]) rfl (Nat.le_of_ble_eq_true rfl) (fun κ C M => ?_)
  refine X_aload_n C rfl dX9_sheetsOf_0 ?_
  refine Xg_X9_proofLengths C fl_X9_25 dX9_sheetsOf_1 ?_
  refine X_iload_n C rfl dX9_sheetsOf_4 ?_
  refine Xm_proofLengths_ld C (by omega) (by omega) rfl dX9_sheetsOf_5 ?_
  refine X_bipush C ⟨by decide, by decide⟩ dX9_sheetsOf_6 ?_
  refine X_iadd C dX9_sheetsOf_8 ?_
  refine X_bipush C ⟨by decide, by decide⟩ dX9_sheetsOf_9 ?_
  refine X_idiv C ⟨by omega, by omega⟩ (by omega) ⟨by omega, by omega⟩ (by omega) dX9_sheetsOf_11 ?_
  refine X_istore_2 C (by decide) rfl dX9_sheetsOf_12 ?_
  refine X_iload_n C rfl dX9_sheetsOf_13 ?_
  refine X_iconst C dX9_sheetsOf_14 ?_
  refine X_iadd C dX9_sheetsOf_15 ?_
  refine X_iconst C dX9_sheetsOf_16 ?_
  refine X_idiv C ⟨by omega, by omega⟩ (by omega) ⟨by omega, by omega⟩ (by omega) dX9_sheetsOf_17 ?_
  exact X_ireturn C M rfl (by decide) (by decide) dX9_sheetsOf_18 ⟨rI (by unfold shT shC; omega), rfl, rfl⟩
set_option maxRecDepth 100000 in
set_option maxHeartbeats 4000000 in
theorem c_X9_sign {lc : Launch} (hlc : lc.stackTraces = false) {D : va_G} {Y : Nat → ClassId} {A : Nat → Prop} {τ σ : xS} {ρ : xG} {ad : xL} {n z : Int} (I : xI n σ) (hz0 : rg z) : Ct lc yX9_sign cX9_sign 4 (some .int) (rmL 2 0 0) D Y A ad (jG Y τ σ ρ ad) [.ref (ad 20 0), .int (iI z)] (pE (some (.int (iI (mA (kSig σ z) (shC (σ 1 (2 * z) 0)) (-1))))) ad (jG Y τ (mS (kSig σ z) (fun σ => up (up (upR σ 0 (2 * z + 1) (rwU (σ 0 (2 * z + 1)) (σ 0 (2 * z)) (σ 1 (2 * z) 0))) 1 (2 * z + 1) 0 (σ 1 (2 * z) 0)) 3 z 0 (σ 2 z 0)) σ) ρ ad)) (pF) := by
  refine Ct_of hlc (by decide +kernel) rfl rfl (own := RX9) (nm := "sign") (l0 := [some (.ref (ad 20 0)), some (.int (iI z)), none, none]) rfl (Nat.le_of_ble_eq_true rfl) (fun κ C M => ?_)
  have Ind := I.nd
  have Inc := I.nc
  have Ino := I.no
  have In := I.n0
  refine X_aload_n C rfl dX9_sign_0 ?_
  refine X_iload_n C rfl dX9_sign_1 ?_
  refine X_callVE_1 C (c_X9_isDocument C.hlc (by assumption) (by omega)) cv_X9_105 jG_20 ⟨_, _, rfl⟩ rfl rfl dX9_sign_2 ?_
  refine X_if_neB C (tgt := 15) dX9_sign_5 (by decide) (fun c_5 => ?_) (fun c_5 => ?_)
  · refine X_aload_n C rfl dX9_sign_15 ?_
    have k1 := I.sz (2 * z) 0
    have k2 := I.ver z 0
    have k3 := I.pv z 0
    have k4 := opA_b σ z Inc.1
    refine Xg_X9_lengths C fl_X9_13 dX9_sign_16 ?_
    refine X_iload_n C rfl dX9_sign_19 ?_
    refine Xm_lengths_ld C (by omega) (by omega) rfl dX9_sign_20 ?_
    refine X_if_eq C (tgt := 47) dX9_sign_21 (by decide) ⟨by omega, by omega⟩ (fun c_21 => ?_) (fun c_21 => ?_)
    · refine X_iconst C dX9_sign_47 ?_
      refine X_goto C (tgt := 52) dX9_sign_48 (by decide) ?_
      refine X_istore_2 C (by decide) rfl dX9_sign_52 ?_
      refine X_aload_n C rfl dX9_sign_53 ?_
      refine X_iload_n C rfl dX9_sign_54 ?_
      refine X_if_eq C (tgt := 62) dX9_sign_55 (by decide) ⟨by omega, by omega⟩ (fun c_55 => ?_) (fun c_55 => ?_)
      · exfalso; omega
      refine X_iconst C dX9_sign_58 ?_
      refine X_goto C (tgt := 63) dX9_sign_59 (by decide) ?_
      refine Xp_X9_thrown C fw_X9_78 dX9_sign_63 ?_
      refine X_aload_n C rfl dX9_sign_66 ?_
      refine Xg_X9_thrown C up_s fl_X9_78 dX9_sign_67 ?_
      refine X_if_le C (tgt := 75) dX9_sign_70 (by decide) ⟨by omega, by omega⟩ (fun c_70 => ?_) (fun c_70 => ?_)
      · exfalso; omega
      refine X_iconst C dX9_sign_73 ?_
      exact X_ireturn C M rfl (by decide) (by decide) dX9_sign_74 ⟨rI (mA_n (k := kSig σ z) (by first | omega | (unfold kSig; (repeat' split) <;> omega))).symm, rfl, by rw [mS_n (k := kSig σ z) (v := 2) (by first | omega | (unfold kSig; (repeat' split) <;> omega)) (by decide)]⟩
    · refine X_aload_n C rfl dX9_sign_24 ?_
      refine X_iload_n C rfl dX9_sign_25 ?_
      refine X_callVE_1 C (c_X9_openOn C.hlc (by assumption) (by omega)) cv_X9_128 jG_20 ⟨_, _, rfl⟩ rfl rfl dX9_sign_26 ?_
      refine X_if_gt C (tgt := 47) dX9_sign_29 (by decide) ⟨by omega, by omega⟩ (fun c_29 => ?_) (fun c_29 => ?_)
      · refine X_iconst C dX9_sign_47 ?_
        refine X_goto C (tgt := 52) dX9_sign_48 (by decide) ?_
        refine X_istore_2 C (by decide) rfl dX9_sign_52 ?_
        refine X_aload_n C rfl dX9_sign_53 ?_
        refine X_iload_n C rfl dX9_sign_54 ?_
        refine X_if_eq C (tgt := 62) dX9_sign_55 (by decide) ⟨by omega, by omega⟩ (fun c_55 => ?_) (fun c_55 => ?_)
        · exfalso; omega
        refine X_iconst C dX9_sign_58 ?_
        refine X_goto C (tgt := 63) dX9_sign_59 (by decide) ?_
        refine Xp_X9_thrown C fw_X9_78 dX9_sign_63 ?_
        refine X_aload_n C rfl dX9_sign_66 ?_
        refine Xg_X9_thrown C up_s fl_X9_78 dX9_sign_67 ?_
        refine X_if_le C (tgt := 75) dX9_sign_70 (by decide) ⟨by omega, by omega⟩ (fun c_70 => ?_) (fun c_70 => ?_)
        · exfalso; omega
        refine X_iconst C dX9_sign_73 ?_
        exact X_ireturn C M rfl (by decide) (by decide) dX9_sign_74 ⟨rI (mA_n (k := kSig σ z) (by first | omega | (unfold kSig; (repeat' split) <;> omega))).symm, rfl, by rw [mS_n (k := kSig σ z) (v := 2) (by first | omega | (unfold kSig; (repeat' split) <;> omega)) (by decide)]⟩
      · refine X_aload_n C rfl dX9_sign_32 ?_
        refine Xg_X9_versions C fl_X9_16 dX9_sign_33 ?_
        refine X_iload_n C rfl dX9_sign_36 ?_
        refine Xm_versions_ld C (by omega) (by omega) rfl dX9_sign_37 ?_
        refine X_aload_n C rfl dX9_sign_38 ?_
        refine Xg_X9_proofVersions C fl_X9_28 dX9_sign_39 ?_
        refine X_iload_n C rfl dX9_sign_42 ?_
        refine Xm_proofVersions_ld C (by omega) (by omega) rfl dX9_sign_43 ?_
        refine X_icmp_ne C (tgt := 51) dX9_sign_44 (by decide) ⟨by omega, by omega⟩ ⟨by omega, by omega⟩ (fun c_44 => ?_) (fun c_44 => ?_)
        · refine X_iconst C dX9_sign_51 ?_
          refine X_istore_2 C (by decide) rfl dX9_sign_52 ?_
          refine X_aload_n C rfl dX9_sign_53 ?_
          refine X_iload_n C rfl dX9_sign_54 ?_
          refine X_if_eq C (tgt := 62) dX9_sign_55 (by decide) ⟨by omega, by omega⟩ (fun c_55 => ?_) (fun c_55 => ?_)
          rotate_left
          · exfalso; omega
          refine X_iconst C dX9_sign_62 ?_
          refine Xp_X9_thrown C fw_X9_78 dX9_sign_63 ?_
          refine X_aload_n C rfl dX9_sign_66 ?_
          refine Xg_X9_thrown C up_s fl_X9_78 dX9_sign_67 ?_
          refine X_if_le C (tgt := 75) dX9_sign_70 (by decide) ⟨by omega, by omega⟩ (fun c_70 => ?_) (fun c_70 => ?_)
          rotate_left
          · exfalso; omega
          refine X_iconst C dX9_sign_75 ?_
          refine X_istore_3 C (by decide) rfl dX9_sign_76 ?_
          have L77 : ∀ (n9 : Nat) (k : Int), (0 ≤ k ∧ k ≤ σ 1 (2 * z) 0) → σ 1 (2 * z) 0 - k < (n9 : Int) → X κ D A 4 0 0 77 ([some (.ref (ad 20 0)), some (.int (iI z)), some (.int (iI 0)), some (.int (iI k))]) ([]) ad (jG Y τ (upR (up σ 40 0 0 0) 0 (2 * z + 1) (rwU (σ 0 (2 * z + 1)) (σ 0 (2 * z)) k)) ρ ad) := by
            intro n9
            induction n9 with
            | zero => intro k  hk hm; exfalso; omega
            | succ n9 ih =>
              intro k  hk hm
              refine X_iload_n C rfl dX9_sign_77 ?_
              refine X_aload_n C rfl dX9_sign_78 ?_
              refine Xg_X9_lengths C fl_X9_13 dX9_sign_79 ?_
              refine X_iload_n C rfl dX9_sign_82 ?_
              refine Xm_lengths_ld C (by omega) (by omega) (v := σ 1 (2 * z) 0) (by simp (discharger := decide) only [up_r, upR_r, up_s, mvS_r]) dX9_sign_83 ?_
              refine X_icmp_ge C (tgt := 115) dX9_sign_84 (by decide) ⟨by omega, by omega⟩ ⟨by omega, by omega⟩ (fun c_84 => ?_) (fun c_84 => ?_)
              · obtain rfl : k = σ 1 (2 * z) 0 := by omega
                refine X_aload_n C rfl dX9_sign_115 ?_
                refine Xg_X9_proofLengths C fl_X9_25 dX9_sign_116 ?_
                refine X_iload_n C rfl dX9_sign_119 ?_
                refine X_aload_n C rfl dX9_sign_120 ?_
                refine Xg_X9_lengths C fl_X9_13 dX9_sign_121 ?_
                refine X_iload_n C rfl dX9_sign_124 ?_
                refine Xm_lengths_ld C (by omega) (by omega) (v := σ 1 (2 * z) 0) (by simp (discharger := decide) only [up_r, upR_r, up_s, mvS_r]) dX9_sign_125 ?_
                refine Xm_proofLengths_st C (by omega) (by omega) dX9_sign_126 ?_
                refine X_aload_n C rfl dX9_sign_127 ?_
                refine Xg_X9_proofVersions C fl_X9_28 dX9_sign_128 ?_
                refine X_iload_n C rfl dX9_sign_131 ?_
                refine X_aload_n C rfl dX9_sign_132 ?_
                refine Xg_X9_versions C fl_X9_16 dX9_sign_133 ?_
                refine X_iload_n C rfl dX9_sign_136 ?_
                refine Xm_versions_ld C (by omega) (by omega) (v := σ 2 z 0) (by simp (discharger := decide) only [up_r, upR_r, up_s, mvS_r]) dX9_sign_137 ?_
                refine Xm_proofVersions_st C (by omega) (by omega) dX9_sign_138 ?_
                refine X_aload_n C rfl dX9_sign_139 ?_
                refine X_iload_n C rfl dX9_sign_140 ?_
                refine X_callVE_1 C (c_X9_sheetsOf2 (n := 0) C.hlc (by omega) (by simp (discharger := decide) only [up_r, upR_r, up_s, mvS_r]; exact I.sz _ _)) cv_X9_132 jG_20 ⟨_, _, rfl⟩ rfl rfl dX9_sign_141 ?_
                exact X_ireturn C M rfl (by decide) (by decide) dX9_sign_144 ⟨rI (Eq.trans (show _ = shC (σ 1 (2 * z) 0) from by unfold shT; simp (discharger := decide) only [up_r, upR_r, up_s, mvS_r]) (mA_0 (k := kSig σ z) (by first | omega | (unfold kSig; (repeat' split) <;> omega))).symm), rfl, by rw [mS_0 (k := kSig σ z) (by first | omega | (unfold kSig; (repeat' split) <;> omega))]; all_goals rfl⟩
              · refine X_aload_n C rfl dX9_sign_87 ?_
                refine Xg_X9_proofs C fl_X9_22 dX9_sign_88 ?_
                refine X_bipush C ⟨by decide, by decide⟩ dX9_sign_91 ?_
                refine X_iload_n C rfl dX9_sign_93 ?_
                refine X_imul C dX9_sign_94 ?_
                refine X_iload_n C rfl dX9_sign_95 ?_
                refine X_iadd C dX9_sign_96 ?_
                refine X_aload_n C rfl dX9_sign_97 ?_
                refine Xg_X9_texts C fl_X9_7 dX9_sign_98 ?_
                refine X_bipush C ⟨by decide, by decide⟩ dX9_sign_101 ?_
                refine X_iload_n C rfl dX9_sign_103 ?_
                refine X_imul C dX9_sign_104 ?_
                refine X_iload_n C rfl dX9_sign_105 ?_
                refine X_iadd C dX9_sign_106 ?_
                refine Xm_texts_ld C z k (by omega) (by omega) ⟨by omega, by omega⟩ (by omega) (v := σ 0 (2 * z) k) (by rw [upR_n (by omega), up_r (by decide)]) dX9_sign_107 ?_
                refine Xm_proofs_st C z k (by omega) (by omega) ⟨by omega, by omega⟩ (by omega) dX9_sign_108 ?_
                refine X_iinc_3 C (by decide) rfl dX9_sign_109 ?_
                refine X_goto C (tgt := 77) dX9_sign_112 (by decide) ?_
                rw [rwU_s (f := σ 0 (2 * z + 1)) (g := σ 0 (2 * z)) hk.1]
                exact ih (k + 1) (by omega) (by omega)
          have h9 := L77 81 0 (by omega) (by omega)
          rw [rwU_0, show upR (up σ 40 0 0 0) 0 (2 * z + 1) (σ 0 (2 * z + 1)) = (up σ 40 0 0 0) from by rw [show σ 0 (2 * z + 1) = (up σ 40 0 0 0) 0 (2 * z + 1) from by rw [up_r (by decide)]]; exact upR_self] at h9
          exact h9
        · refine X_iconst C dX9_sign_47 ?_
          refine X_goto C (tgt := 52) dX9_sign_48 (by decide) ?_
          refine X_istore_2 C (by decide) rfl dX9_sign_52 ?_
          refine X_aload_n C rfl dX9_sign_53 ?_
          refine X_iload_n C rfl dX9_sign_54 ?_
          refine X_if_eq C (tgt := 62) dX9_sign_55 (by decide) ⟨by omega, by omega⟩ (fun c_55 => ?_) (fun c_55 => ?_)
          · exfalso; omega
          refine X_iconst C dX9_sign_58 ?_
          refine X_goto C (tgt := 63) dX9_sign_59 (by decide) ?_
          refine Xp_X9_thrown C fw_X9_78 dX9_sign_63 ?_
          refine X_aload_n C rfl dX9_sign_66 ?_
          refine Xg_X9_thrown C up_s fl_X9_78 dX9_sign_67 ?_
          refine X_if_le C (tgt := 75) dX9_sign_70 (by decide) ⟨by omega, by omega⟩ (fun c_70 => ?_) (fun c_70 => ?_)
          · exfalso; omega
          refine X_iconst C dX9_sign_73 ?_
          exact X_ireturn C M rfl (by decide) (by decide) dX9_sign_74 ⟨rI (mA_n (k := kSig σ z) (by first | omega | (unfold kSig; (repeat' split) <;> omega))).symm, rfl, by rw [mS_n (k := kSig σ z) (v := 2) (by first | omega | (unfold kSig; (repeat' split) <;> omega)) (by decide)]⟩
  · refine X_aload_n C rfl dX9_sign_8 ?_
    refine X_iconst C dX9_sign_9 ?_
    refine Xp_X9_thrown C fw_X9_78 dX9_sign_10 ?_
    refine X_iconst C dX9_sign_13 ?_
    exact X_ireturn C M rfl (by decide) (by decide) dX9_sign_14 ⟨rI (mA_n (k := kSig σ z) (by first | omega | (unfold kSig; (repeat' split) <;> omega))).symm, rfl, by rw [mS_n (k := kSig σ z) (v := 1) (by first | omega | (unfold kSig; (repeat' split) <;> omega)) (by decide)]⟩
