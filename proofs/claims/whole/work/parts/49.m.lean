set_option maxRecDepth 100000 in
set_option maxHeartbeats 4000000 in
theorem c_X9_order {lc : Launch} (hlc : lc.stackTraces = false) {D : va_G} {Y : Nat → ClassId} {A : Nat → Prop} {τ σ : xS} {ρ : xG} {ad : xL} {n z c u : Int} (I : xI n σ) (hz0 : rg z) (hz1 : rg c) (hz2 : rg u) : Ct lc yX9_order cX9_order 7 (some .int) (rmL 7 0 0) D Y A ad (jG Y τ σ ρ ad) [.ref (ad 20 0), .int (iI z), .int (iI c), .int (iI u)] (pE (some (.int (iI (mA (kOrd σ z c u) (σ 32 0 0) (-1))))) ad (jG Y τ (mS (kOrd σ z c u) (fun σ => up (m15 (up (up (up σ 9 (σ 32 0 0) 0 z) 10 (σ 32 0 0) 0 c) 11 (σ 32 0 0) 0 u) (σ 32 0 0) 3) 32 0 0 (σ 32 0 0 + 1)) σ) ρ ad)) (pF) := by
  refine Ct_of hlc (by decide +kernel) rfl rfl (own := RX9) (nm := "order") (l0 := [some (.ref (ad 20 0)), some (.int (iI z)), some (.int (iI c)), some (.int (iI u)), none, none, none]) rfl (Nat.le_of_ble_eq_true rfl) (fun κ C M => ?_)
  have Ind := I.nd
  have Inc := I.nc
  have Ino := I.no
  have In := I.n0
  refine X_iload_n C rfl dX9_order_0 ?_
  refine X_i2l C ⟨by omega, by omega⟩ dX9_order_1 ?_
  refine X_lconst C (v := 1) rfl dX9_order_2 ?_
  refine X_ldc2 C (n := 500) (v := 500) (by decide +kernel) k_X9_163 dX9_order_3 ?_
  refine X_callSE_3 C (c_X9_in C.hlc (by omega) (by omega) (by omega)) cs_X9_84 rfl rfl dX9_order_6 ?_
  refine X_if_eqB C (tgt := 28) dX9_order_9 (by decide) (fun c_9 => ?_) (fun c_9 => ?_)
  · refine X_iconst C dX9_order_28 ?_
    refine X_istore_4 C (by decide) rfl dX9_order_29 ?_
    refine X_aload_n C rfl dX9_order_31 ?_
    refine X_iload_n C rfl dX9_order_32 ?_
    refine X_callVE_1 C (c_X9_isDocument C.hlc (by assumption) (by omega)) cv_X9_105 jG_20 ⟨_, _, rfl⟩ rfl rfl dX9_order_33 ?_
    refine X_if_eqB C (tgt := 44) dX9_order_36 (by decide) (fun c_36 => ?_) (fun c_36 => ?_)
    · refine X_aload_n C rfl dX9_order_44 ?_
      refine X_aload_n C rfl dX9_order_45 ?_
      refine X_iload_n C rfl dX9_order_46 ?_
      refine X_callVE_1 C (c_X9_isDocument C.hlc (by assumption) (by omega)) cv_X9_105 jG_20 ⟨_, _, rfl⟩ rfl rfl dX9_order_47 ?_
      refine X_if_neB C (tgt := 57) dX9_order_50 (by decide) (fun c_50 => ?_) (fun c_50 => ?_)
      · refine X_iconst C dX9_order_57 ?_
        refine Xp_X9_thrown C fw_X9_78 dX9_order_58 ?_
        refine X_iconst C dX9_order_61 ?_
        exact X_ireturn C M rfl (by decide) (by decide) dX9_order_62 ⟨rI (mA_n (k := kOrd σ z c u) (by first | omega | (unfold kOrd; (repeat' split) <;> omega))).symm, rfl, by rw [mS_n (k := kOrd σ z c u) (v := 2) (by first | omega | (unfold kOrd; (repeat' split) <;> omega)) (by decide)]⟩
      · refine X_iconst C dX9_order_53 ?_
        refine X_goto C (tgt := 58) dX9_order_54 (by decide) ?_
        refine Xp_X9_thrown C fw_X9_78 dX9_order_58 ?_
        refine X_iconst C dX9_order_61 ?_
        exact X_ireturn C M rfl (by decide) (by decide) dX9_order_62 ⟨rI (mA_n (k := kOrd σ z c u) (by first | omega | (unfold kOrd; (repeat' split) <;> omega))).symm, rfl, by rw [mS_n (k := kOrd σ z c u) (v := 1) (by first | omega | (unfold kOrd; (repeat' split) <;> omega)) (by decide)]⟩
    · refine X_iload C rfl dX9_order_39 ?_
      refine X_if_ne C (tgt := 63) dX9_order_41 (by decide) ⟨by omega, by omega⟩ (fun c_41 => ?_) (fun c_41 => ?_)
      · exfalso; omega
      refine X_aload_n C rfl dX9_order_44 ?_
      refine X_aload_n C rfl dX9_order_45 ?_
      refine X_iload_n C rfl dX9_order_46 ?_
      refine X_callVE_1 C (c_X9_isDocument C.hlc (by assumption) (by omega)) cv_X9_105 jG_20 ⟨_, _, rfl⟩ rfl rfl dX9_order_47 ?_
      refine X_if_neB C (tgt := 57) dX9_order_50 (by decide) (fun c_50 => ?_) (fun c_50 => ?_)
      · refine X_iconst C dX9_order_57 ?_
        refine Xp_X9_thrown C fw_X9_78 dX9_order_58 ?_
        refine X_iconst C dX9_order_61 ?_
        exact X_ireturn C M rfl (by decide) (by decide) dX9_order_62 ⟨rI (mA_n (k := kOrd σ z c u) (by first | omega | (unfold kOrd; (repeat' split) <;> omega))).symm, rfl, by rw [mS_n (k := kOrd σ z c u) (v := 2) (by first | omega | (unfold kOrd; (repeat' split) <;> omega)) (by decide)]⟩
      · refine X_iconst C dX9_order_53 ?_
        refine X_goto C (tgt := 58) dX9_order_54 (by decide) ?_
        refine Xp_X9_thrown C fw_X9_78 dX9_order_58 ?_
        refine X_iconst C dX9_order_61 ?_
        exact X_ireturn C M rfl (by decide) (by decide) dX9_order_62 ⟨rI (mA_n (k := kOrd σ z c u) (by first | omega | (unfold kOrd; (repeat' split) <;> omega))).symm, rfl, by rw [mS_n (k := kOrd σ z c u) (v := 1) (by first | omega | (unfold kOrd; (repeat' split) <;> omega)) (by decide)]⟩
  · refine X_iload_n C rfl dX9_order_12 ?_
    refine X_i2l C ⟨by omega, by omega⟩ dX9_order_13 ?_
    refine X_lconst C (v := 0) rfl dX9_order_14 ?_
    refine X_ldc2 C (n := 999) (v := 999) (by decide +kernel) k_X9_120 dX9_order_15 ?_
    refine X_callSE_3 C (c_X9_in C.hlc (by omega) (by omega) (by omega)) cs_X9_84 rfl rfl dX9_order_18 ?_
    refine X_if_eqB C (tgt := 28) dX9_order_21 (by decide) (fun c_21 => ?_) (fun c_21 => ?_)
    · refine X_iconst C dX9_order_28 ?_
      refine X_istore_4 C (by decide) rfl dX9_order_29 ?_
      refine X_aload_n C rfl dX9_order_31 ?_
      refine X_iload_n C rfl dX9_order_32 ?_
      refine X_callVE_1 C (c_X9_isDocument C.hlc (by assumption) (by omega)) cv_X9_105 jG_20 ⟨_, _, rfl⟩ rfl rfl dX9_order_33 ?_
      refine X_if_eqB C (tgt := 44) dX9_order_36 (by decide) (fun c_36 => ?_) (fun c_36 => ?_)
      · refine X_aload_n C rfl dX9_order_44 ?_
        refine X_aload_n C rfl dX9_order_45 ?_
        refine X_iload_n C rfl dX9_order_46 ?_
        refine X_callVE_1 C (c_X9_isDocument C.hlc (by assumption) (by omega)) cv_X9_105 jG_20 ⟨_, _, rfl⟩ rfl rfl dX9_order_47 ?_
        refine X_if_neB C (tgt := 57) dX9_order_50 (by decide) (fun c_50 => ?_) (fun c_50 => ?_)
        · refine X_iconst C dX9_order_57 ?_
          refine Xp_X9_thrown C fw_X9_78 dX9_order_58 ?_
          refine X_iconst C dX9_order_61 ?_
          exact X_ireturn C M rfl (by decide) (by decide) dX9_order_62 ⟨rI (mA_n (k := kOrd σ z c u) (by first | omega | (unfold kOrd; (repeat' split) <;> omega))).symm, rfl, by rw [mS_n (k := kOrd σ z c u) (v := 2) (by first | omega | (unfold kOrd; (repeat' split) <;> omega)) (by decide)]⟩
        · refine X_iconst C dX9_order_53 ?_
          refine X_goto C (tgt := 58) dX9_order_54 (by decide) ?_
          refine Xp_X9_thrown C fw_X9_78 dX9_order_58 ?_
          refine X_iconst C dX9_order_61 ?_
          exact X_ireturn C M rfl (by decide) (by decide) dX9_order_62 ⟨rI (mA_n (k := kOrd σ z c u) (by first | omega | (unfold kOrd; (repeat' split) <;> omega))).symm, rfl, by rw [mS_n (k := kOrd σ z c u) (v := 1) (by first | omega | (unfold kOrd; (repeat' split) <;> omega)) (by decide)]⟩
      · refine X_iload C rfl dX9_order_39 ?_
        refine X_if_ne C (tgt := 63) dX9_order_41 (by decide) ⟨by omega, by omega⟩ (fun c_41 => ?_) (fun c_41 => ?_)
        · exfalso; omega
        refine X_aload_n C rfl dX9_order_44 ?_
        refine X_aload_n C rfl dX9_order_45 ?_
        refine X_iload_n C rfl dX9_order_46 ?_
        refine X_callVE_1 C (c_X9_isDocument C.hlc (by assumption) (by omega)) cv_X9_105 jG_20 ⟨_, _, rfl⟩ rfl rfl dX9_order_47 ?_
        refine X_if_neB C (tgt := 57) dX9_order_50 (by decide) (fun c_50 => ?_) (fun c_50 => ?_)
        · refine X_iconst C dX9_order_57 ?_
          refine Xp_X9_thrown C fw_X9_78 dX9_order_58 ?_
          refine X_iconst C dX9_order_61 ?_
          exact X_ireturn C M rfl (by decide) (by decide) dX9_order_62 ⟨rI (mA_n (k := kOrd σ z c u) (by first | omega | (unfold kOrd; (repeat' split) <;> omega))).symm, rfl, by rw [mS_n (k := kOrd σ z c u) (v := 2) (by first | omega | (unfold kOrd; (repeat' split) <;> omega)) (by decide)]⟩
        · refine X_iconst C dX9_order_53 ?_
          refine X_goto C (tgt := 58) dX9_order_54 (by decide) ?_
          refine Xp_X9_thrown C fw_X9_78 dX9_order_58 ?_
          refine X_iconst C dX9_order_61 ?_
          exact X_ireturn C M rfl (by decide) (by decide) dX9_order_62 ⟨rI (mA_n (k := kOrd σ z c u) (by first | omega | (unfold kOrd; (repeat' split) <;> omega))).symm, rfl, by rw [mS_n (k := kOrd σ z c u) (v := 1) (by first | omega | (unfold kOrd; (repeat' split) <;> omega)) (by decide)]⟩
    · refine X_iconst C dX9_order_24 ?_
      refine X_goto C (tgt := 29) dX9_order_25 (by decide) ?_
      refine X_istore_4 C (by decide) rfl dX9_order_29 ?_
      refine X_aload_n C rfl dX9_order_31 ?_
      refine X_iload_n C rfl dX9_order_32 ?_
      refine X_callVE_1 C (c_X9_isDocument C.hlc (by assumption) (by omega)) cv_X9_105 jG_20 ⟨_, _, rfl⟩ rfl rfl dX9_order_33 ?_
      refine X_if_eqB C (tgt := 44) dX9_order_36 (by decide) (fun c_36 => ?_) (fun c_36 => ?_)
      · refine X_aload_n C rfl dX9_order_44 ?_
        refine X_aload_n C rfl dX9_order_45 ?_
        refine X_iload_n C rfl dX9_order_46 ?_
        refine X_callVE_1 C (c_X9_isDocument C.hlc (by assumption) (by omega)) cv_X9_105 jG_20 ⟨_, _, rfl⟩ rfl rfl dX9_order_47 ?_
        refine X_if_neB C (tgt := 57) dX9_order_50 (by decide) (fun c_50 => ?_) (fun c_50 => ?_)
        · refine X_iconst C dX9_order_57 ?_
          refine Xp_X9_thrown C fw_X9_78 dX9_order_58 ?_
          refine X_iconst C dX9_order_61 ?_
          exact X_ireturn C M rfl (by decide) (by decide) dX9_order_62 ⟨rI (mA_n (k := kOrd σ z c u) (by first | omega | (unfold kOrd; (repeat' split) <;> omega))).symm, rfl, by rw [mS_n (k := kOrd σ z c u) (v := 2) (by first | omega | (unfold kOrd; (repeat' split) <;> omega)) (by decide)]⟩
        · refine X_iconst C dX9_order_53 ?_
          refine X_goto C (tgt := 58) dX9_order_54 (by decide) ?_
          refine Xp_X9_thrown C fw_X9_78 dX9_order_58 ?_
          refine X_iconst C dX9_order_61 ?_
          exact X_ireturn C M rfl (by decide) (by decide) dX9_order_62 ⟨rI (mA_n (k := kOrd σ z c u) (by first | omega | (unfold kOrd; (repeat' split) <;> omega))).symm, rfl, by rw [mS_n (k := kOrd σ z c u) (v := 1) (by first | omega | (unfold kOrd; (repeat' split) <;> omega)) (by decide)]⟩
      · refine X_iload C rfl dX9_order_39 ?_
        refine X_if_ne C (tgt := 63) dX9_order_41 (by decide) ⟨by omega, by omega⟩ (fun c_41 => ?_) (fun c_41 => ?_)
        rotate_left
        · exfalso; omega
        refine X_aload_n C rfl dX9_order_63 ?_
        refine Xg_X9_proofVersions C fl_X9_28 dX9_order_64 ?_
        refine X_iload_n C rfl dX9_order_67 ?_
        refine Xm_proofVersions_ld C (by omega) (by omega) rfl dX9_order_68 ?_
        have k8 := I.pv z 0
        refine X_iconst C dX9_order_69 ?_
        refine X_icmp_eq C (tgt := 82) dX9_order_70 (by decide) ⟨by omega, by omega⟩ ⟨by omega, by omega⟩ (fun c_70 => ?_) (fun c_70 => ?_)
        · refine X_iconst C dX9_order_82 ?_
          refine X_goto C (tgt := 87) dX9_order_83 (by decide) ?_
          refine X_istore_5 C (by decide) rfl dX9_order_87 ?_
          refine X_aload_n C rfl dX9_order_89 ?_
          refine X_iload C rfl dX9_order_90 ?_
          refine X_if_eq C (tgt := 99) dX9_order_92 (by decide) ⟨by omega, by omega⟩ (fun c_92 => ?_) (fun c_92 => ?_)
          · exfalso; omega
          refine X_iconst C dX9_order_95 ?_
          refine X_goto C (tgt := 118) dX9_order_96 (by decide) ?_
          refine Xp_X9_thrown C fw_X9_78 dX9_order_118 ?_
          refine X_aload_n C rfl dX9_order_121 ?_
          refine Xg_X9_thrown C up_s fl_X9_78 dX9_order_122 ?_
          refine X_if_le C (tgt := 130) dX9_order_125 (by decide) ⟨by omega, by omega⟩ (fun c_125 => ?_) (fun c_125 => ?_)
          · exfalso; omega
          refine X_iconst C dX9_order_128 ?_
          exact X_ireturn C M rfl (by decide) (by decide) dX9_order_129 ⟨rI (mA_n (k := kOrd σ z c u) (by first | omega | (unfold kOrd; (repeat' split) <;> omega))).symm, rfl, by rw [mS_n (k := kOrd σ z c u) (v := 3) (by first | omega | (unfold kOrd; (repeat' split) <;> omega)) (by decide)]⟩
        · refine X_aload_n C rfl dX9_order_73 ?_
          refine Xg_X9_orders C rfl fl_X9_165 dX9_order_74 ?_
          refine X_bipush C ⟨by decide, by decide⟩ dX9_order_77 ?_
          refine X_icmp_ne C (tgt := 86) dX9_order_79 (by decide) ⟨by omega, by omega⟩ ⟨by omega, by omega⟩ (fun c_79 => ?_) (fun c_79 => ?_)
          · refine X_iconst C dX9_order_86 ?_
            refine X_istore_5 C (by decide) rfl dX9_order_87 ?_
            refine X_aload_n C rfl dX9_order_89 ?_
            refine X_iload C rfl dX9_order_90 ?_
            refine X_if_eq C (tgt := 99) dX9_order_92 (by decide) ⟨by omega, by omega⟩ (fun c_92 => ?_) (fun c_92 => ?_)
            rotate_left
            · exfalso; omega
            have k1 := I.sb z
            have k2 := mul_b (x := c) (y := shT σ z) (a := 500) (b := 3) (by omega) k1
            have k3 := frA_b I Ino.1 Ino.2
            refine X_iload_n C rfl dX9_order_99 ?_
            refine X_aload_n C rfl dX9_order_100 ?_
            refine X_iload_n C rfl dX9_order_101 ?_
            refine X_callVE_1 C (c_X9_sheetsOf C.hlc (by assumption) (by omega)) cv_X9_132 jG_20 ⟨_, _, rfl⟩ rfl rfl dX9_order_102 ?_
            refine X_imul C dX9_order_105 ?_
            refine X_aload_n C rfl dX9_order_106 ?_
            refine X_callVE_0 C (c_X9_free C.hlc (by assumption)) cv_X9_168 jG_20 ⟨_, _, rfl⟩ rfl rfl dX9_order_107 ?_
            refine X_icmp_le C (tgt := 117) dX9_order_110 (by decide) ⟨by omega, by omega⟩ ⟨by omega, by omega⟩ (fun c_110 => ?_) (fun c_110 => ?_)
            · refine X_iconst C dX9_order_117 ?_
              refine Xp_X9_thrown C fw_X9_78 dX9_order_118 ?_
              refine X_aload_n C rfl dX9_order_121 ?_
              refine Xg_X9_thrown C up_s fl_X9_78 dX9_order_122 ?_
              refine X_if_le C (tgt := 130) dX9_order_125 (by decide) ⟨by omega, by omega⟩ (fun c_125 => ?_) (fun c_125 => ?_)
              rotate_left
              · exfalso; omega
              refine X_aload_n C rfl dX9_order_130 ?_
              refine Xg_X9_orderOf C fl_X9_44 dX9_order_131 ?_
              refine X_aload_n C rfl dX9_order_134 ?_
              refine Xg_X9_orders C (v := σ 32 0 0) (by simp (discharger := decide) only [up_r, up_s, m15_r]) fl_X9_165 dX9_order_135 ?_
              refine X_iload_n C rfl dX9_order_138 ?_
              refine Xm_orderOf_st C (by omega) (by omega) dX9_order_139 ?_
              refine X_aload_n C rfl dX9_order_140 ?_
              refine Xg_X9_copies C fl_X9_47 dX9_order_141 ?_
              refine X_aload_n C rfl dX9_order_144 ?_
              refine Xg_X9_orders C (v := σ 32 0 0) (by simp (discharger := decide) only [up_r, up_s, m15_r]) fl_X9_165 dX9_order_145 ?_
              refine X_iload_n C rfl dX9_order_148 ?_
              refine Xm_copies_st C (by omega) (by omega) dX9_order_149 ?_
              refine X_aload_n C rfl dX9_order_150 ?_
              refine Xg_X9_dues C fl_X9_50 dX9_order_151 ?_
              refine X_aload_n C rfl dX9_order_154 ?_
              refine Xg_X9_orders C (v := σ 32 0 0) (by simp (discharger := decide) only [up_r, up_s, m15_r]) fl_X9_165 dX9_order_155 ?_
              refine X_iload_n C rfl dX9_order_158 ?_
              refine Xm_dues_st C (by omega) (by omega) dX9_order_159 ?_
              refine X_iconst C dX9_order_160 ?_
              refine X_istore_6 C (by decide) rfl dX9_order_161 ?_
              have L163 : ∀ (n9 : Nat) (s : Int), (0 ≤ s ∧ s ≤ 3) → 3 - s < (n9 : Int) → X κ D A 7 0 0 163 ([some (.ref (ad 20 0)), some (.int (iI z)), some (.int (iI c)), some (.int (iI u)), some (.int (iI 1)), some (.int (iI 0)), some (.int (iI s))]) ([]) ad (jG Y τ (m15 (up (up (up (up σ 40 0 0 0) 9 (σ 32 0 0) 0 z) 10 (σ 32 0 0) 0 c) 11 (σ 32 0 0) 0 u) (σ 32 0 0) s) ρ ad) := by
                intro n9
                induction n9 with
                | zero => intro s  hs hm; exfalso; omega
                | succ n9 ih =>
                  intro s  hs hm
                  refine X_iload C rfl dX9_order_163 ?_
                  refine X_iconst C dX9_order_165 ?_
                  refine X_icmp_ge C (tgt := 190) dX9_order_166 (by decide) ⟨by omega, by omega⟩ ⟨by omega, by omega⟩ (fun c_166 => ?_) (fun c_166 => ?_)
                  · obtain rfl : s = 3 := by omega
                    refine X_aload_n C rfl dX9_order_190 ?_
                    refine X_dup C rfl dX9_order_191 ?_
                    refine Xg_X9_orders C (v := σ 32 0 0) (by simp (discharger := decide) only [up_r, up_s, m15_r]) fl_X9_165 dX9_order_192 ?_
                    refine X_iconst C dX9_order_195 ?_
                    refine X_iadd C dX9_order_196 ?_
                    refine Xp_X9_orders C fw_X9_165 dX9_order_197 ?_
                    refine X_aload_n C rfl dX9_order_200 ?_
                    refine Xg_X9_orders C (v := σ 32 0 0 + 1) (by simp (discharger := decide) only [up_r, up_s, m15_r]) fl_X9_165 dX9_order_201 ?_
                    refine X_iconst C dX9_order_204 ?_
                    refine X_isub C dX9_order_205 ?_
                    exact X_ireturn C M rfl (by decide) (by decide) dX9_order_206 ⟨rI (Eq.trans (show _ = σ 32 0 0 from by omega) (mA_0 (k := kOrd σ z c u) (by first | omega | (unfold kOrd; (repeat' split) <;> omega))).symm), rfl, by rw [mS_0 (k := kOrd σ z c u) (by first | omega | (unfold kOrd; (repeat' split) <;> omega))]; all_goals rfl⟩
                  · refine X_aload_n C rfl dX9_order_169 ?_
                    refine Xg_X9_plateLength C fl_X9_62 dX9_order_170 ?_
                    refine X_iconst C dX9_order_173 ?_
                    refine X_aload_n C rfl dX9_order_174 ?_
                    refine Xg_X9_orders C (v := σ 32 0 0) (by simp (discharger := decide) only [up_r, up_s, m15_r]) fl_X9_165 dX9_order_175 ?_
                    refine X_imul C dX9_order_178 ?_
                    refine X_iload C rfl dX9_order_179 ?_
                    refine X_iadd C dX9_order_181 ?_
                    refine X_iconst C dX9_order_182 ?_
                    refine Xm_plateLength_st C (by omega) (by omega) dX9_order_183 ?_
                    refine X_iinc_6 C (by decide) rfl dX9_order_184 ?_
                    refine X_goto C (tgt := 163) dX9_order_187 (by decide) ?_
                    rw [m15_s hs.1]
                    exact ih (s + 1) (by omega) (by omega)
              have h9 := L163 4 0 (by omega) (by omega)
              rw [m15_0] at h9
              exact h9
            · refine X_iconst C dX9_order_113 ?_
              refine X_goto C (tgt := 118) dX9_order_114 (by decide) ?_
              refine Xp_X9_thrown C fw_X9_78 dX9_order_118 ?_
              refine X_aload_n C rfl dX9_order_121 ?_
              refine Xg_X9_thrown C up_s fl_X9_78 dX9_order_122 ?_
              refine X_if_le C (tgt := 130) dX9_order_125 (by decide) ⟨by omega, by omega⟩ (fun c_125 => ?_) (fun c_125 => ?_)
              · exfalso; omega
              refine X_iconst C dX9_order_128 ?_
              exact X_ireturn C M rfl (by decide) (by decide) dX9_order_129 ⟨rI (mA_n (k := kOrd σ z c u) (by first | omega | (unfold kOrd; (repeat' split) <;> omega))).symm, rfl, by rw [mS_n (k := kOrd σ z c u) (v := 4) (by first | omega | (unfold kOrd; (repeat' split) <;> omega)) (by decide)]⟩
          · refine X_iconst C dX9_order_82 ?_
            refine X_goto C (tgt := 87) dX9_order_83 (by decide) ?_
            refine X_istore_5 C (by decide) rfl dX9_order_87 ?_
            refine X_aload_n C rfl dX9_order_89 ?_
            refine X_iload C rfl dX9_order_90 ?_
            refine X_if_eq C (tgt := 99) dX9_order_92 (by decide) ⟨by omega, by omega⟩ (fun c_92 => ?_) (fun c_92 => ?_)
            · exfalso; omega
            refine X_iconst C dX9_order_95 ?_
            refine X_goto C (tgt := 118) dX9_order_96 (by decide) ?_
            refine Xp_X9_thrown C fw_X9_78 dX9_order_118 ?_
            refine X_aload_n C rfl dX9_order_121 ?_
            refine Xg_X9_thrown C up_s fl_X9_78 dX9_order_122 ?_
            refine X_if_le C (tgt := 130) dX9_order_125 (by decide) ⟨by omega, by omega⟩ (fun c_125 => ?_) (fun c_125 => ?_)
            · exfalso; omega
            refine X_iconst C dX9_order_128 ?_
            exact X_ireturn C M rfl (by decide) (by decide) dX9_order_129 ⟨rI (mA_n (k := kOrd σ z c u) (by first | omega | (unfold kOrd; (repeat' split) <;> omega))).symm, rfl, by rw [mS_n (k := kOrd σ z c u) (v := 3) (by first | omega | (unfold kOrd; (repeat' split) <;> omega)) (by decide)]⟩
set_option maxRecDepth 100000 in
set_option maxHeartbeats 4000000 in
theorem c_X9_nextOrder {lc : Launch} (hlc : lc.stackTraces = false) {D : va_G} {Y : Nat → ClassId} {A : Nat → Prop} {τ σ : xS} {ρ : xG} {ad : xL} {n : Int} (I : xI n σ) : Ct lc yX9_nextOrder cX9_nextOrder 4 (some .int) (rmL 6 0 0) D Y A ad (jG Y τ σ ρ ad) [.ref (ad 20 0)] (pE (some (.int (iI (nxA σ (σ 32 0 0))))) ad (jG Y τ (up σ 40 0 0 (kNxo σ)) ρ ad)) (pF) := by
  refine Ct_of hlc (by decide +kernel) rfl rfl (own := RX9) (nm := "nextOrder") (l0 := [some (.ref (ad 20 0)), none, none, none]) rfl (Nat.le_of_ble_eq_true rfl) (fun κ C M => ?_)
  have Ind := I.nd
  have Inc := I.nc
  have Ino := I.no
  have In := I.n0
  refine X_iconst C dX9_nextOrder_0 ?_
  refine X_istore_1 C (by decide) rfl dX9_nextOrder_1 ?_
  refine X_iconst C dX9_nextOrder_2 ?_
  refine X_istore_2 C (by decide) rfl dX9_nextOrder_3 ?_
  have L4 : ∀ (n9 : Nat) (a : Int) (w3 : Option Value) (o : Int), (0 ≤ o ∧ o ≤ σ 32 0 0) → (a = nxA σ o) → σ 32 0 0 - o < (n9 : Int) → X κ D A 4 0 0 4 ([some (.ref (ad 20 0)), some (.int (iI a)), some (.int (iI o)), w3]) ([]) ad (jG Y τ σ ρ ad) := by
    intro n9
    induction n9 with
    | zero => intro a w3 o  ho ha hm; exfalso; omega
    | succ n9 ih =>
      intro a w3 o  ho ha hm
      have hb := nxA_b (τ := σ) ho.1
      rw [← ha] at hb
      refine X_iload_n C rfl dX9_nextOrder_4 ?_
      refine X_aload_n C rfl dX9_nextOrder_5 ?_
      refine Xg_X9_orders C rfl fl_X9_165 dX9_nextOrder_6 ?_
      refine X_icmp_ge C (tgt := 92) dX9_nextOrder_9 (by decide) ⟨by omega, by omega⟩ ⟨by omega, by omega⟩ (fun c_9 => ?_) (fun c_9 => ?_)
      · obtain rfl : o = σ 32 0 0 := by omega
        refine X_aload_n C rfl dX9_nextOrder_92 ?_
        refine X_iload_n C rfl dX9_nextOrder_93 ?_
        refine X_iconst C dX9_nextOrder_94 ?_
        refine X_icmp_ne C (tgt := 102) dX9_nextOrder_95 (by decide) ⟨by omega, by omega⟩ ⟨by omega, by omega⟩ (fun c_95 => ?_) (fun c_95 => ?_)
        · refine X_iconst C dX9_nextOrder_102 ?_
          refine Xp_X9_thrown C fw_X9_78 dX9_nextOrder_103 ?_
          refine X_iload_n C rfl dX9_nextOrder_106 ?_
          exact X_ireturn C M rfl (by decide) (by decide) dX9_nextOrder_107 ⟨rI ha, rfl, congrArg (fun v9 => jG Y τ (up σ 40 0 0 v9) ρ ad) (show (0 : Int) = kNxo σ from by unfold kNxo; rw [← ha, if_neg (by omega)])⟩
        · refine X_iconst C dX9_nextOrder_98 ?_
          refine X_goto C (tgt := 103) dX9_nextOrder_99 (by decide) ?_
          refine Xp_X9_thrown C fw_X9_78 dX9_nextOrder_103 ?_
          refine X_iload_n C rfl dX9_nextOrder_106 ?_
          exact X_ireturn C M rfl (by decide) (by decide) dX9_nextOrder_107 ⟨rI ha, rfl, congrArg (fun v9 => jG Y τ (up σ 40 0 0 v9) ρ ad) (show (1 : Int) = kNxo σ from by unfold kNxo; rw [← ha, if_pos (by omega)])⟩
      · refine X_iload_n C rfl dX9_nextOrder_12 ?_
        refine X_iconst C dX9_nextOrder_13 ?_
        refine X_icmp_eq C (tgt := 62) dX9_nextOrder_14 (by decide) ⟨by omega, by omega⟩ ⟨by omega, by omega⟩ (fun c_14 => ?_) (fun c_14 => ?_)
        · refine X_iconst C dX9_nextOrder_62 ?_
          refine X_goto C (tgt := 67) dX9_nextOrder_63 (by decide) ?_
          refine X_istore_3 C (by decide) rfl dX9_nextOrder_67 ?_
          refine X_aload_n C rfl dX9_nextOrder_68 ?_
          refine X_iload_n C rfl dX9_nextOrder_69 ?_
          refine X_callVE_1 C (c_X9_isAll C.hlc (by assumption) (by omega)) cv_X9_199 jG_20 ⟨_, _, rfl⟩ rfl rfl dX9_nextOrder_70 ?_
          refine X_if_neB C (tgt := 84) dX9_nextOrder_73 (by decide) (fun c_73 => ?_) (fun c_73 => ?_)
          · refine X_iload_n C rfl dX9_nextOrder_84 ?_
            refine X_istore_1 C (by decide) rfl dX9_nextOrder_85 ?_
            refine X_iinc_2 C (by decide) rfl dX9_nextOrder_86 ?_
            refine X_goto C (tgt := 4) dX9_nextOrder_89 (by decide) ?_
            exact ih _ _ (o + 1) (by omega) (by rw [nxA_s ho.1, ← ha, pk_f (fun w => w.1 c_73)]) (by omega)
          · refine X_iload_n C rfl dX9_nextOrder_76 ?_
            refine X_if_eq C (tgt := 84) dX9_nextOrder_77 (by decide) ⟨by omega, by omega⟩ (fun c_77 => ?_) (fun c_77 => ?_)
            · exfalso; omega
            refine X_iload_n C rfl dX9_nextOrder_80 ?_
            refine X_goto C (tgt := 85) dX9_nextOrder_81 (by decide) ?_
            refine X_istore_1 C (by decide) rfl dX9_nextOrder_85 ?_
            refine X_iinc_2 C (by decide) rfl dX9_nextOrder_86 ?_
            refine X_goto C (tgt := 4) dX9_nextOrder_89 (by decide) ?_
            exact ih _ _ (o + 1) (by omega) (by rw [nxA_s ho.1, ← ha, pk_t ⟨c_73, by omega⟩]) (by omega)
        · refine X_aload_n C rfl dX9_nextOrder_17 ?_
          refine Xg_X9_dues C fl_X9_50 dX9_nextOrder_18 ?_
          have u1 := I.du o 0
          have u2 := I.du a 0
          have u3 := I.cp o 0
          have u4 := I.cp a 0
          refine X_iload_n C rfl dX9_nextOrder_21 ?_
          refine Xm_dues_ld C (by omega) (by omega) rfl dX9_nextOrder_22 ?_
          refine X_aload_n C rfl dX9_nextOrder_23 ?_
          refine Xg_X9_dues C fl_X9_50 dX9_nextOrder_24 ?_
          refine X_iload_n C rfl dX9_nextOrder_27 ?_
          refine Xm_dues_ld C (by omega) (by omega) rfl dX9_nextOrder_28 ?_
          refine X_icmp_lt C (tgt := 62) dX9_nextOrder_29 (by decide) ⟨by omega, by omega⟩ ⟨by omega, by omega⟩ (fun c_29 => ?_) (fun c_29 => ?_)
          · refine X_iconst C dX9_nextOrder_62 ?_
            refine X_goto C (tgt := 67) dX9_nextOrder_63 (by decide) ?_
            refine X_istore_3 C (by decide) rfl dX9_nextOrder_67 ?_
            refine X_aload_n C rfl dX9_nextOrder_68 ?_
            refine X_iload_n C rfl dX9_nextOrder_69 ?_
            refine X_callVE_1 C (c_X9_isAll C.hlc (by assumption) (by omega)) cv_X9_199 jG_20 ⟨_, _, rfl⟩ rfl rfl dX9_nextOrder_70 ?_
            refine X_if_neB C (tgt := 84) dX9_nextOrder_73 (by decide) (fun c_73 => ?_) (fun c_73 => ?_)
            · refine X_iload_n C rfl dX9_nextOrder_84 ?_
              refine X_istore_1 C (by decide) rfl dX9_nextOrder_85 ?_
              refine X_iinc_2 C (by decide) rfl dX9_nextOrder_86 ?_
              refine X_goto C (tgt := 4) dX9_nextOrder_89 (by decide) ?_
              exact ih _ _ (o + 1) (by omega) (by rw [nxA_s ho.1, ← ha, pk_f (fun w => w.1 c_73)]) (by omega)
            · refine X_iload_n C rfl dX9_nextOrder_76 ?_
              refine X_if_eq C (tgt := 84) dX9_nextOrder_77 (by decide) ⟨by omega, by omega⟩ (fun c_77 => ?_) (fun c_77 => ?_)
              · exfalso; omega
              refine X_iload_n C rfl dX9_nextOrder_80 ?_
              refine X_goto C (tgt := 85) dX9_nextOrder_81 (by decide) ?_
              refine X_istore_1 C (by decide) rfl dX9_nextOrder_85 ?_
              refine X_iinc_2 C (by decide) rfl dX9_nextOrder_86 ?_
              refine X_goto C (tgt := 4) dX9_nextOrder_89 (by decide) ?_
              exact ih _ _ (o + 1) (by omega) (by rw [nxA_s ho.1, ← ha, pk_t ⟨c_73, by omega⟩]) (by omega)
          · refine X_aload_n C rfl dX9_nextOrder_32 ?_
            refine Xg_X9_dues C fl_X9_50 dX9_nextOrder_33 ?_
            refine X_iload_n C rfl dX9_nextOrder_36 ?_
            refine Xm_dues_ld C (by omega) (by omega) rfl dX9_nextOrder_37 ?_
            refine X_aload_n C rfl dX9_nextOrder_38 ?_
            refine Xg_X9_dues C fl_X9_50 dX9_nextOrder_39 ?_
            refine X_iload_n C rfl dX9_nextOrder_42 ?_
            refine Xm_dues_ld C (by omega) (by omega) rfl dX9_nextOrder_43 ?_
            refine X_icmp_ne C (tgt := 66) dX9_nextOrder_44 (by decide) ⟨by omega, by omega⟩ ⟨by omega, by omega⟩ (fun c_44 => ?_) (fun c_44 => ?_)
            · refine X_iconst C dX9_nextOrder_66 ?_
              refine X_istore_3 C (by decide) rfl dX9_nextOrder_67 ?_
              refine X_aload_n C rfl dX9_nextOrder_68 ?_
              refine X_iload_n C rfl dX9_nextOrder_69 ?_
              refine X_callVE_1 C (c_X9_isAll C.hlc (by assumption) (by omega)) cv_X9_199 jG_20 ⟨_, _, rfl⟩ rfl rfl dX9_nextOrder_70 ?_
              refine X_if_neB C (tgt := 84) dX9_nextOrder_73 (by decide) (fun c_73 => ?_) (fun c_73 => ?_)
              · refine X_iload_n C rfl dX9_nextOrder_84 ?_
                refine X_istore_1 C (by decide) rfl dX9_nextOrder_85 ?_
                refine X_iinc_2 C (by decide) rfl dX9_nextOrder_86 ?_
                refine X_goto C (tgt := 4) dX9_nextOrder_89 (by decide) ?_
                exact ih _ _ (o + 1) (by omega) (by rw [nxA_s ho.1, ← ha, pk_f (fun w => w.1 c_73)]) (by omega)
              · refine X_iload_n C rfl dX9_nextOrder_76 ?_
                refine X_if_eq C (tgt := 84) dX9_nextOrder_77 (by decide) ⟨by omega, by omega⟩ (fun c_77 => ?_) (fun c_77 => ?_)
                rotate_left
                · exfalso; omega
                refine X_iload_n C rfl dX9_nextOrder_84 ?_
                refine X_istore_1 C (by decide) rfl dX9_nextOrder_85 ?_
                refine X_iinc_2 C (by decide) rfl dX9_nextOrder_86 ?_
                refine X_goto C (tgt := 4) dX9_nextOrder_89 (by decide) ?_
                exact ih _ _ (o + 1) (by omega) (by rw [nxA_s ho.1, ← ha, pk_f (fun w => by have w2 := w.2; omega)]) (by omega)
            · refine X_aload_n C rfl dX9_nextOrder_47 ?_
              refine Xg_X9_copies C fl_X9_47 dX9_nextOrder_48 ?_
              refine X_iload_n C rfl dX9_nextOrder_51 ?_
              refine Xm_copies_ld C (by omega) (by omega) rfl dX9_nextOrder_52 ?_
              refine X_aload_n C rfl dX9_nextOrder_53 ?_
              refine Xg_X9_copies C fl_X9_47 dX9_nextOrder_54 ?_
              refine X_iload_n C rfl dX9_nextOrder_57 ?_
              refine Xm_copies_ld C (by omega) (by omega) rfl dX9_nextOrder_58 ?_
              refine X_icmp_le C (tgt := 66) dX9_nextOrder_59 (by decide) ⟨by omega, by omega⟩ ⟨by omega, by omega⟩ (fun c_59 => ?_) (fun c_59 => ?_)
              · refine X_iconst C dX9_nextOrder_66 ?_
                refine X_istore_3 C (by decide) rfl dX9_nextOrder_67 ?_
                refine X_aload_n C rfl dX9_nextOrder_68 ?_
                refine X_iload_n C rfl dX9_nextOrder_69 ?_
                refine X_callVE_1 C (c_X9_isAll C.hlc (by assumption) (by omega)) cv_X9_199 jG_20 ⟨_, _, rfl⟩ rfl rfl dX9_nextOrder_70 ?_
                refine X_if_neB C (tgt := 84) dX9_nextOrder_73 (by decide) (fun c_73 => ?_) (fun c_73 => ?_)
                · refine X_iload_n C rfl dX9_nextOrder_84 ?_
                  refine X_istore_1 C (by decide) rfl dX9_nextOrder_85 ?_
                  refine X_iinc_2 C (by decide) rfl dX9_nextOrder_86 ?_
                  refine X_goto C (tgt := 4) dX9_nextOrder_89 (by decide) ?_
                  exact ih _ _ (o + 1) (by omega) (by rw [nxA_s ho.1, ← ha, pk_f (fun w => w.1 c_73)]) (by omega)
                · refine X_iload_n C rfl dX9_nextOrder_76 ?_
                  refine X_if_eq C (tgt := 84) dX9_nextOrder_77 (by decide) ⟨by omega, by omega⟩ (fun c_77 => ?_) (fun c_77 => ?_)
                  rotate_left
                  · exfalso; omega
                  refine X_iload_n C rfl dX9_nextOrder_84 ?_
                  refine X_istore_1 C (by decide) rfl dX9_nextOrder_85 ?_
                  refine X_iinc_2 C (by decide) rfl dX9_nextOrder_86 ?_
                  refine X_goto C (tgt := 4) dX9_nextOrder_89 (by decide) ?_
                  exact ih _ _ (o + 1) (by omega) (by rw [nxA_s ho.1, ← ha, pk_f (fun w => by have w2 := w.2; omega)]) (by omega)
              · refine X_iconst C dX9_nextOrder_62 ?_
                refine X_goto C (tgt := 67) dX9_nextOrder_63 (by decide) ?_
                refine X_istore_3 C (by decide) rfl dX9_nextOrder_67 ?_
                refine X_aload_n C rfl dX9_nextOrder_68 ?_
                refine X_iload_n C rfl dX9_nextOrder_69 ?_
                refine X_callVE_1 C (c_X9_isAll C.hlc (by assumption) (by omega)) cv_X9_199 jG_20 ⟨_, _, rfl⟩ rfl rfl dX9_nextOrder_70 ?_
                refine X_if_neB C (tgt := 84) dX9_nextOrder_73 (by decide) (fun c_73 => ?_) (fun c_73 => ?_)
                · refine X_iload_n C rfl dX9_nextOrder_84 ?_
                  refine X_istore_1 C (by decide) rfl dX9_nextOrder_85 ?_
                  refine X_iinc_2 C (by decide) rfl dX9_nextOrder_86 ?_
                  refine X_goto C (tgt := 4) dX9_nextOrder_89 (by decide) ?_
                  exact ih _ _ (o + 1) (by omega) (by rw [nxA_s ho.1, ← ha, pk_f (fun w => w.1 c_73)]) (by omega)
                · refine X_iload_n C rfl dX9_nextOrder_76 ?_
                  refine X_if_eq C (tgt := 84) dX9_nextOrder_77 (by decide) ⟨by omega, by omega⟩ (fun c_77 => ?_) (fun c_77 => ?_)
                  · exfalso; omega
                  refine X_iload_n C rfl dX9_nextOrder_80 ?_
                  refine X_goto C (tgt := 85) dX9_nextOrder_81 (by decide) ?_
                  refine X_istore_1 C (by decide) rfl dX9_nextOrder_85 ?_
                  refine X_iinc_2 C (by decide) rfl dX9_nextOrder_86 ?_
                  refine X_goto C (tgt := 4) dX9_nextOrder_89 (by decide) ?_
                  exact ih _ _ (o + 1) (by omega) (by rw [nxA_s ho.1, ← ha, pk_t ⟨c_73, by omega⟩]) (by omega)
  exact L4 7 (-1) none 0 (by omega) rfl (by omega)
set_option maxRecDepth 100000 in
set_option maxHeartbeats 4000000 in
theorem c_X9_wasted {lc : Launch} (hlc : lc.stackTraces = false) {D : va_G} {Y : Nat → ClassId} {A : Nat → Prop} {τ σ : xS} {ρ : xG} {ad : xL} {n z : Int} (I : xI n σ) (hz0 : rg z) : Ct lc yX9_wasted cX9_wasted 5 (some .int) (rmL 3 0 0) D Y A ad (jG Y τ σ ρ ad) [.ref (ad 20 0), .int (iI z)] (pE (some (.int (iI (mA (kOdr σ z) (wsA σ z) (-1))))) ad (jG Y τ (up σ 40 0 0 (kOdr σ z)) ρ ad)) (pF) := by
  refine Ct_of hlc (by decide +kernel) rfl rfl (own := RX9) (nm := "wasted") (l0 := [some (.ref (ad 20 0)), some (.int (iI z)), none, none, none]) rfl (Nat.le_of_ble_eq_true rfl) (fun κ C M => ?_)
  have Ind := I.nd
  have Inc := I.nc
  have Ino := I.no
  have In := I.n0
  have kf := kOdr_f σ z
  refine X_aload_n C rfl dX9_wasted_0 ?_
  refine X_iload_n C rfl dX9_wasted_1 ?_
  refine X_callVE_1 C (c_X9_asksOrder C.hlc (by assumption) (by omega)) cv_X9_192 jG_20 ⟨_, _, rfl⟩ rfl rfl dX9_wasted_2 ?_
  refine X_if_eqB C (tgt := 12) dX9_wasted_5 (by decide) (fun c_5 => ?_) (fun c_5 => ?_)
  · refine X_iconst C dX9_wasted_12 ?_
    refine X_istore_2 C (by decide) rfl dX9_wasted_13 ?_
    refine X_iconst C dX9_wasted_14 ?_
    refine X_istore_3 C (by decide) rfl dX9_wasted_15 ?_
    refine X_iload_n C rfl dX9_wasted_16 ?_
    refine X_iconst C dX9_wasted_17 ?_
    refine X_icmp_ge C (tgt := 70) dX9_wasted_18 (by decide) ⟨by omega, by omega⟩ ⟨by omega, by omega⟩ (fun c_18 => ?_) (fun c_18 => ?_)
    · exfalso; omega
    refine X_aload_n C rfl dX9_wasted_21 ?_
    refine Xg_X9_thrown C up_s fl_X9_78 dX9_wasted_22 ?_
    refine X_if_ne C (tgt := 70) dX9_wasted_25 (by decide) ⟨by omega, by omega⟩ (fun c_25 => ?_) (fun c_25 => ?_)
    rotate_left
    · exfalso; omega
    refine X_iload_n C rfl dX9_wasted_70 ?_
    exact X_ireturn C M rfl (by decide) (by decide) dX9_wasted_71 ⟨rI (mA_n (k := kOdr σ z) (by first | omega | (unfold kOdr; (repeat' split) <;> omega))).symm, rfl, rfl⟩
  · refine X_iconst C dX9_wasted_8 ?_
    refine X_goto C (tgt := 13) dX9_wasted_9 (by decide) ?_
    refine X_istore_2 C (by decide) rfl dX9_wasted_13 ?_
    refine X_iconst C dX9_wasted_14 ?_
    refine X_istore_3 C (by decide) rfl dX9_wasted_15 ?_
    have L16 : ∀ (n9 : Nat) (a : Int) (w4 : Option Value) (s : Int), (0 ≤ s ∧ s ≤ 3) → (a = wsN σ z s) → 3 - s < (n9 : Int) → X κ D A 5 0 0 16 ([some (.ref (ad 20 0)), some (.int (iI z)), some (.int (iI a)), some (.int (iI s)), w4]) ([]) ad (jG Y τ (up σ 40 0 0 (kOdr σ z)) ρ ad) := by
      intro n9
      induction n9 with
      | zero => intro a w4 s  hs ha hm; exfalso; omega
      | succ n9 ih =>
        intro a w4 s  hs ha hm
        refine X_iload_n C rfl dX9_wasted_16 ?_
        refine X_iconst C dX9_wasted_17 ?_
        refine X_icmp_ge C (tgt := 70) dX9_wasted_18 (by decide) ⟨by omega, by omega⟩ ⟨by omega, by omega⟩ (fun c_18 => ?_) (fun c_18 => ?_)
        · obtain rfl : s = 3 := by omega
          refine X_iload_n C rfl dX9_wasted_70 ?_
          exact X_ireturn C M rfl (by decide) (by decide) dX9_wasted_71 ⟨rI (Eq.trans (show a = wsA σ z from by rw [ha]; exact wsN_3 σ z) (mA_0 (k := kOdr σ z) (by first | omega | (unfold kOdr; (repeat' split) <;> omega))).symm), rfl, rfl⟩
        · refine X_aload_n C rfl dX9_wasted_21 ?_
          refine Xg_X9_thrown C up_s fl_X9_78 dX9_wasted_22 ?_
          refine X_if_ne C (tgt := 70) dX9_wasted_25 (by decide) ⟨by omega, by omega⟩ (fun c_25 => ?_) (fun c_25 => ?_)
          · exfalso; omega
          refine X_aload_n C rfl dX9_wasted_28 ?_
          refine Xg_X9_printings C fl_X9_59 dX9_wasted_29 ?_
          refine X_iconst C dX9_wasted_32 ?_
          refine X_iload_n C rfl dX9_wasted_33 ?_
          refine X_imul C dX9_wasted_34 ?_
          refine X_iload_n C rfl dX9_wasted_35 ?_
          refine X_iadd C dX9_wasted_36 ?_
          refine Xm_printings_ld C (by omega) (by omega) (up_q (by decide)) dX9_wasted_37 ?_
          refine X_istore_4 C (by decide) rfl dX9_wasted_38 ?_
          have u1 := I.pr (3 * z + s) 0
          refine X_iload_n C rfl dX9_wasted_40 ?_
          refine X_iload C rfl dX9_wasted_41 ?_
          refine X_iconst C dX9_wasted_43 ?_
          refine X_icmp_le C (tgt := 61) dX9_wasted_44 (by decide) ⟨by omega, by omega⟩ ⟨by omega, by omega⟩ (fun c_44 => ?_) (fun c_44 => ?_)
          · refine X_iconst C dX9_wasted_61 ?_
            refine X_iadd C dX9_wasted_62 ?_
            refine X_istore_2 C (by decide) rfl dX9_wasted_63 ?_
            refine X_iinc_3 C (by decide) rfl dX9_wasted_64 ?_
            refine X_goto C (tgt := 16) dX9_wasted_67 (by decide) ?_
            exact ih _ _ (s + 1) (by omega) (by unfold wsN at ha ⊢; rw [sumZ_s hs.1, ← ha]; unfold wzA; rw [if_neg (by omega), Int.mul_zero]) (by omega)
          · refine X_aload_n C rfl dX9_wasted_47 ?_
            refine Xg_X9_copies C fl_X9_47 dX9_wasted_48 ?_
            refine X_iload_n C rfl dX9_wasted_51 ?_
            refine Xm_copies_ld C (by omega) (by omega) (up_q (by decide)) dX9_wasted_52 ?_
            refine X_iload C rfl dX9_wasted_53 ?_
            refine X_iconst C dX9_wasted_55 ?_
            refine X_isub C dX9_wasted_56 ?_
            refine X_imul C dX9_wasted_57 ?_
            refine X_goto C (tgt := 62) dX9_wasted_58 (by decide) ?_
            refine X_iadd C dX9_wasted_62 ?_
            refine X_istore_2 C (by decide) rfl dX9_wasted_63 ?_
            refine X_iinc_3 C (by decide) rfl dX9_wasted_64 ?_
            refine X_goto C (tgt := 16) dX9_wasted_67 (by decide) ?_
            exact ih _ _ (s + 1) (by omega) (by unfold wsN at ha ⊢; rw [sumZ_s hs.1, ← ha]; unfold wzA; rw [if_pos (by omega)]) (by omega)
    exact L16 4 0 none 0 (by omega) rfl (by omega)
