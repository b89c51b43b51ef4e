set_option maxRecDepth 100000 in
set_option maxHeartbeats 4000000 in
theorem c_X9_insert {lc : Launch} (hlc : lc.stackTraces = false) {D : va_G} {Y : Nat → ClassId} {A : Nat → Prop} {τ σ : xS} {ρ : xG} {ad : xL} {n z p c : Int} (I : xI n σ) (hz0 : rg z) (hz1 : rg p) (hz2 : rg c) : Ct lc yX9_insert cX9_insert 6 (some .int) (rmL 2 0 0) D Y A ad (jG Y τ σ ρ ad) [.ref (ad 20 0), .int (iI z), .int (iI p), .int (iI c)] (pE (some (.int (iI (mA (kIns σ z p c) (σ 2 z 0 + 1) (-1))))) ad (jG Y τ (mS (kIns σ z p c) (fun σ => mvS (up (up (upR σ 0 (2 * z) (insR (σ 0 (2 * z)) (σ 1 (2 * z) 0) p c)) 1 (2 * z) 0 (σ 1 (2 * z) 0 + 1)) 2 z 0 (σ 2 z 0 + 1)) z p 0 1 (σ 31 0 0)) σ) ρ ad)) (pF) := by
  refine Ct_of hlc (by decide +kernel) rfl rfl (own := RX9) (nm := "insert") (l0 := [some (.ref (ad 20 0)), some (.int (iI z)), some (.int (iI p)), some (.int (iI c)), none, none]) rfl (Nat.le_of_ble_eq_true rfl) (fun κ C M => ?_)
  have Ind := I.nd
  have Inc := I.nc
  have Ino := I.no
  have In := I.n0
  refine X_aload_n C rfl dX9_insert_0 ?_
  refine X_iload_n C rfl dX9_insert_1 ?_
  refine X_callVE_1 C (c_X9_isDocument C.hlc (by assumption) (by omega)) cv_X9_105 jG_20 ⟨_, _, rfl⟩ rfl rfl dX9_insert_2 ?_
  refine X_if_eqB C (tgt := 24) dX9_insert_5 (by decide) (fun c_5 => ?_) (fun c_5 => ?_)
  · refine X_aload_n C rfl dX9_insert_24 ?_
    refine X_aload_n C rfl dX9_insert_25 ?_
    refine X_iload_n C rfl dX9_insert_26 ?_
    refine X_callVE_1 C (c_X9_isDocument C.hlc (by assumption) (by omega)) cv_X9_105 jG_20 ⟨_, _, rfl⟩ rfl rfl dX9_insert_27 ?_
    refine X_if_neB C (tgt := 37) dX9_insert_30 (by decide) (fun c_30 => ?_) (fun c_30 => ?_)
    · refine X_iconst C dX9_insert_37 ?_
      refine Xp_X9_thrown C fw_X9_78 dX9_insert_38 ?_
      refine X_iconst C dX9_insert_41 ?_
      exact X_ireturn C M rfl (by decide) (by decide) dX9_insert_42 ⟨rI (mA_n (k := kIns σ z p c) (by first | omega | (unfold kIns; (repeat' split) <;> omega))).symm, rfl, by rw [mS_n (k := kIns σ z p c) (v := 2) (by first | omega | (unfold kIns; (repeat' split) <;> omega)) (by decide)]⟩
    · refine X_iconst C dX9_insert_33 ?_
      refine X_goto C (tgt := 38) dX9_insert_34 (by decide) ?_
      refine Xp_X9_thrown C fw_X9_78 dX9_insert_38 ?_
      refine X_iconst C dX9_insert_41 ?_
      exact X_ireturn C M rfl (by decide) (by decide) dX9_insert_42 ⟨rI (mA_n (k := kIns σ z p c) (by first | omega | (unfold kIns; (repeat' split) <;> omega))).symm, rfl, by rw [mS_n (k := kIns σ z p c) (v := 1) (by first | omega | (unfold kIns; (repeat' split) <;> omega)) (by decide)]⟩
  · refine X_iload_n C rfl dX9_insert_8 ?_
    refine X_i2l C ⟨by omega, by omega⟩ dX9_insert_9 ?_
    refine X_lconst C (v := 0) rfl dX9_insert_10 ?_
    refine X_aload_n C rfl dX9_insert_11 ?_
    refine Xg_X9_lengths C fl_X9_13 dX9_insert_12 ?_
    have k1 := I.sz (2 * z) 0
    refine X_iload_n C rfl dX9_insert_15 ?_
    refine Xm_lengths_ld C (by omega) (by omega) rfl dX9_insert_16 ?_
    refine X_i2l C ⟨by omega, by omega⟩ dX9_insert_17 ?_
    refine X_callSE_3 C (c_X9_in C.hlc (by omega) (by omega) (by omega)) cs_X9_84 rfl rfl dX9_insert_18 ?_
    refine X_if_neB C (tgt := 43) dX9_insert_21 (by decide) (fun c_21 => ?_) (fun c_21 => ?_)
    · refine X_aload_n C rfl dX9_insert_43 ?_
      refine X_iload_n C rfl dX9_insert_44 ?_
      refine X_iload_n C rfl dX9_insert_45 ?_
      refine X_iconst C dX9_insert_46 ?_
      refine X_callVE_3 C (c_X9_barOf C.hlc (by assumption) (by omega) (by have := I.sz (2 * z) 0; omega) (by omega)) cv_X9_109 jG_20 ⟨_, _, rfl⟩ rfl rfl dX9_insert_47 ?_
      have hv := brA_v σ z p 1
      have k1 := I.sz (2 * z) 0
      refine X_bipush C ⟨by decide, by decide⟩ dX9_insert_50 ?_
      refine X_icmp_eq C (tgt := 59) dX9_insert_52 (by decide) ⟨by omega, by omega⟩ ⟨by omega, by omega⟩ (fun c_52 => ?_) (fun c_52 => ?_)
      · refine X_iconst C dX9_insert_59 ?_
        refine X_istore_4 C (by decide) rfl dX9_insert_60 ?_
        refine X_aload_n C rfl dX9_insert_62 ?_
        refine X_iload_n C rfl dX9_insert_63 ?_
        refine X_callSE_1 C (c_X9_isCode C.hlc (by omega)) cs_X9_113 rfl rfl dX9_insert_64 ?_
        refine X_if_neB C (tgt := 74) dX9_insert_67 (by decide) (fun c_67 => ?_) (fun c_67 => ?_)
        · refine X_aload_n C rfl dX9_insert_74 ?_
          refine Xg_X9_lengths C fl_X9_13 dX9_insert_75 ?_
          refine X_iload_n C rfl dX9_insert_78 ?_
          refine Xm_lengths_ld C (by omega) (by omega) rfl dX9_insert_79 ?_
          refine X_bipush C ⟨by decide, by decide⟩ dX9_insert_80 ?_
          refine X_icmp_ne C (tgt := 89) dX9_insert_82 (by decide) ⟨by omega, by omega⟩ ⟨by omega, by omega⟩ (fun c_82 => ?_) (fun c_82 => ?_)
          · refine X_iload C rfl dX9_insert_89 ?_
            refine X_if_eq C (tgt := 98) dX9_insert_91 (by decide) ⟨by omega, by omega⟩ (fun c_91 => ?_) (fun c_91 => ?_)
            rotate_left
            · exfalso; omega
            refine X_iconst C dX9_insert_98 ?_
            refine Xp_X9_thrown C fw_X9_78 dX9_insert_99 ?_
            refine X_aload_n C rfl dX9_insert_102 ?_
            refine Xg_X9_thrown C up_s fl_X9_78 dX9_insert_103 ?_
            refine X_if_le C (tgt := 111) dX9_insert_106 (by decide) ⟨by omega, by omega⟩ (fun c_106 => ?_) (fun c_106 => ?_)
            rotate_left
            · exfalso; omega
            have k9 := I.sz (2 * z) 0
            refine X_aload_n C rfl dX9_insert_111 ?_
            refine Xg_X9_lengths C fl_X9_13 dX9_insert_112 ?_
            refine X_iload_n C rfl dX9_insert_115 ?_
            refine Xm_lengths_ld C (by omega) (by omega) (v := σ 1 (2 * z) 0) (by simp (discharger := decide) only [up_r, upR_r, up_s, mvS_r]) dX9_insert_116 ?_
            refine X_istore_5 C (by decide) rfl dX9_insert_117 ?_
            have L119 : ∀ (n9 : Nat) (i : Int), (p ≤ i ∧ i ≤ σ 1 (2 * z) 0) → i - p < (n9 : Int) → X κ D A 6 0 0 119 ([some (.ref (ad 20 0)), some (.int (iI z)), some (.int (iI p)), some (.int (iI c)), some (.int (iI 0)), some (.int (iI i))]) ([]) ad (jG Y τ (upR (up σ 40 0 0 0) 0 (2 * z) (shR (σ 0 (2 * z)) i (σ 1 (2 * z) 0))) ρ ad) := by
              intro n9
              induction n9 with
              | zero => intro i  hi hm; exfalso; omega
              | succ n9 ih =>
                intro i  hi hm
                refine X_iload C rfl dX9_insert_119 ?_
                refine X_iload_n C rfl dX9_insert_121 ?_
                refine X_icmp_le C (tgt := 157) dX9_insert_122 (by decide) ⟨by omega, by omega⟩ ⟨by omega, by omega⟩ (fun c_122 => ?_) (fun c_122 => ?_)
                · obtain rfl : p = i := by omega
                  refine X_aload_n C rfl dX9_insert_157 ?_
                  refine Xg_X9_texts C fl_X9_7 dX9_insert_158 ?_
                  refine X_bipush C ⟨by decide, by decide⟩ dX9_insert_161 ?_
                  refine X_iload_n C rfl dX9_insert_163 ?_
                  refine X_imul C dX9_insert_164 ?_
                  refine X_iload_n C rfl dX9_insert_165 ?_
                  refine X_iadd C dX9_insert_166 ?_
                  refine X_iload_n C rfl dX9_insert_167 ?_
                  refine Xm_texts_st C z p (by omega) (by omega) ⟨by omega, by omega⟩ (by omega) dX9_insert_168 ?_
                  rw [insR_e]
                  refine X_aload_n C rfl dX9_insert_169 ?_
                  refine Xg_X9_lengths C fl_X9_13 dX9_insert_170 ?_
                  refine X_iload_n C rfl dX9_insert_173 ?_
                  refine X_dup2 C rfl rfl dX9_insert_174 ?_
                  refine Xm_lengths_ld C (by omega) (by omega) (v := σ 1 (2 * z) 0) (by simp (discharger := decide) only [up_r, upR_r, up_s, mvS_r]) dX9_insert_175 ?_
                  refine X_iconst C dX9_insert_176 ?_
                  refine X_iadd C dX9_insert_177 ?_
                  refine Xm_lengths_st C (by omega) (by omega) dX9_insert_178 ?_
                  refine X_aload_n C rfl dX9_insert_179 ?_
                  refine Xg_X9_versions C fl_X9_16 dX9_insert_180 ?_
                  refine X_iload_n C rfl dX9_insert_183 ?_
                  refine X_dup2 C rfl rfl dX9_insert_184 ?_
                  refine Xm_versions_ld C (by omega) (by omega) (v := σ 2 z 0) (by simp (discharger := decide) only [up_r, upR_r, up_s, mvS_r]) dX9_insert_185 ?_
                  refine X_iconst C dX9_insert_186 ?_
                  refine X_iadd C dX9_insert_187 ?_
                  refine Xm_versions_st C (by omega) (by omega) dX9_insert_188 ?_
                  refine X_aload_n C rfl dX9_insert_189 ?_
                  refine X_iload_n C rfl dX9_insert_190 ?_
                  refine X_iload_n C rfl dX9_insert_191 ?_
                  refine X_iconst C dX9_insert_192 ?_
                  refine X_callVE0_3 C (c_X9_moves_p (n := 0) C.hlc (by simp (discharger := decide) only [up_r, upR_r, up_s, mvS_r]; exact I.nc) (by simp (discharger := decide) only [up_r, upR_r, up_s, mvS_r]; omega) (by simp (discharger := decide) only [up_r, upR_r, up_s, mvS_r]; omega) (by omega) (by simp (discharger := decide) only [up_r, upR_r, up_s, mvS_r]; exact I.on) (by simp (discharger := decide) only [up_r, upR_r, up_s, mvS_r]; exact I.op) (by simp (discharger := decide) only [up_r, upR_r, up_s, mvS_r]; exact I.fr)) cv_X9_116 jG_20 ⟨_, _, rfl⟩ rfl rfl dX9_insert_193 ?_
                  refine X_aload_n C rfl dX9_insert_196 ?_
                  refine Xg_X9_versions C fl_X9_16 dX9_insert_197 ?_
                  refine X_iload_n C rfl dX9_insert_200 ?_
                  refine Xm_versions_ld C (by omega) (by omega) (v := σ 2 z 0 + 1) (by simp (discharger := decide) only [up_r, upR_r, up_s, mvS_r]) dX9_insert_201 ?_
                  exact X_ireturn C M rfl (by decide) (by decide) dX9_insert_202 ⟨rI (Eq.trans (by rfl) (mA_0 (k := kIns σ z p c) (by first | omega | (unfold kIns; (repeat' split) <;> omega))).symm), rfl, by rw [mS_0 (k := kIns σ z p c) (by first | omega | (unfold kIns; (repeat' split) <;> omega))]; all_goals rfl⟩
                · refine X_aload_n C rfl dX9_insert_125 ?_
                  refine Xg_X9_texts C fl_X9_7 dX9_insert_126 ?_
                  refine X_bipush C ⟨by decide, by decide⟩ dX9_insert_129 ?_
                  refine X_iload_n C rfl dX9_insert_131 ?_
                  refine X_imul C dX9_insert_132 ?_
                  refine X_iload C rfl dX9_insert_133 ?_
                  refine X_iadd C dX9_insert_135 ?_
                  refine X_aload_n C rfl dX9_insert_136 ?_
                  refine Xg_X9_texts C fl_X9_7 dX9_insert_137 ?_
                  refine X_bipush C ⟨by decide, by decide⟩ dX9_insert_140 ?_
                  refine X_iload_n C rfl dX9_insert_142 ?_
                  refine X_imul C dX9_insert_143 ?_
                  refine X_iload C rfl dX9_insert_144 ?_
                  refine X_iadd C dX9_insert_146 ?_
                  refine X_iconst C dX9_insert_147 ?_
                  refine X_isub C dX9_insert_148 ?_
                  refine Xm_texts_ld C z (i - 1) (by omega) (by omega) ⟨by omega, by omega⟩ (by omega) (v := σ 0 (2 * z) (i - 1)) (by rw [upR_s]; unfold shR; rw [if_neg (by omega)]) dX9_insert_149 ?_
                  refine Xm_texts_st C z i (by omega) (by omega) ⟨by omega, by omega⟩ (by omega) dX9_insert_150 ?_
                  refine X_iinc_5 C (by decide) rfl dX9_insert_151 ?_
                  refine X_goto C (tgt := 119) dX9_insert_154 (by decide) ?_
                  rw [shR_s hi.2]
                  exact ih (i + -1) (by omega) (by omega)
            have h9 := L119 81 (σ 1 (2 * z) 0) (by omega) (by omega)
            rw [shR_0, show upR (up σ 40 0 0 0) 0 (2 * z) (σ 0 (2 * z)) = (up σ 40 0 0 0) from by rw [show σ 0 (2 * z) = (up σ 40 0 0 0) 0 (2 * z) from by rw [up_r (by decide)]]; exact upR_self] at h9
            exact h9
          · refine X_iconst C dX9_insert_85 ?_
            refine X_goto C (tgt := 99) dX9_insert_86 (by decide) ?_
            refine Xp_X9_thrown C fw_X9_78 dX9_insert_99 ?_
            refine X_aload_n C rfl dX9_insert_102 ?_
            refine Xg_X9_thrown C up_s fl_X9_78 dX9_insert_103 ?_
            refine X_if_le C (tgt := 111) dX9_insert_106 (by decide) ⟨by omega, by omega⟩ (fun c_106 => ?_) (fun c_106 => ?_)
            · exfalso; omega
            refine X_iconst C dX9_insert_109 ?_
            exact X_ireturn C M rfl (by decide) (by decide) dX9_insert_110 ⟨rI (mA_n (k := kIns σ z p c) (by first | omega | (unfold kIns; (repeat' split) <;> omega))).symm, rfl, by rw [mS_n (k := kIns σ z p c) (v := 4) (by first | omega | (unfold kIns; (repeat' split) <;> omega)) (by decide)]⟩
        · refine X_iconst C dX9_insert_70 ?_
          refine X_goto C (tgt := 99) dX9_insert_71 (by decide) ?_
          refine Xp_X9_thrown C fw_X9_78 dX9_insert_99 ?_
          refine X_aload_n C rfl dX9_insert_102 ?_
          refine Xg_X9_thrown C up_s fl_X9_78 dX9_insert_103 ?_
          refine X_if_le C (tgt := 111) dX9_insert_106 (by decide) ⟨by omega, by omega⟩ (fun c_106 => ?_) (fun c_106 => ?_)
          · exfalso; omega
          refine X_iconst C dX9_insert_109 ?_
          exact X_ireturn C M rfl (by decide) (by decide) dX9_insert_110 ⟨rI (mA_n (k := kIns σ z p c) (by first | omega | (unfold kIns; (repeat' split) <;> omega))).symm, rfl, by rw [mS_n (k := kIns σ z p c) (v := 3) (by first | omega | (unfold kIns; (repeat' split) <;> omega)) (by decide)]⟩
      · refine X_iconst C dX9_insert_55 ?_
        refine X_goto C (tgt := 60) dX9_insert_56 (by decide) ?_
        refine X_istore_4 C (by decide) rfl dX9_insert_60 ?_
        refine X_aload_n C rfl dX9_insert_62 ?_
        refine X_iload_n C rfl dX9_insert_63 ?_
        refine X_callSE_1 C (c_X9_isCode C.hlc (by omega)) cs_X9_113 rfl rfl dX9_insert_64 ?_
        refine X_if_neB C (tgt := 74) dX9_insert_67 (by decide) (fun c_67 => ?_) (fun c_67 => ?_)
        · refine X_aload_n C rfl dX9_insert_74 ?_
          refine Xg_X9_lengths C fl_X9_13 dX9_insert_75 ?_
          refine X_iload_n C rfl dX9_insert_78 ?_
          refine Xm_lengths_ld C (by omega) (by omega) rfl dX9_insert_79 ?_
          refine X_bipush C ⟨by decide, by decide⟩ dX9_insert_80 ?_
          refine X_icmp_ne C (tgt := 89) dX9_insert_82 (by decide) ⟨by omega, by omega⟩ ⟨by omega, by omega⟩ (fun c_82 => ?_) (fun c_82 => ?_)
          · refine X_iload C rfl dX9_insert_89 ?_
            refine X_if_eq C (tgt := 98) dX9_insert_91 (by decide) ⟨by omega, by omega⟩ (fun c_91 => ?_) (fun c_91 => ?_)
            · exfalso; omega
            refine X_iconst C dX9_insert_94 ?_
            refine X_goto C (tgt := 99) dX9_insert_95 (by decide) ?_
            refine Xp_X9_thrown C fw_X9_78 dX9_insert_99 ?_
            refine X_aload_n C rfl dX9_insert_102 ?_
            refine Xg_X9_thrown C up_s fl_X9_78 dX9_insert_103 ?_
            refine X_if_le C (tgt := 111) dX9_insert_106 (by decide) ⟨by omega, by omega⟩ (fun c_106 => ?_) (fun c_106 => ?_)
            · exfalso; omega
            refine X_iconst C dX9_insert_109 ?_
            exact X_ireturn C M rfl (by decide) (by decide) dX9_insert_110 ⟨rI (mA_n (k := kIns σ z p c) (by first | omega | (unfold kIns; (repeat' split) <;> omega))).symm, rfl, by rw [mS_n (k := kIns σ z p c) (v := 5) (by first | omega | (unfold kIns; (repeat' split) <;> omega)) (by decide)]⟩
          · refine X_iconst C dX9_insert_85 ?_
            refine X_goto C (tgt := 99) dX9_insert_86 (by decide) ?_
            refine Xp_X9_thrown C fw_X9_78 dX9_insert_99 ?_
            refine X_aload_n C rfl dX9_insert_102 ?_
            refine Xg_X9_thrown C up_s fl_X9_78 dX9_insert_103 ?_
            refine X_if_le C (tgt := 111) dX9_insert_106 (by decide) ⟨by omega, by omega⟩ (fun c_106 => ?_) (fun c_106 => ?_)
            · exfalso; omega
            refine X_iconst C dX9_insert_109 ?_
            exact X_ireturn C M rfl (by decide) (by decide) dX9_insert_110 ⟨rI (mA_n (k := kIns σ z p c) (by first | omega | (unfold kIns; (repeat' split) <;> omega))).symm, rfl, by rw [mS_n (k := kIns σ z p c) (v := 4) (by first | omega | (unfold kIns; (repeat' split) <;> omega)) (by decide)]⟩
        · refine X_iconst C dX9_insert_70 ?_
          refine X_goto C (tgt := 99) dX9_insert_71 (by decide) ?_
          refine Xp_X9_thrown C fw_X9_78 dX9_insert_99 ?_
          refine X_aload_n C rfl dX9_insert_102 ?_
          refine Xg_X9_thrown C up_s fl_X9_78 dX9_insert_103 ?_
          refine X_if_le C (tgt := 111) dX9_insert_106 (by decide) ⟨by omega, by omega⟩ (fun c_106 => ?_) (fun c_106 => ?_)
          · exfalso; omega
          refine X_iconst C dX9_insert_109 ?_
          exact X_ireturn C M rfl (by decide) (by decide) dX9_insert_110 ⟨rI (mA_n (k := kIns σ z p c) (by first | omega | (unfold kIns; (repeat' split) <;> omega))).symm, rfl, by rw [mS_n (k := kIns σ z p c) (v := 3) (by first | omega | (unfold kIns; (repeat' split) <;> omega)) (by decide)]⟩
    · refine X_aload_n C rfl dX9_insert_24 ?_
      refine X_aload_n C rfl dX9_insert_25 ?_
      refine X_iload_n C rfl dX9_insert_26 ?_
      refine X_callVE_1 C (c_X9_isDocument C.hlc (by assumption) (by omega)) cv_X9_105 jG_20 ⟨_, _, rfl⟩ rfl rfl dX9_insert_27 ?_
      refine X_if_neB C (tgt := 37) dX9_insert_30 (by decide) (fun c_30 => ?_) (fun c_30 => ?_)
      · refine X_iconst C dX9_insert_37 ?_
        refine Xp_X9_thrown C fw_X9_78 dX9_insert_38 ?_
        refine X_iconst C dX9_insert_41 ?_
        exact X_ireturn C M rfl (by decide) (by decide) dX9_insert_42 ⟨rI (mA_n (k := kIns σ z p c) (by first | omega | (unfold kIns; (repeat' split) <;> omega))).symm, rfl, by rw [mS_n (k := kIns σ z p c) (v := 2) (by first | omega | (unfold kIns; (repeat' split) <;> omega)) (by decide)]⟩
      · refine X_iconst C dX9_insert_33 ?_
        refine X_goto C (tgt := 38) dX9_insert_34 (by decide) ?_
        refine Xp_X9_thrown C fw_X9_78 dX9_insert_38 ?_
        refine X_iconst C dX9_insert_41 ?_
        exact X_ireturn C M rfl (by decide) (by decide) dX9_insert_42 ⟨rI (mA_n (k := kIns σ z p c) (by first | omega | (unfold kIns; (repeat' split) <;> omega))).symm, rfl, by rw [mS_n (k := kIns σ z p c) (v := 1) (by first | omega | (unfold kIns; (repeat' split) <;> omega)) (by decide)]⟩
set_option maxRecDepth 100000 in
set_option maxHeartbeats 4000000 in
theorem c_X9_delete {lc : Launch} (hlc : lc.stackTraces = false) {D : va_G} {Y : Nat → ClassId} {A : Nat → Prop} {τ σ : xS} {ρ : xG} {ad : xL} {n z p : Int} (I : xI n σ) (hz0 : rg z) (hz1 : rg p) : Ct lc yX9_delete cX9_delete 5 (some .int) (rmL 2 0 0) D Y A ad (jG Y τ σ ρ ad) [.ref (ad 20 0), .int (iI z), .int (iI p)] (pE (some (.int (iI (mA (kDel σ z p) (tAt σ (2 * z) p) (-1))))) ad (jG Y τ (mS (kDel σ z p) (fun σ => mvS (up (up (upR σ 0 (2 * z) (dlR (σ 0 (2 * z)) p (σ 1 (2 * z) 0 - 1))) 1 (2 * z) 0 (σ 1 (2 * z) 0 - 1)) 2 z 0 (σ 2 z 0 + 1)) z p 1 (-1) (σ 31 0 0)) σ) ρ ad)) (pF) := by
  refine Ct_of hlc (by decide +kernel) rfl rfl (own := RX9) (nm := "delete") (l0 := [some (.ref (ad 20 0)), some (.int (iI z)), some (.int (iI p)), none, none]) rfl (Nat.le_of_ble_eq_true rfl) (fun κ C M => ?_)
  have Ind := I.nd
  have Inc := I.nc
  have Ino := I.no
  have In := I.n0
  refine X_aload_n C rfl dX9_delete_0 ?_
  refine X_iload_n C rfl dX9_delete_1 ?_
  refine X_callVE_1 C (c_X9_isDocument C.hlc (by assumption) (by omega)) cv_X9_105 jG_20 ⟨_, _, rfl⟩ rfl rfl dX9_delete_2 ?_
  refine X_if_eqB C (tgt := 26) dX9_delete_5 (by decide) (fun c_5 => ?_) (fun c_5 => ?_)
  · refine X_aload_n C rfl dX9_delete_26 ?_
    refine X_aload_n C rfl dX9_delete_27 ?_
    refine X_iload_n C rfl dX9_delete_28 ?_
    refine X_callVE_1 C (c_X9_isDocument C.hlc (by assumption) (by omega)) cv_X9_105 jG_20 ⟨_, _, rfl⟩ rfl rfl dX9_delete_29 ?_
    refine X_if_neB C (tgt := 39) dX9_delete_32 (by decide) (fun c_32 => ?_) (fun c_32 => ?_)
    · refine X_iconst C dX9_delete_39 ?_
      refine Xp_X9_thrown C fw_X9_78 dX9_delete_40 ?_
      refine X_iconst C dX9_delete_43 ?_
      exact X_ireturn C M rfl (by decide) (by decide) dX9_delete_44 ⟨rI (mA_n (k := kDel σ z p) (by first | omega | (unfold kDel; (repeat' split) <;> omega))).symm, rfl, by rw [mS_n (k := kDel σ z p) (v := 2) (by first | omega | (unfold kDel; (repeat' split) <;> omega)) (by decide)]⟩
    · refine X_iconst C dX9_delete_35 ?_
      refine X_goto C (tgt := 40) dX9_delete_36 (by decide) ?_
      refine Xp_X9_thrown C fw_X9_78 dX9_delete_40 ?_
      refine X_iconst C dX9_delete_43 ?_
      exact X_ireturn C M rfl (by decide) (by decide) dX9_delete_44 ⟨rI (mA_n (k := kDel σ z p) (by first | omega | (unfold kDel; (repeat' split) <;> omega))).symm, rfl, by rw [mS_n (k := kDel σ z p) (v := 1) (by first | omega | (unfold kDel; (repeat' split) <;> omega)) (by decide)]⟩
  · refine X_iload_n C rfl dX9_delete_8 ?_
    refine X_i2l C ⟨by omega, by omega⟩ dX9_delete_9 ?_
    refine X_lconst C (v := 0) rfl dX9_delete_10 ?_
    refine X_aload_n C rfl dX9_delete_11 ?_
    refine Xg_X9_lengths C fl_X9_13 dX9_delete_12 ?_
    refine X_iload_n C rfl dX9_delete_15 ?_
    refine Xm_lengths_ld C (by omega) (by omega) rfl dX9_delete_16 ?_
    have k1 := I.sz (2 * z) 0
    refine X_iconst C dX9_delete_17 ?_
    refine X_isub C dX9_delete_18 ?_
    refine X_i2l C ⟨by omega, by omega⟩ dX9_delete_19 ?_
    refine X_callSE_3 C (c_X9_in C.hlc (by omega) (by omega) (by omega)) cs_X9_84 rfl rfl dX9_delete_20 ?_
    refine X_if_neB C (tgt := 45) dX9_delete_23 (by decide) (fun c_23 => ?_) (fun c_23 => ?_)
    · refine X_aload_n C rfl dX9_delete_45 ?_
      refine X_aload_n C rfl dX9_delete_46 ?_
      refine X_iload_n C rfl dX9_delete_47 ?_
      refine X_iload_n C rfl dX9_delete_48 ?_
      refine X_iconst C dX9_delete_49 ?_
      refine X_callVE_3 C (c_X9_barOf C.hlc (by assumption) (by omega) (by have := I.sz (2 * z) 0; omega) (by omega)) cv_X9_109 jG_20 ⟨_, _, rfl⟩ rfl rfl dX9_delete_50 ?_
      have hv := brA_v σ z p 0
      have k1 := I.sz (2 * z) 0
      refine X_bipush C ⟨by decide, by decide⟩ dX9_delete_53 ?_
      refine X_icmp_eq C (tgt := 62) dX9_delete_55 (by decide) ⟨by omega, by omega⟩ ⟨by omega, by omega⟩ (fun c_55 => ?_) (fun c_55 => ?_)
      · refine X_iconst C dX9_delete_62 ?_
        refine Xp_X9_thrown C fw_X9_78 dX9_delete_63 ?_
        refine X_aload_n C rfl dX9_delete_66 ?_
        refine Xg_X9_thrown C up_s fl_X9_78 dX9_delete_67 ?_
        refine X_if_le C (tgt := 75) dX9_delete_70 (by decide) ⟨by omega, by omega⟩ (fun c_70 => ?_) (fun c_70 => ?_)
        rotate_left
        · exfalso; omega
        have k9 := I.sz (2 * z) 0
        refine X_aload_n C rfl dX9_delete_75 ?_
        refine Xg_X9_texts C fl_X9_7 dX9_delete_76 ?_
        refine X_bipush C ⟨by decide, by decide⟩ dX9_delete_79 ?_
        refine X_iload_n C rfl dX9_delete_81 ?_
        refine X_imul C dX9_delete_82 ?_
        refine X_iload_n C rfl dX9_delete_83 ?_
        refine X_iadd C dX9_delete_84 ?_
        refine Xm_texts_ld C z p (by omega) (by omega) ⟨by omega, by omega⟩ (by omega) (up_q (by decide)) dX9_delete_85 ?_
        refine X_istore_3 C (by decide) rfl dX9_delete_86 ?_
        refine X_iload_n C rfl dX9_delete_87 ?_
        refine X_istore_4 C (by decide) rfl dX9_delete_88 ?_
        have L90 : ∀ (n9 : Nat) (i : Int), (p ≤ i ∧ i ≤ σ 1 (2 * z) 0 - 1) → σ 1 (2 * z) 0 - 1 - i < (n9 : Int) → X κ D A 5 0 0 90 ([some (.ref (ad 20 0)), some (.int (iI z)), some (.int (iI p)), some (.int (iI (σ 0 (2 * z) p))), some (.int (iI i))]) ([]) ad (jG Y τ (upR (up σ 40 0 0 0) 0 (2 * z) (dlR (σ 0 (2 * z)) p i)) ρ ad) := by
          intro n9
          induction n9 with
          | zero => intro i  hi hm; exfalso; omega
          | succ n9 ih =>
            intro i  hi hm
            refine X_iload C rfl dX9_delete_90 ?_
            refine X_aload_n C rfl dX9_delete_92 ?_
            refine Xg_X9_lengths C fl_X9_13 dX9_delete_93 ?_
            refine X_iload_n C rfl dX9_delete_96 ?_
            refine Xm_lengths_ld C (by omega) (by omega) (v := σ 1 (2 * z) 0) (by simp (discharger := decide) only [up_r, upR_r, up_s, mvS_r]) dX9_delete_97 ?_
            refine X_iconst C dX9_delete_98 ?_
            refine X_isub C dX9_delete_99 ?_
            refine X_icmp_ge C (tgt := 135) dX9_delete_100 (by decide) ⟨by omega, by omega⟩ ⟨by omega, by omega⟩ (fun c_100 => ?_) (fun c_100 => ?_)
            · obtain rfl : i = σ 1 (2 * z) 0 - 1 := by omega
              refine X_aload_n C rfl dX9_delete_135 ?_
              refine Xg_X9_lengths C fl_X9_13 dX9_delete_136 ?_
              refine X_iload_n C rfl dX9_delete_139 ?_
              refine X_dup2 C rfl rfl dX9_delete_140 ?_
              refine Xm_lengths_ld C (by omega) (by omega) (v := σ 1 (2 * z) 0) (by simp (discharger := decide) only [up_r, upR_r, up_s, mvS_r]) dX9_delete_141 ?_
              refine X_iconst C dX9_delete_142 ?_
              refine X_isub C dX9_delete_143 ?_
              refine Xm_lengths_st C (by omega) (by omega) dX9_delete_144 ?_
              refine X_aload_n C rfl dX9_delete_145 ?_
              refine Xg_X9_versions C fl_X9_16 dX9_delete_146 ?_
              refine X_iload_n C rfl dX9_delete_149 ?_
              refine X_dup2 C rfl rfl dX9_delete_150 ?_
              refine Xm_versions_ld C (by omega) (by omega) (v := σ 2 z 0) (by simp (discharger := decide) only [up_r, upR_r, up_s, mvS_r]) dX9_delete_151 ?_
              refine X_iconst C dX9_delete_152 ?_
              refine X_iadd C dX9_delete_153 ?_
              refine Xm_versions_st C (by omega) (by omega) dX9_delete_154 ?_
              refine X_aload_n C rfl dX9_delete_155 ?_
              refine X_iload_n C rfl dX9_delete_156 ?_
              refine X_iload_n C rfl dX9_delete_157 ?_
              refine X_iconst C dX9_delete_158 ?_
              refine X_callVE0_3 C (c_X9_moves_m (n := 0) C.hlc (by simp (discharger := decide) only [up_r, upR_r, up_s, mvS_r]; exact I.nc) (by simp (discharger := decide) only [up_r, upR_r, up_s, mvS_r]; omega) (by simp (discharger := decide) only [up_r, upR_r, up_s, mvS_r]; omega) (by omega) (by simp (discharger := decide) only [up_r, upR_r, up_s, mvS_r]; exact I.on) (by simp (discharger := decide) only [up_r, upR_r, up_s, mvS_r]; exact I.op) (by simp (discharger := decide) only [up_r, upR_r, up_s, mvS_r]; exact I.fr)) cv_X9_116 jG_20 ⟨_, _, rfl⟩ rfl rfl dX9_delete_159 ?_
              refine X_iload_n C rfl dX9_delete_162 ?_
              exact X_ireturn C M rfl (by decide) (by decide) dX9_delete_163 ⟨rI (Eq.trans (show _ = tAt σ (2 * z) p from by unfold tAt; rw [if_pos (by omega)]) (mA_0 (k := kDel σ z p) (by first | omega | (unfold kDel; (repeat' split) <;> omega))).symm), rfl, by rw [mS_0 (k := kDel σ z p) (by first | omega | (unfold kDel; (repeat' split) <;> omega))]; all_goals rfl⟩
            · refine X_aload_n C rfl dX9_delete_103 ?_
              refine Xg_X9_texts C fl_X9_7 dX9_delete_104 ?_
              refine X_bipush C ⟨by decide, by decide⟩ dX9_delete_107 ?_
              refine X_iload_n C rfl dX9_delete_109 ?_
              refine X_imul C dX9_delete_110 ?_
              refine X_iload C rfl dX9_delete_111 ?_
              refine X_iadd C dX9_delete_113 ?_
              refine X_aload_n C rfl dX9_delete_114 ?_
              refine Xg_X9_texts C fl_X9_7 dX9_delete_115 ?_
              refine X_bipush C ⟨by decide, by decide⟩ dX9_delete_118 ?_
              refine X_iload_n C rfl dX9_delete_120 ?_
              refine X_imul C dX9_delete_121 ?_
              refine X_iload C rfl dX9_delete_122 ?_
              refine X_iadd C dX9_delete_124 ?_
              refine X_iconst C dX9_delete_125 ?_
              refine X_iadd C dX9_delete_126 ?_
              refine Xm_texts_ld C z (i + 1) (by omega) (by omega) ⟨by omega, by omega⟩ (by omega) (v := σ 0 (2 * z) (i + 1)) (by rw [upR_s]; unfold dlR; rw [if_neg (by omega)]) dX9_delete_127 ?_
              refine Xm_texts_st C z i (by omega) (by omega) ⟨by omega, by omega⟩ (by omega) dX9_delete_128 ?_
              refine X_iinc_4 C (by decide) rfl dX9_delete_129 ?_
              refine X_goto C (tgt := 90) dX9_delete_132 (by decide) ?_
              rw [dlR_s hi.1]
              exact ih (i + 1) (by omega) (by omega)
        have h9 := L90 81 p (by omega) (by omega)
        rw [dlR_0, show upR (up σ 40 0 0 0) 0 (2 * z) (σ 0 (2 * z)) = (up σ 40 0 0 0) from by rw [show σ 0 (2 * z) = (up σ 40 0 0 0) 0 (2 * z) from by rw [up_r (by decide)]]; exact upR_self] at h9
        exact h9
      · refine X_iconst C dX9_delete_58 ?_
        refine X_goto C (tgt := 63) dX9_delete_59 (by decide) ?_
        refine Xp_X9_thrown C fw_X9_78 dX9_delete_63 ?_
        refine X_aload_n C rfl dX9_delete_66 ?_
        refine Xg_X9_thrown C up_s fl_X9_78 dX9_delete_67 ?_
        refine X_if_le C (tgt := 75) dX9_delete_70 (by decide) ⟨by omega, by omega⟩ (fun c_70 => ?_) (fun c_70 => ?_)
        · exfalso; omega
        refine X_iconst C dX9_delete_73 ?_
        exact X_ireturn C M rfl (by decide) (by decide) dX9_delete_74 ⟨rI (mA_n (k := kDel σ z p) (by first | omega | (unfold kDel; (repeat' split) <;> omega))).symm, rfl, by rw [mS_n (k := kDel σ z p) (v := 3) (by first | omega | (unfold kDel; (repeat' split) <;> omega)) (by decide)]⟩
    · refine X_aload_n C rfl dX9_delete_26 ?_
      refine X_aload_n C rfl dX9_delete_27 ?_
      refine X_iload_n C rfl dX9_delete_28 ?_
      refine X_callVE_1 C (c_X9_isDocument C.hlc (by assumption) (by omega)) cv_X9_105 jG_20 ⟨_, _, rfl⟩ rfl rfl dX9_delete_29 ?_
      refine X_if_neB C (tgt := 39) dX9_delete_32 (by decide) (fun c_32 => ?_) (fun c_32 => ?_)
      · refine X_iconst C dX9_delete_39 ?_
        refine Xp_X9_thrown C fw_X9_78 dX9_delete_40 ?_
        refine X_iconst C dX9_delete_43 ?_
        exact X_ireturn C M rfl (by decide) (by decide) dX9_delete_44 ⟨rI (mA_n (k := kDel σ z p) (by first | omega | (unfold kDel; (repeat' split) <;> omega))).symm, rfl, by rw [mS_n (k := kDel σ z p) (v := 2) (by first | omega | (unfold kDel; (repeat' split) <;> omega)) (by decide)]⟩
      · refine X_iconst C dX9_delete_35 ?_
        refine X_goto C (tgt := 40) dX9_delete_36 (by decide) ?_
        refine Xp_X9_thrown C fw_X9_78 dX9_delete_40 ?_
        refine X_iconst C dX9_delete_43 ?_
        exact X_ireturn C M rfl (by decide) (by decide) dX9_delete_44 ⟨rI (mA_n (k := kDel σ z p) (by first | omega | (unfold kDel; (repeat' split) <;> omega))).symm, rfl, by rw [mS_n (k := kDel σ z p) (v := 1) (by first | omega | (unfold kDel; (repeat' split) <;> omega)) (by decide)]⟩
