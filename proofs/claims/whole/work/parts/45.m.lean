set_option maxRecDepth 100000 in
set_option maxHeartbeats 4000000 in
theorem c_X9_close {lc : Launch} (hlc : lc.stackTraces = false) {D : va_G} {Y : Nat → ClassId} {A : Nat → Prop} {τ σ : xS} {ρ : xG} {ad : xL} {n z u : Int} (I : xI n σ) (hz0 : rg z) (hz1 : rg u) : Ct lc yX9_close cX9_close 4 (some .int) (rmL 2 0 0) D Y A ad (jG Y τ σ ρ ad) [.ref (ad 20 0), .int (iI z), .int (iI u)] (pE (some (.int (iI (mA (kClo σ z u) (σ 4 z 0) (-1))))) ad (jG Y τ (mS (kClo σ z u) (fun σ => up σ 4 z 0 u) σ) ρ ad)) (pF) := by
  refine Ct_of hlc (by decide +kernel) rfl rfl (own := RX9) (nm := "close") (l0 := [some (.ref (ad 20 0)), some (.int (iI z)), some (.int (iI u)), none]) rfl (Nat.le_of_ble_eq_true rfl) (fun κ C M => ?_)
  have Ind := I.nd
  have Inc := I.nc
  have Ino := I.no
  have In := I.n0
  refine X_aload_n C rfl dX9_close_0 ?_
  refine X_aload_n C rfl dX9_close_1 ?_
  refine X_iload_n C rfl dX9_close_2 ?_
  refine X_callVE_1 C (c_X9_isDocument C.hlc (by assumption) (by omega)) cv_X9_105 jG_20 ⟨_, _, rfl⟩ rfl rfl dX9_close_3 ?_
  refine X_if_neB C (tgt := 13) dX9_close_6 (by decide) (fun c_6 => ?_) (fun c_6 => ?_)
  · refine X_iload_n C rfl dX9_close_13 ?_
    refine X_i2l C ⟨by omega, by omega⟩ dX9_close_14 ?_
    refine X_lconst C (v := 0) rfl dX9_close_15 ?_
    refine X_ldc2 C (n := 999) (v := 999) (by decide +kernel) k_X9_120 dX9_close_16 ?_
    refine X_callSE_3 C (c_X9_in C.hlc (by omega) (by omega) (by omega)) cs_X9_84 rfl rfl dX9_close_19 ?_
    refine X_if_neB C (tgt := 29) dX9_close_22 (by decide) (fun c_22 => ?_) (fun c_22 => ?_)
    · refine X_iconst C dX9_close_29 ?_
      refine Xp_X9_thrown C fw_X9_78 dX9_close_30 ?_
      refine X_aload_n C rfl dX9_close_33 ?_
      refine Xg_X9_thrown C up_s fl_X9_78 dX9_close_34 ?_
      refine X_if_le C (tgt := 42) dX9_close_37 (by decide) ⟨by omega, by omega⟩ (fun c_37 => ?_) (fun c_37 => ?_)
      rotate_left
      · exfalso; omega
      refine X_aload_n C rfl dX9_close_42 ?_
      refine Xg_X9_closings C fl_X9_19 dX9_close_43 ?_
      refine X_iload_n C rfl dX9_close_46 ?_
      refine Xm_closings_ld C (by omega) (by omega) (up_q (by decide)) dX9_close_47 ?_
      refine X_istore_3 C (by decide) rfl dX9_close_48 ?_
      refine X_aload_n C rfl dX9_close_49 ?_
      refine Xg_X9_closings C fl_X9_19 dX9_close_50 ?_
      refine X_iload_n C rfl dX9_close_53 ?_
      refine X_iload_n C rfl dX9_close_54 ?_
      refine Xm_closings_st C (by omega) (by omega) dX9_close_55 ?_
      refine X_iload_n C rfl dX9_close_56 ?_
      exact X_ireturn C M rfl (by decide) (by decide) dX9_close_57 ⟨rI (Eq.trans (by rfl) (mA_0 (k := kClo σ z u) (by first | omega | (unfold kClo; (repeat' split) <;> omega))).symm), rfl, by rw [mS_0 (k := kClo σ z u) (by first | omega | (unfold kClo; (repeat' split) <;> omega))]; all_goals rfl⟩
    · refine X_iconst C dX9_close_25 ?_
      refine X_goto C (tgt := 30) dX9_close_26 (by decide) ?_
      refine Xp_X9_thrown C fw_X9_78 dX9_close_30 ?_
      refine X_aload_n C rfl dX9_close_33 ?_
      refine Xg_X9_thrown C up_s fl_X9_78 dX9_close_34 ?_
      refine X_if_le C (tgt := 42) dX9_close_37 (by decide) ⟨by omega, by omega⟩ (fun c_37 => ?_) (fun c_37 => ?_)
      · exfalso; omega
      refine X_iconst C dX9_close_40 ?_
      exact X_ireturn C M rfl (by decide) (by decide) dX9_close_41 ⟨rI (mA_n (k := kClo σ z u) (by first | omega | (unfold kClo; (repeat' split) <;> omega))).symm, rfl, by rw [mS_n (k := kClo σ z u) (v := 2) (by first | omega | (unfold kClo; (repeat' split) <;> omega)) (by decide)]⟩
  · refine X_iconst C dX9_close_9 ?_
    refine X_goto C (tgt := 30) dX9_close_10 (by decide) ?_
    refine Xp_X9_thrown C fw_X9_78 dX9_close_30 ?_
    refine X_aload_n C rfl dX9_close_33 ?_
    refine Xg_X9_thrown C up_s fl_X9_78 dX9_close_34 ?_
    refine X_if_le C (tgt := 42) dX9_close_37 (by decide) ⟨by omega, by omega⟩ (fun c_37 => ?_) (fun c_37 => ?_)
    · exfalso; omega
    refine X_iconst C dX9_close_40 ?_
    exact X_ireturn C M rfl (by decide) (by decide) dX9_close_41 ⟨rI (mA_n (k := kClo σ z u) (by first | omega | (unfold kClo; (repeat' split) <;> omega))).symm, rfl, by rw [mS_n (k := kClo σ z u) (v := 1) (by first | omega | (unfold kClo; (repeat' split) <;> omega)) (by decide)]⟩
set_option maxRecDepth 100000 in
set_option maxHeartbeats 4000000 in
theorem c_X9_answer {lc : Launch} (hlc : lc.stackTraces = false) {D : va_G} {Y : Nat → ClassId} {A : Nat → Prop} {τ σ : xS} {ρ : xG} {ad : xL} {n z : Int} (I : xI n σ) (hz0 : rg z) : Ct lc yX9_answer cX9_answer 2 (some .int) (rmL 2 0 0) D Y A ad (jG Y τ σ ρ ad) [.ref (ad 20 0), .int (iI z)] (pE (some (.int (iI (mA (kAns σ z) (opA (up σ 8 z 0 0) (σ 5 z 0) (σ 31 0 0)) (-1))))) ad (jG Y τ (mS (kAns σ z) (fun σ => up σ 8 z 0 0) σ) ρ ad)) (pF) := by
  refine Ct_of hlc (by decide +kernel) rfl rfl (own := RX9) (nm := "answer") (l0 := [some (.ref (ad 20 0)), some (.int (iI z))]) rfl (Nat.le_of_ble_eq_true rfl) (fun κ C M => ?_)
  have Ind := I.nd
  have Inc := I.nc
  have Ino := I.no
  have In := I.n0
  refine X_aload_n C rfl dX9_answer_0 ?_
  refine X_aload_n C rfl dX9_answer_1 ?_
  refine X_iload_n C rfl dX9_answer_2 ?_
  refine X_callVE_1 C (c_X9_isComment C.hlc (by assumption) (by omega)) cv_X9_125 jG_20 ⟨_, _, rfl⟩ rfl rfl dX9_answer_3 ?_
  refine X_if_neB C (tgt := 13) dX9_answer_6 (by decide) (fun c_6 => ?_) (fun c_6 => ?_)
  · refine X_aload_n C rfl dX9_answer_13 ?_
    refine Xg_X9_isOpen C fl_X9_40 dX9_answer_14 ?_
    refine X_iload_n C rfl dX9_answer_17 ?_
    have k1 := I.op z 0
    refine Xm_isOpen_ld C (by omega) (by omega) rfl dX9_answer_18 ?_
    refine X_if_ne C (tgt := 26) dX9_answer_19 (by decide) ⟨by omega, by omega⟩ (fun c_19 => ?_) (fun c_19 => ?_)
    · refine X_iconst C dX9_answer_26 ?_
      refine Xp_X9_thrown C fw_X9_78 dX9_answer_27 ?_
      refine X_aload_n C rfl dX9_answer_30 ?_
      refine Xg_X9_thrown C up_s fl_X9_78 dX9_answer_31 ?_
      refine X_if_le C (tgt := 39) dX9_answer_34 (by decide) ⟨by omega, by omega⟩ (fun c_34 => ?_) (fun c_34 => ?_)
      rotate_left
      · exfalso; omega
      refine X_aload_n C rfl dX9_answer_39 ?_
      refine Xg_X9_isOpen C fl_X9_40 dX9_answer_40 ?_
      refine X_iload_n C rfl dX9_answer_43 ?_
      refine X_iconst C dX9_answer_44 ?_
      refine Xm_isOpen_st C (by omega) (by omega) (by first | exact Or.inl rfl | exact Or.inr rfl) dX9_answer_45 ?_
      refine X_aload_n C rfl dX9_answer_46 ?_
      refine X_aload_n C rfl dX9_answer_47 ?_
      have k3 := I.on z (by omega) (by omega)
      refine Xg_X9_commentOn C fl_X9_31 dX9_answer_48 ?_
      refine X_iload_n C rfl dX9_answer_51 ?_
      refine Xm_commentOn_ld C (by omega) (by omega) (v := σ 5 z 0) (by simp (discharger := decide) only [up_r, up_s]) dX9_answer_52 ?_
      refine X_callVE_1 C (c_X9_openOn C.hlc (pr_answer (pr_thr I)) (by omega)) cv_X9_128 jG_20 ⟨_, _, rfl⟩ rfl rfl dX9_answer_53 ?_
      exact X_ireturn C M rfl (by decide) (by decide) dX9_answer_56 ⟨rI (Eq.trans (by rfl) (mA_0 (k := kAns σ z) (by first | omega | (unfold kAns; (repeat' split) <;> omega))).symm), rfl, by rw [mS_0 (k := kAns σ z) (by first | omega | (unfold kAns; (repeat' split) <;> omega))]; all_goals rfl⟩
    · refine X_iconst C dX9_answer_22 ?_
      refine X_goto C (tgt := 27) dX9_answer_23 (by decide) ?_
      refine Xp_X9_thrown C fw_X9_78 dX9_answer_27 ?_
      refine X_aload_n C rfl dX9_answer_30 ?_
      refine Xg_X9_thrown C up_s fl_X9_78 dX9_answer_31 ?_
      refine X_if_le C (tgt := 39) dX9_answer_34 (by decide) ⟨by omega, by omega⟩ (fun c_34 => ?_) (fun c_34 => ?_)
      · exfalso; omega
      refine X_iconst C dX9_answer_37 ?_
      exact X_ireturn C M rfl (by decide) (by decide) dX9_answer_38 ⟨rI (mA_n (k := kAns σ z) (by first | omega | (unfold kAns; (repeat' split) <;> omega))).symm, rfl, by rw [mS_n (k := kAns σ z) (v := 2) (by first | omega | (unfold kAns; (repeat' split) <;> omega)) (by decide)]⟩
  · refine X_iconst C dX9_answer_9 ?_
    refine X_goto C (tgt := 27) dX9_answer_10 (by decide) ?_
    refine Xp_X9_thrown C fw_X9_78 dX9_answer_27 ?_
    refine X_aload_n C rfl dX9_answer_30 ?_
    refine Xg_X9_thrown C up_s fl_X9_78 dX9_answer_31 ?_
    refine X_if_le C (tgt := 39) dX9_answer_34 (by decide) ⟨by omega, by omega⟩ (fun c_34 => ?_) (fun c_34 => ?_)
    · exfalso; omega
    refine X_iconst C dX9_answer_37 ?_
    exact X_ireturn C M rfl (by decide) (by decide) dX9_answer_38 ⟨rI (mA_n (k := kAns σ z) (by first | omega | (unfold kAns; (repeat' split) <;> omega))).symm, rfl, by rw [mS_n (k := kAns σ z) (v := 1) (by first | omega | (unfold kAns; (repeat' split) <;> omega)) (by decide)]⟩
set_option maxRecDepth 100000 in
set_option maxHeartbeats 4000000 in
theorem c_X9_comment {lc : Launch} (hlc : lc.stackTraces = false) {D : va_G} {Y : Nat → ClassId} {A : Nat → Prop} {τ σ : xS} {ρ : xG} {ad : xL} {n z f t : Int} (I : xI n σ) (hz0 : rg z) (hz1 : rg f) (hz2 : rg t) : Ct lc yX9_comment cX9_comment 5 (some .int) (rmL 2 0 0) D Y A ad (jG Y τ σ ρ ad) [.ref (ad 20 0), .int (iI z), .int (iI f), .int (iI t)] (pE (some (.int (iI (mA (kCom σ z f t) (σ 31 0 0) (-1))))) ad (jG Y τ (mS (kCom σ z f t) (fun σ => comS σ z f t) σ) ρ ad)) (pF) := by
  refine Ct_of hlc (by decide +kernel) rfl rfl (own := RX9) (nm := "comment") (l0 := [some (.ref (ad 20 0)), some (.int (iI z)), some (.int (iI f)), some (.int (iI t)), none]) rfl (Nat.le_of_ble_eq_true rfl) (fun κ C M => ?_)
  have Ind := I.nd
  have Inc := I.nc
  have Ino := I.no
  have In := I.n0
  refine X_aload_n C rfl dX9_comment_0 ?_
  refine X_iload_n C rfl dX9_comment_1 ?_
  refine X_callVE_1 C (c_X9_isDocument C.hlc (by assumption) (by omega)) cv_X9_105 jG_20 ⟨_, _, rfl⟩ rfl rfl dX9_comment_2 ?_
  refine X_if_neB C (tgt := 15) dX9_comment_5 (by decide) (fun c_5 => ?_) (fun c_5 => ?_)
  · refine X_iload_n C rfl dX9_comment_15 ?_
    refine X_i2l C ⟨by omega, by omega⟩ dX9_comment_16 ?_
    refine X_lconst C (v := 0) rfl dX9_comment_17 ?_
    refine X_aload_n C rfl dX9_comment_18 ?_
    refine Xg_X9_lengths C fl_X9_13 dX9_comment_19 ?_
    have k1 := I.sz (2 * z) 0
    refine X_iload_n C rfl dX9_comment_22 ?_
    refine Xm_lengths_ld C (by omega) (by omega) rfl dX9_comment_23 ?_
    refine X_iconst C dX9_comment_24 ?_
    refine X_isub C dX9_comment_25 ?_
    refine X_i2l C ⟨by omega, by omega⟩ dX9_comment_26 ?_
    refine X_callSE_3 C (c_X9_in C.hlc (by omega) (by omega) (by omega)) cs_X9_84 rfl rfl dX9_comment_27 ?_
    refine X_if_eqB C (tgt := 56) dX9_comment_30 (by decide) (fun c_30 => ?_) (fun c_30 => ?_)
    · refine X_iconst C dX9_comment_56 ?_
      refine X_istore_4 C (by decide) rfl dX9_comment_57 ?_
      refine X_aload_n C rfl dX9_comment_59 ?_
      refine X_iload C rfl dX9_comment_60 ?_
      refine X_if_ne C (tgt := 69) dX9_comment_62 (by decide) ⟨by omega, by omega⟩ (fun c_62 => ?_) (fun c_62 => ?_)
      · exfalso; omega
      refine X_iconst C dX9_comment_65 ?_
      refine X_goto C (tgt := 83) dX9_comment_66 (by decide) ?_
      refine Xp_X9_thrown C fw_X9_78 dX9_comment_83 ?_
      refine X_aload_n C rfl dX9_comment_86 ?_
      refine Xg_X9_thrown C up_s fl_X9_78 dX9_comment_87 ?_
      refine X_if_le C (tgt := 95) dX9_comment_90 (by decide) ⟨by omega, by omega⟩ (fun c_90 => ?_) (fun c_90 => ?_)
      · exfalso; omega
      refine X_iconst C dX9_comment_93 ?_
      exact X_ireturn C M rfl (by decide) (by decide) dX9_comment_94 ⟨rI (mA_n (k := kCom σ z f t) (by first | omega | (unfold kCom; (repeat' split) <;> omega))).symm, rfl, by rw [mS_n (k := kCom σ z f t) (v := 2) (by first | omega | (unfold kCom; (repeat' split) <;> omega)) (by decide)]⟩
    · refine X_iload_n C rfl dX9_comment_33 ?_
      refine X_i2l C ⟨by omega, by omega⟩ dX9_comment_34 ?_
      refine X_iload_n C rfl dX9_comment_35 ?_
      refine X_iconst C dX9_comment_36 ?_
      refine X_iadd C dX9_comment_37 ?_
      refine X_i2l C ⟨by omega, by omega⟩ dX9_comment_38 ?_
      refine X_aload_n C rfl dX9_comment_39 ?_
      refine Xg_X9_lengths C fl_X9_13 dX9_comment_40 ?_
      refine X_iload_n C rfl dX9_comment_43 ?_
      refine Xm_lengths_ld C (by omega) (by omega) rfl dX9_comment_44 ?_
      refine X_i2l C ⟨by omega, by omega⟩ dX9_comment_45 ?_
      refine X_callSE_3 C (c_X9_in C.hlc (by omega) (by omega) (by omega)) cs_X9_84 rfl rfl dX9_comment_46 ?_
      refine X_if_eqB C (tgt := 56) dX9_comment_49 (by decide) (fun c_49 => ?_) (fun c_49 => ?_)
      · refine X_iconst C dX9_comment_56 ?_
        refine X_istore_4 C (by decide) rfl dX9_comment_57 ?_
        refine X_aload_n C rfl dX9_comment_59 ?_
        refine X_iload C rfl dX9_comment_60 ?_
        refine X_if_ne C (tgt := 69) dX9_comment_62 (by decide) ⟨by omega, by omega⟩ (fun c_62 => ?_) (fun c_62 => ?_)
        · exfalso; omega
        refine X_iconst C dX9_comment_65 ?_
        refine X_goto C (tgt := 83) dX9_comment_66 (by decide) ?_
        refine Xp_X9_thrown C fw_X9_78 dX9_comment_83 ?_
        refine X_aload_n C rfl dX9_comment_86 ?_
        refine Xg_X9_thrown C up_s fl_X9_78 dX9_comment_87 ?_
        refine X_if_le C (tgt := 95) dX9_comment_90 (by decide) ⟨by omega, by omega⟩ (fun c_90 => ?_) (fun c_90 => ?_)
        · exfalso; omega
        refine X_iconst C dX9_comment_93 ?_
        exact X_ireturn C M rfl (by decide) (by decide) dX9_comment_94 ⟨rI (mA_n (k := kCom σ z f t) (by first | omega | (unfold kCom; (repeat' split) <;> omega))).symm, rfl, by rw [mS_n (k := kCom σ z f t) (v := 2) (by first | omega | (unfold kCom; (repeat' split) <;> omega)) (by decide)]⟩
      · refine X_iconst C dX9_comment_52 ?_
        refine X_goto C (tgt := 57) dX9_comment_53 (by decide) ?_
        refine X_istore_4 C (by decide) rfl dX9_comment_57 ?_
        refine X_aload_n C rfl dX9_comment_59 ?_
        refine X_iload C rfl dX9_comment_60 ?_
        refine X_if_ne C (tgt := 69) dX9_comment_62 (by decide) ⟨by omega, by omega⟩ (fun c_62 => ?_) (fun c_62 => ?_)
        rotate_left
        · exfalso; omega
        refine X_aload_n C rfl dX9_comment_69 ?_
        refine Xg_X9_comments C rfl fl_X9_91 dX9_comment_70 ?_
        refine X_bipush C ⟨by decide, by decide⟩ dX9_comment_73 ?_
        refine X_icmp_ne C (tgt := 82) dX9_comment_75 (by decide) ⟨by omega, by omega⟩ ⟨by omega, by omega⟩ (fun c_75 => ?_) (fun c_75 => ?_)
        · refine X_iconst C dX9_comment_82 ?_
          refine Xp_X9_thrown C fw_X9_78 dX9_comment_83 ?_
          refine X_aload_n C rfl dX9_comment_86 ?_
          refine Xg_X9_thrown C up_s fl_X9_78 dX9_comment_87 ?_
          refine X_if_le C (tgt := 95) dX9_comment_90 (by decide) ⟨by omega, by omega⟩ (fun c_90 => ?_) (fun c_90 => ?_)
          rotate_left
          · exfalso; omega
          refine X_aload_n C rfl dX9_comment_95 ?_
          refine Xg_X9_commentOn C fl_X9_31 dX9_comment_96 ?_
          refine X_aload_n C rfl dX9_comment_99 ?_
          refine Xg_X9_comments C (v := σ 31 0 0) (by simp (discharger := decide) only [up_r, up_s]) fl_X9_91 dX9_comment_100 ?_
          refine X_iload_n C rfl dX9_comment_103 ?_
          refine Xm_commentOn_st C (by omega) (by omega) dX9_comment_104 ?_
          refine X_aload_n C rfl dX9_comment_105 ?_
          refine Xg_X9_spanFrom C fl_X9_34 dX9_comment_106 ?_
          refine X_aload_n C rfl dX9_comment_109 ?_
          refine Xg_X9_comments C (v := σ 31 0 0) (by simp (discharger := decide) only [up_r, up_s]) fl_X9_91 dX9_comment_110 ?_
          refine X_iload_n C rfl dX9_comment_113 ?_
          refine Xm_spanFrom_st C (by omega) (by omega) dX9_comment_114 ?_
          refine X_aload_n C rfl dX9_comment_115 ?_
          refine Xg_X9_spanTo C fl_X9_37 dX9_comment_116 ?_
          refine X_aload_n C rfl dX9_comment_119 ?_
          refine Xg_X9_comments C (v := σ 31 0 0) (by simp (discharger := decide) only [up_r, up_s]) fl_X9_91 dX9_comment_120 ?_
          refine X_iload_n C rfl dX9_comment_123 ?_
          refine Xm_spanTo_st C (by omega) (by omega) dX9_comment_124 ?_
          refine X_aload_n C rfl dX9_comment_125 ?_
          refine Xg_X9_isOpen C fl_X9_40 dX9_comment_126 ?_
          refine X_aload_n C rfl dX9_comment_129 ?_
          refine Xg_X9_comments C (v := σ 31 0 0) (by simp (discharger := decide) only [up_r, up_s]) fl_X9_91 dX9_comment_130 ?_
          refine X_iconst C dX9_comment_133 ?_
          refine Xm_isOpen_st C (by omega) (by omega) (by first | exact Or.inl rfl | exact Or.inr rfl) dX9_comment_134 ?_
          refine X_aload_n C rfl dX9_comment_135 ?_
          refine X_dup C rfl dX9_comment_136 ?_
          refine Xg_X9_comments C (v := σ 31 0 0) (by simp (discharger := decide) only [up_r, up_s]) fl_X9_91 dX9_comment_137 ?_
          refine X_iconst C dX9_comment_140 ?_
          refine X_iadd C dX9_comment_141 ?_
          refine Xp_X9_comments C fw_X9_91 dX9_comment_142 ?_
          refine X_aload_n C rfl dX9_comment_145 ?_
          refine Xg_X9_comments C (v := σ 31 0 0 + 1) (by simp (discharger := decide) only [up_r, up_s]) fl_X9_91 dX9_comment_146 ?_
          refine X_iconst C dX9_comment_149 ?_
          refine X_isub C dX9_comment_150 ?_
          exact X_ireturn C M rfl (by decide) (by decide) dX9_comment_151 ⟨rI (Eq.trans (show _ = σ 31 0 0 from by omega) (mA_0 (k := kCom σ z f t) (by first | omega | (unfold kCom; (repeat' split) <;> omega))).symm), rfl, by rw [mS_0 (k := kCom σ z f t) (by first | omega | (unfold kCom; (repeat' split) <;> omega))]; all_goals rfl⟩
        · refine X_iconst C dX9_comment_78 ?_
          refine X_goto C (tgt := 83) dX9_comment_79 (by decide) ?_
          refine Xp_X9_thrown C fw_X9_78 dX9_comment_83 ?_
          refine X_aload_n C rfl dX9_comment_86 ?_
          refine Xg_X9_thrown C up_s fl_X9_78 dX9_comment_87 ?_
          refine X_if_le C (tgt := 95) dX9_comment_90 (by decide) ⟨by omega, by omega⟩ (fun c_90 => ?_) (fun c_90 => ?_)
          · exfalso; omega
          refine X_iconst C dX9_comment_93 ?_
          exact X_ireturn C M rfl (by decide) (by decide) dX9_comment_94 ⟨rI (mA_n (k := kCom σ z f t) (by first | omega | (unfold kCom; (repeat' split) <;> omega))).symm, rfl, by rw [mS_n (k := kCom σ z f t) (v := 3) (by first | omega | (unfold kCom; (repeat' split) <;> omega)) (by decide)]⟩
  · refine X_aload_n C rfl dX9_comment_8 ?_
    refine X_iconst C dX9_comment_9 ?_
    refine Xp_X9_thrown C fw_X9_78 dX9_comment_10 ?_
    refine X_iconst C dX9_comment_13 ?_
    exact X_ireturn C M rfl (by decide) (by decide) dX9_comment_14 ⟨rI (mA_n (k := kCom σ z f t) (by first | omega | (unfold kCom; (repeat' split) <;> omega))).symm, rfl, by rw [mS_n (k := kCom σ z f t) (v := 1) (by first | omega | (unfold kCom; (repeat' split) <;> omega)) (by decide)]⟩
set_option maxRecDepth 100000 in
set_option maxHeartbeats 4000000 in
theorem c_X9_addDocument {lc : Launch} (hlc : lc.stackTraces = false) {D : va_G} {Y : Nat → ClassId} {A : Nat → Prop} {τ σ : xS} {ρ : xG} {ad : xL} {n : Int} (I : xI n σ) : Ct lc yX9_addDocument cX9_addDocument 1 (some .int) (rmL 0 0 0) D Y A ad (jG Y τ σ ρ ad) [.ref (ad 20 0)] (pE (some (.int (iI (mA (kAdd σ) (σ 30 0 0) (-1))))) ad (jG Y τ (mS (kAdd σ) (fun σ => up (up (up σ 4 (σ 30 0 0) 0 999) 3 (σ 30 0 0) 0 (-1)) 30 0 0 (σ 30 0 0 + 1)) σ) ρ ad)) (pF) := by
  refine Ct_of hlc (by decide +kernel) rfl rfl (own := RX9) (nm := "addDocument") (l0 := [some (.ref (ad 20 0))]) rfl (Nat.le_of_ble_eq_true rfl) (fun κ C M => ?_)
  have Ind := I.nd
  have Inc := I.nc
  have Ino := I.no
  have In := I.n0
  refine X_aload_n C rfl dX9_addDocument_0 ?_
  refine X_aload_n C rfl dX9_addDocument_1 ?_
  refine Xg_X9_documents C rfl fl_X9_81 dX9_addDocument_2 ?_
  refine X_iconst C dX9_addDocument_5 ?_
  refine X_icmp_ne C (tgt := 13) dX9_addDocument_6 (by decide) ⟨by omega, by omega⟩ ⟨by omega, by omega⟩ (fun c_6 => ?_) (fun c_6 => ?_)
  · refine X_iconst C dX9_addDocument_13 ?_
    refine Xp_X9_thrown C fw_X9_78 dX9_addDocument_14 ?_
    refine X_aload_n C rfl dX9_addDocument_17 ?_
    refine Xg_X9_thrown C up_s fl_X9_78 dX9_addDocument_18 ?_
    refine X_if_le C (tgt := 26) dX9_addDocument_21 (by decide) ⟨by omega, by omega⟩ (fun c_21 => ?_) (fun c_21 => ?_)
    rotate_left
    · exfalso; omega
    refine X_aload_n C rfl dX9_addDocument_26 ?_
    refine Xg_X9_closings C fl_X9_19 dX9_addDocument_27 ?_
    refine X_aload_n C rfl dX9_addDocument_30 ?_
    refine Xg_X9_documents C (v := σ 30 0 0) (by simp (discharger := decide) only [up_r, up_s]) fl_X9_81 dX9_addDocument_31 ?_
    refine X_sipush C ⟨by decide, by decide⟩ dX9_addDocument_34 ?_
    refine Xm_closings_st C (by omega) (by omega) dX9_addDocument_37 ?_
    refine X_aload_n C rfl dX9_addDocument_38 ?_
    refine Xg_X9_proofVersions C fl_X9_28 dX9_addDocument_39 ?_
    refine X_aload_n C rfl dX9_addDocument_42 ?_
    refine Xg_X9_documents C (v := σ 30 0 0) (by simp (discharger := decide) only [up_r, up_s]) fl_X9_81 dX9_addDocument_43 ?_
    refine X_iconst C dX9_addDocument_46 ?_
    refine Xm_proofVersions_st C (by omega) (by omega) dX9_addDocument_47 ?_
    refine X_aload_n C rfl dX9_addDocument_48 ?_
    refine X_dup C rfl dX9_addDocument_49 ?_
    refine Xg_X9_documents C (v := σ 30 0 0) (by simp (discharger := decide) only [up_r, up_s]) fl_X9_81 dX9_addDocument_50 ?_
    refine X_iconst C dX9_addDocument_53 ?_
    refine X_iadd C dX9_addDocument_54 ?_
    refine Xp_X9_documents C fw_X9_81 dX9_addDocument_55 ?_
    refine X_aload_n C rfl dX9_addDocument_58 ?_
    refine Xg_X9_documents C (v := σ 30 0 0 + 1) (by simp (discharger := decide) only [up_r, up_s]) fl_X9_81 dX9_addDocument_59 ?_
    refine X_iconst C dX9_addDocument_62 ?_
    refine X_isub C dX9_addDocument_63 ?_
    exact X_ireturn C M rfl (by decide) (by decide) dX9_addDocument_64 ⟨rI (Eq.trans (show _ = σ 30 0 0 from by omega) (mA_0 (k := kAdd σ) (by first | omega | (unfold kAdd; (repeat' split) <;> omega))).symm), rfl, by rw [mS_0 (k := kAdd σ) (by first | omega | (unfold kAdd; (repeat' split) <;> omega))]; all_goals rfl⟩
  · refine X_iconst C dX9_addDocument_9 ?_
    refine X_goto C (tgt := 14) dX9_addDocument_10 (by decide) ?_
    refine Xp_X9_thrown C fw_X9_78 dX9_addDocument_14 ?_
    refine X_aload_n C rfl dX9_addDocument_17 ?_
    refine Xg_X9_thrown C up_s fl_X9_78 dX9_addDocument_18 ?_
    refine X_if_le C (tgt := 26) dX9_addDocument_21 (by decide) ⟨by omega, by omega⟩ (fun c_21 => ?_) (fun c_21 => ?_)
    · exfalso; omega
    refine X_iconst C dX9_addDocument_24 ?_
    exact X_ireturn C M rfl (by decide) (by decide) dX9_addDocument_25 ⟨rI (mA_n (k := kAdd σ) (by first | omega | (unfold kAdd; (repeat' split) <;> omega))).symm, rfl, by rw [mS_n (k := kAdd σ) (v := 1) (by first | omega | (unfold kAdd; (repeat' split) <;> omega)) (by decide)]⟩
set_option maxRecDepth 100000 in
set_option maxHeartbeats 4000000 in
theorem c_X9_supply {lc : Launch} (hlc : lc.stackTraces = false) {D : va_G} {Y : Nat → ClassId} {A : Nat → Prop} {τ σ : xS} {ρ : xG} {ad : xL} {n a b : Int} (I : xI n σ) (hz0 : rg a) (hz1 : rg b) : Ct lc yX9_supply cX9_supply 5 (some .int) (rmL 1 0 0) D Y A ad (jG Y τ σ ρ ad) [.ref (ad 20 0), .int (iI a), .int (iI b)] (pE (some (.int (iI (mA (kSup σ a b) (σ 33 0 0 + a) (-1))))) ad (jG Y τ (mS (kSup σ a b) (fun σ => supS σ a b) σ) ρ ad)) (pF) := by
  refine Ct_of hlc (by decide +kernel) rfl rfl (own := RX9) (nm := "supply") (l0 := [some (.ref (ad 20 0)), some (.int (iI a)), some (.int (iI b)), none, none]) rfl (Nat.le_of_ble_eq_true rfl) (fun κ C M => ?_)
  have Ind := I.nd
  have Inc := I.nc
  have Ino := I.no
  have In := I.n0
  have k1 := I.pa
  have k2 := I.ls
  refine X_iload_n C rfl dX9_supply_0 ?_
  refine X_i2l C ⟨by omega, by omega⟩ dX9_supply_1 ?_
  refine X_lconst C (v := 0) rfl dX9_supply_2 ?_
  refine X_ldc2 C (n := 9999) (v := 9999) (by decide +kernel) k_X9_152 dX9_supply_3 ?_
  refine X_callSE_3 C (c_X9_in C.hlc (by omega) (by omega) (by omega)) cs_X9_84 rfl rfl dX9_supply_6 ?_
  refine X_if_eqB C (tgt := 28) dX9_supply_9 (by decide) (fun c_9 => ?_) (fun c_9 => ?_)
  · refine X_iconst C dX9_supply_28 ?_
    refine X_istore_3 C (by decide) rfl dX9_supply_29 ?_
    refine X_aload_n C rfl dX9_supply_30 ?_
    refine Xg_X9_paper C rfl fl_X9_156 dX9_supply_31 ?_
    refine X_iload_n C rfl dX9_supply_34 ?_
    refine X_iadd C dX9_supply_35 ?_
    refine X_ldc C (n := 99999) (v := 99999) (by decide +kernel) k_X9_159 dX9_supply_36 ?_
    refine X_icmp_gtA C (tgt := 53) dX9_supply_38 (by decide) ?_ ?_
    · refine X_iconst C dX9_supply_53 ?_
      refine X_goto C (tgt := 58) dX9_supply_54 (by decide) ?_
      refine X_istore_4 C (by decide) rfl dX9_supply_58 ?_
      refine X_aload_n C rfl dX9_supply_60 ?_
      refine X_iload_n C rfl dX9_supply_61 ?_
      refine X_if_ne C (tgt := 69) dX9_supply_62 (by decide) ⟨by omega, by omega⟩ (fun c_62 => ?_) (fun c_62 => ?_)
      · exfalso; omega
      refine X_iconst C dX9_supply_65 ?_
      refine X_goto C (tgt := 79) dX9_supply_66 (by decide) ?_
      refine Xp_X9_thrown C fw_X9_78 dX9_supply_79 ?_
      refine X_aload_n C rfl dX9_supply_82 ?_
      refine Xg_X9_thrown C up_s fl_X9_78 dX9_supply_83 ?_
      refine X_if_le C (tgt := 91) dX9_supply_86 (by decide) ⟨by omega, by omega⟩ (fun c_86 => ?_) (fun c_86 => ?_)
      · exfalso; omega
      refine X_iconst C dX9_supply_89 ?_
      exact X_ireturn C M rfl (by decide) (by decide) dX9_supply_90 ⟨rI (mA_n (k := kSup σ a b) (by first | omega | (unfold kSup; (repeat' split) <;> omega))).symm, rfl, by rw [mS_n (k := kSup σ a b) (v := 1) (by first | omega | (unfold kSup; (repeat' split) <;> omega)) (by decide)]⟩
    · refine X_aload_n C rfl dX9_supply_41 ?_
      refine Xg_X9_plates C rfl fl_X9_160 dX9_supply_42 ?_
      refine X_iload_n C rfl dX9_supply_45 ?_
      refine X_iadd C dX9_supply_46 ?_
      refine X_sipush C ⟨by decide, by decide⟩ dX9_supply_47 ?_
      refine X_icmp_leA C (tgt := 57) dX9_supply_50 (by decide) ?_ ?_
      · refine X_iconst C dX9_supply_57 ?_
        refine X_istore_4 C (by decide) rfl dX9_supply_58 ?_
        refine X_aload_n C rfl dX9_supply_60 ?_
        refine X_iload_n C rfl dX9_supply_61 ?_
        refine X_if_ne C (tgt := 69) dX9_supply_62 (by decide) ⟨by omega, by omega⟩ (fun c_62 => ?_) (fun c_62 => ?_)
        · exfalso; omega
        refine X_iconst C dX9_supply_65 ?_
        refine X_goto C (tgt := 79) dX9_supply_66 (by decide) ?_
        refine Xp_X9_thrown C fw_X9_78 dX9_supply_79 ?_
        refine X_aload_n C rfl dX9_supply_82 ?_
        refine Xg_X9_thrown C up_s fl_X9_78 dX9_supply_83 ?_
        refine X_if_le C (tgt := 91) dX9_supply_86 (by decide) ⟨by omega, by omega⟩ (fun c_86 => ?_) (fun c_86 => ?_)
        · exfalso; omega
        refine X_iconst C dX9_supply_89 ?_
        exact X_ireturn C M rfl (by decide) (by decide) dX9_supply_90 ⟨rI (mA_n (k := kSup σ a b) (by first | omega | (unfold kSup; (repeat' split) <;> omega))).symm, rfl, by rw [mS_n (k := kSup σ a b) (v := 1) (by first | omega | (unfold kSup; (repeat' split) <;> omega)) (by decide)]⟩
      · refine X_iconst C dX9_supply_53 ?_
        refine X_goto C (tgt := 58) dX9_supply_54 (by decide) ?_
        refine X_istore_4 C (by decide) rfl dX9_supply_58 ?_
        refine X_aload_n C rfl dX9_supply_60 ?_
        refine X_iload_n C rfl dX9_supply_61 ?_
        refine X_if_ne C (tgt := 69) dX9_supply_62 (by decide) ⟨by omega, by omega⟩ (fun c_62 => ?_) (fun c_62 => ?_)
        · exfalso; omega
        refine X_iconst C dX9_supply_65 ?_
        refine X_goto C (tgt := 79) dX9_supply_66 (by decide) ?_
        refine Xp_X9_thrown C fw_X9_78 dX9_supply_79 ?_
        refine X_aload_n C rfl dX9_supply_82 ?_
        refine Xg_X9_thrown C up_s fl_X9_78 dX9_supply_83 ?_
        refine X_if_le C (tgt := 91) dX9_supply_86 (by decide) ⟨by omega, by omega⟩ (fun c_86 => ?_) (fun c_86 => ?_)
        · exfalso; omega
        refine X_iconst C dX9_supply_89 ?_
        exact X_ireturn C M rfl (by decide) (by decide) dX9_supply_90 ⟨rI (mA_n (k := kSup σ a b) (by first | omega | (unfold kSup; (repeat' split) <;> omega))).symm, rfl, by rw [mS_n (k := kSup σ a b) (v := 1) (by first | omega | (unfold kSup; (repeat' split) <;> omega)) (by decide)]⟩
  · refine X_iload_n C rfl dX9_supply_12 ?_
    refine X_i2l C ⟨by omega, by omega⟩ dX9_supply_13 ?_
    refine X_lconst C (v := 0) rfl dX9_supply_14 ?_
    refine X_ldc2 C (n := 99) (v := 99) (by decide +kernel) k_X9_154 dX9_supply_15 ?_
    refine X_callSE_3 C (c_X9_in C.hlc (by omega) (by omega) (by omega)) cs_X9_84 rfl rfl dX9_supply_18 ?_
    refine X_if_eqB C (tgt := 28) dX9_supply_21 (by decide) (fun c_21 => ?_) (fun c_21 => ?_)
    · refine X_iconst C dX9_supply_28 ?_
      refine X_istore_3 C (by decide) rfl dX9_supply_29 ?_
      refine X_aload_n C rfl dX9_supply_30 ?_
      refine Xg_X9_paper C rfl fl_X9_156 dX9_supply_31 ?_
      refine X_iload_n C rfl dX9_supply_34 ?_
      refine X_iadd C dX9_supply_35 ?_
      refine X_ldc C (n := 99999) (v := 99999) (by decide +kernel) k_X9_159 dX9_supply_36 ?_
      refine X_icmp_gtA C (tgt := 53) dX9_supply_38 (by decide) ?_ ?_
      · refine X_iconst C dX9_supply_53 ?_
        refine X_goto C (tgt := 58) dX9_supply_54 (by decide) ?_
        refine X_istore_4 C (by decide) rfl dX9_supply_58 ?_
        refine X_aload_n C rfl dX9_supply_60 ?_
        refine X_iload_n C rfl dX9_supply_61 ?_
        refine X_if_ne C (tgt := 69) dX9_supply_62 (by decide) ⟨by omega, by omega⟩ (fun c_62 => ?_) (fun c_62 => ?_)
        · exfalso; omega
        refine X_iconst C dX9_supply_65 ?_
        refine X_goto C (tgt := 79) dX9_supply_66 (by decide) ?_
        refine Xp_X9_thrown C fw_X9_78 dX9_supply_79 ?_
        refine X_aload_n C rfl dX9_supply_82 ?_
        refine Xg_X9_thrown C up_s fl_X9_78 dX9_supply_83 ?_
        refine X_if_le C (tgt := 91) dX9_supply_86 (by decide) ⟨by omega, by omega⟩ (fun c_86 => ?_) (fun c_86 => ?_)
        · exfalso; omega
        refine X_iconst C dX9_supply_89 ?_
        exact X_ireturn C M rfl (by decide) (by decide) dX9_supply_90 ⟨rI (mA_n (k := kSup σ a b) (by first | omega | (unfold kSup; (repeat' split) <;> omega))).symm, rfl, by rw [mS_n (k := kSup σ a b) (v := 1) (by first | omega | (unfold kSup; (repeat' split) <;> omega)) (by decide)]⟩
      · refine X_aload_n C rfl dX9_supply_41 ?_
        refine Xg_X9_plates C rfl fl_X9_160 dX9_supply_42 ?_
        refine X_iload_n C rfl dX9_supply_45 ?_
        refine X_iadd C dX9_supply_46 ?_
        refine X_sipush C ⟨by decide, by decide⟩ dX9_supply_47 ?_
        refine X_icmp_leA C (tgt := 57) dX9_supply_50 (by decide) ?_ ?_
        · refine X_iconst C dX9_supply_57 ?_
          refine X_istore_4 C (by decide) rfl dX9_supply_58 ?_
          refine X_aload_n C rfl dX9_supply_60 ?_
          refine X_iload_n C rfl dX9_supply_61 ?_
          refine X_if_ne C (tgt := 69) dX9_supply_62 (by decide) ⟨by omega, by omega⟩ (fun c_62 => ?_) (fun c_62 => ?_)
          · exfalso; omega
          refine X_iconst C dX9_supply_65 ?_
          refine X_goto C (tgt := 79) dX9_supply_66 (by decide) ?_
          refine Xp_X9_thrown C fw_X9_78 dX9_supply_79 ?_
          refine X_aload_n C rfl dX9_supply_82 ?_
          refine Xg_X9_thrown C up_s fl_X9_78 dX9_supply_83 ?_
          refine X_if_le C (tgt := 91) dX9_supply_86 (by decide) ⟨by omega, by omega⟩ (fun c_86 => ?_) (fun c_86 => ?_)
          · exfalso; omega
          refine X_iconst C dX9_supply_89 ?_
          exact X_ireturn C M rfl (by decide) (by decide) dX9_supply_90 ⟨rI (mA_n (k := kSup σ a b) (by first | omega | (unfold kSup; (repeat' split) <;> omega))).symm, rfl, by rw [mS_n (k := kSup σ a b) (v := 1) (by first | omega | (unfold kSup; (repeat' split) <;> omega)) (by decide)]⟩
        · refine X_iconst C dX9_supply_53 ?_
          refine X_goto C (tgt := 58) dX9_supply_54 (by decide) ?_
          refine X_istore_4 C (by decide) rfl dX9_supply_58 ?_
          refine X_aload_n C rfl dX9_supply_60 ?_
          refine X_iload_n C rfl dX9_supply_61 ?_
          refine X_if_ne C (tgt := 69) dX9_supply_62 (by decide) ⟨by omega, by omega⟩ (fun c_62 => ?_) (fun c_62 => ?_)
          · exfalso; omega
          refine X_iconst C dX9_supply_65 ?_
          refine X_goto C (tgt := 79) dX9_supply_66 (by decide) ?_
          refine Xp_X9_thrown C fw_X9_78 dX9_supply_79 ?_
          refine X_aload_n C rfl dX9_supply_82 ?_
          refine Xg_X9_thrown C up_s fl_X9_78 dX9_supply_83 ?_
          refine X_if_le C (tgt := 91) dX9_supply_86 (by decide) ⟨by omega, by omega⟩ (fun c_86 => ?_) (fun c_86 => ?_)
          · exfalso; omega
          refine X_iconst C dX9_supply_89 ?_
          exact X_ireturn C M rfl (by decide) (by decide) dX9_supply_90 ⟨rI (mA_n (k := kSup σ a b) (by first | omega | (unfold kSup; (repeat' split) <;> omega))).symm, rfl, by rw [mS_n (k := kSup σ a b) (v := 1) (by first | omega | (unfold kSup; (repeat' split) <;> omega)) (by decide)]⟩
    · refine X_iconst C dX9_supply_24 ?_
      refine X_goto C (tgt := 29) dX9_supply_25 (by decide) ?_
      refine X_istore_3 C (by decide) rfl dX9_supply_29 ?_
      refine X_aload_n C rfl dX9_supply_30 ?_
      refine Xg_X9_paper C rfl fl_X9_156 dX9_supply_31 ?_
      refine X_iload_n C rfl dX9_supply_34 ?_
      refine X_iadd C dX9_supply_35 ?_
      refine X_ldc C (n := 99999) (v := 99999) (by decide +kernel) k_X9_159 dX9_supply_36 ?_
      refine X_icmp_gt C (tgt := 53) dX9_supply_38 (by decide) ⟨by omega, by omega⟩ ⟨by omega, by omega⟩ (fun c_38 => ?_) (fun c_38 => ?_)
      · refine X_iconst C dX9_supply_53 ?_
        refine X_goto C (tgt := 58) dX9_supply_54 (by decide) ?_
        refine X_istore_4 C (by decide) rfl dX9_supply_58 ?_
        refine X_aload_n C rfl dX9_supply_60 ?_
        refine X_iload_n C rfl dX9_supply_61 ?_
        refine X_if_ne C (tgt := 69) dX9_supply_62 (by decide) ⟨by omega, by omega⟩ (fun c_62 => ?_) (fun c_62 => ?_)
        rotate_left
        · exfalso; omega
        refine X_iload C rfl dX9_supply_69 ?_
        refine X_if_eq C (tgt := 78) dX9_supply_71 (by decide) ⟨by omega, by omega⟩ (fun c_71 => ?_) (fun c_71 => ?_)
        · exfalso; omega
        refine X_iconst C dX9_supply_74 ?_
        refine X_goto C (tgt := 79) dX9_supply_75 (by decide) ?_
        refine Xp_X9_thrown C fw_X9_78 dX9_supply_79 ?_
        refine X_aload_n C rfl dX9_supply_82 ?_
        refine Xg_X9_thrown C up_s fl_X9_78 dX9_supply_83 ?_
        refine X_if_le C (tgt := 91) dX9_supply_86 (by decide) ⟨by omega, by omega⟩ (fun c_86 => ?_) (fun c_86 => ?_)
        · exfalso; omega
        refine X_iconst C dX9_supply_89 ?_
        exact X_ireturn C M rfl (by decide) (by decide) dX9_supply_90 ⟨rI (mA_n (k := kSup σ a b) (by first | omega | (unfold kSup; (repeat' split) <;> omega))).symm, rfl, by rw [mS_n (k := kSup σ a b) (v := 2) (by first | omega | (unfold kSup; (repeat' split) <;> omega)) (by decide)]⟩
      · refine X_aload_n C rfl dX9_supply_41 ?_
        refine Xg_X9_plates C rfl fl_X9_160 dX9_supply_42 ?_
        refine X_iload_n C rfl dX9_supply_45 ?_
        refine X_iadd C dX9_supply_46 ?_
        refine X_sipush C ⟨by decide, by decide⟩ dX9_supply_47 ?_
        refine X_icmp_le C (tgt := 57) dX9_supply_50 (by decide) ⟨by omega, by omega⟩ ⟨by omega, by omega⟩ (fun c_50 => ?_) (fun c_50 => ?_)
        · refine X_iconst C dX9_supply_57 ?_
          refine X_istore_4 C (by decide) rfl dX9_supply_58 ?_
          refine X_aload_n C rfl dX9_supply_60 ?_
          refine X_iload_n C rfl dX9_supply_61 ?_
          refine X_if_ne C (tgt := 69) dX9_supply_62 (by decide) ⟨by omega, by omega⟩ (fun c_62 => ?_) (fun c_62 => ?_)
          rotate_left
          · exfalso; omega
          refine X_iload C rfl dX9_supply_69 ?_
          refine X_if_eq C (tgt := 78) dX9_supply_71 (by decide) ⟨by omega, by omega⟩ (fun c_71 => ?_) (fun c_71 => ?_)
          rotate_left
          · exfalso; omega
          refine X_iconst C dX9_supply_78 ?_
          refine Xp_X9_thrown C fw_X9_78 dX9_supply_79 ?_
          refine X_aload_n C rfl dX9_supply_82 ?_
          refine Xg_X9_thrown C up_s fl_X9_78 dX9_supply_83 ?_
          refine X_if_le C (tgt := 91) dX9_supply_86 (by decide) ⟨by omega, by omega⟩ (fun c_86 => ?_) (fun c_86 => ?_)
          rotate_left
          · exfalso; omega
          refine X_aload_n C rfl dX9_supply_91 ?_
          refine X_dup C rfl dX9_supply_92 ?_
          refine Xg_X9_paper C (v := σ 33 0 0) (by simp (discharger := decide) only [up_r, up_s]) fl_X9_156 dX9_supply_93 ?_
          refine X_iload_n C rfl dX9_supply_96 ?_
          refine X_iadd C dX9_supply_97 ?_
          refine Xp_X9_paper C fw_X9_156 dX9_supply_98 ?_
          refine X_aload_n C rfl dX9_supply_101 ?_
          refine X_dup C rfl dX9_supply_102 ?_
          refine Xg_X9_plates C (v := σ 34 0 0) (by simp (discharger := decide) only [up_r, up_s]) fl_X9_160 dX9_supply_103 ?_
          refine X_iload_n C rfl dX9_supply_106 ?_
          refine X_iadd C dX9_supply_107 ?_
          refine Xp_X9_plates C fw_X9_160 dX9_supply_108 ?_
          refine X_aload_n C rfl dX9_supply_111 ?_
          refine Xg_X9_paper C (v := σ 33 0 0 + a) (by simp (discharger := decide) only [up_r, up_s]) fl_X9_156 dX9_supply_112 ?_
          exact X_ireturn C M rfl (by decide) (by decide) dX9_supply_115 ⟨rI (Eq.trans (by rfl) (mA_0 (k := kSup σ a b) (by first | omega | (unfold kSup; (repeat' split) <;> omega))).symm), rfl, by rw [mS_0 (k := kSup σ a b) (by first | omega | (unfold kSup; (repeat' split) <;> omega))]; all_goals rfl⟩
        · refine X_iconst C dX9_supply_53 ?_
          refine X_goto C (tgt := 58) dX9_supply_54 (by decide) ?_
          refine X_istore_4 C (by decide) rfl dX9_supply_58 ?_
          refine X_aload_n C rfl dX9_supply_60 ?_
          refine X_iload_n C rfl dX9_supply_61 ?_
          refine X_if_ne C (tgt := 69) dX9_supply_62 (by decide) ⟨by omega, by omega⟩ (fun c_62 => ?_) (fun c_62 => ?_)
          rotate_left
          · exfalso; omega
          refine X_iload C rfl dX9_supply_69 ?_
          refine X_if_eq C (tgt := 78) dX9_supply_71 (by decide) ⟨by omega, by omega⟩ (fun c_71 => ?_) (fun c_71 => ?_)
          · exfalso; omega
          refine X_iconst C dX9_supply_74 ?_
          refine X_goto C (tgt := 79) dX9_supply_75 (by decide) ?_
          refine Xp_X9_thrown C fw_X9_78 dX9_supply_79 ?_
          refine X_aload_n C rfl dX9_supply_82 ?_
          refine Xg_X9_thrown C up_s fl_X9_78 dX9_supply_83 ?_
          refine X_if_le C (tgt := 91) dX9_supply_86 (by decide) ⟨by omega, by omega⟩ (fun c_86 => ?_) (fun c_86 => ?_)
          · exfalso; omega
          refine X_iconst C dX9_supply_89 ?_
          exact X_ireturn C M rfl (by decide) (by decide) dX9_supply_90 ⟨rI (mA_n (k := kSup σ a b) (by first | omega | (unfold kSup; (repeat' split) <;> omega))).symm, rfl, by rw [mS_n (k := kSup σ a b) (v := 2) (by first | omega | (unfold kSup; (repeat' split) <;> omega)) (by decide)]⟩
