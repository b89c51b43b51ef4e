set_option maxRecDepth 100000 in
set_option maxHeartbeats 4000000 in
theorem c_X8_print {lc : Launch} (hlc : lc.stackTraces = false) {D : va_G} {Y : Nat → ClassId} {A : Nat → Prop} {τ σ : xS} {ρ : xG} {ad : xL} {n z s : Int} (I : xI n τ) (hz0 : rg z) (hz1 : rg s) : Ct lc yX8_print cX8_print 6 (some .int) (rmL 4 3 18) D Y A ad (jG Y τ σ ρ ad) [.ref (ad 0 0), .int (iI z), .int (iI s)] (pC (kPrt τ z s = 0) (some (.int (iI (prH τ z)))) ad (jG Y (prtS τ z s) σ ρ ad)) (pT (fun E => exn [nX, eI, eS, eU] (kPrt τ z s) = some E) ad (jG Y τ σ ρ ad)) := by
  refine Ct_of hlc (by decide +kernel) rfl rfl (own := RX8) (nm := "print") (l0 := [some (.ref (ad 0 0)), some (.int (iI z)), some (.int (iI s)), none, none, none]) rfl (Nat.le_of_ble_eq_true rfl) (fun κ C M => ?_)
  have Ind := I.nd
  have Inc := I.nc
  have Ino := I.no
  have In := I.n0
  refine X_aload_n C rfl dX8_print_0 ?_
  refine X_iload_n C rfl dX8_print_1 ?_
  refine X_callVC_1 C M (c_X8_orderOf C.hlc (by assumption) (by omega)) cv_X8_277 (jG_0 rfl) ⟨_, _, rfl⟩ rfl rfl dX8_print_2 (fun E h => ⟨by obtain ⟨rfl, h⟩ := h; rw [show kPrt τ z s = 1 from by unfold kPrt; (repeat' split) <;> omega]; rfl, rfl, rfl⟩) (fun h_2 => ?_)
  refine X_astore_3 C (by decide) rfl dX8_print_5 ?_
  have k3 := I.od z (by omega) (by omega)
  have k5 := I.sb (τ 9 z 0)
  refine X_aload_n C rfl dX8_print_6 ?_
  refine Xg_X4_document C (by (try simp (discharger := decide) only [up_r, upR_r, up_s, plS_r]); omega) rfl fl_X8_285 dX8_print_7 ?_
  refine X_iload_n C rfl dX8_print_10 ?_
  refine X_callSC0_2 C M (c_X8_requireSheet C.hlc (by assumption) (by omega) (by omega)) cs_X8_222 rfl rfl dX8_print_11 (fun E h => ⟨by obtain ⟨rfl, h⟩ := h; rw [show kPrt τ z s = 2 from by unfold kPrt; (repeat' split) <;> omega]; rfl, rfl, rfl⟩) (fun h_11 => ?_)
  have hdk := I.dok (d := τ 9 z 0) (by omega) (by omega)
  have k6 := I.cp z 0
  have k7 := I.pa
  have k8 := I.ls
  have k9 := I.hr
  have k10 := I.pf z 0
  have k11 := I.lf z 0
  refine X_aload_n C rfl dX8_print_14 ?_
  refine Xg_X8_press C fl_X8_37 dX8_print_15 ?_
  by_cases hp : τ 35 0 0 = -1
  · refine Xg_X5_order_N C hp fl_X8_335 dX8_print_18 ?_
    refine X_ifnonnullN C dX8_print_21 ?_
    refine X_aload_n C rfl dX8_print_24 ?_
    refine X_aload_n C rfl dX8_print_25 ?_
    refine X_iload_n C rfl dX8_print_26 ?_
    refine X_callVE_2 C (c_X8_stateOn C.hlc (by assumption) (by omega) (by omega)) cv_X8_286 (jG_0 rfl) ⟨_, _, rfl⟩ rfl rfl dX8_print_27 ?_
    have hv := stA_v τ z s
    refine X_bipush C ⟨by decide, by decide⟩ dX8_print_30 ?_
    refine X_icmp_ne C (tgt := 46) dX8_print_32 (by decide) ⟨by omega, by omega⟩ ⟨by omega, by omega⟩ (fun c_32 => ?_) (fun c_32 => ?_)
    · refine X_aload_n C rfl dX8_print_46 ?_
      refine Xg_X4_records C (by (try simp (discharger := decide) only [up_r, upR_r, up_s, plS_r]); omega) fl_X8_317 dX8_print_47 ?_
      refine X_iload_n C rfl dX8_print_50 ?_
      refine Xa_recs_ld C (by (try simp (discharger := decide) only [up_r, upR_r, up_s, plS_r]); omega) (by omega) (by omega) dX8_print_51 ?_
      refine X_astore_4 C (by decide) rfl dX8_print_52 ?_
      refine X_aload C rfl dX8_print_54 ?_
      refine X_aload_n C rfl dX8_print_56 ?_
      refine Xg_X4_document C (by (try simp (discharger := decide) only [up_r, upR_r, up_s, plS_r]); omega) rfl fl_X8_285 dX8_print_57 ?_
      refine X_iload_n C rfl dX8_print_60 ?_
      refine X_callVE_2 C (c_X6_hasPlateFor C.hlc (by omega) (by omega) hdk h_11 I.cd (I.pt _) (I.zs _) (I.hp _ _)) cv_X8_341 (jG_17 (by (try simp (discharger := decide) only [up_r, upR_r, up_s, plS_r]); omega)) ⟨_, _, rfl⟩ rfl rfl dX8_print_61 ?_
      refine X_if_neB C (tgt := 71) dX8_print_64 (by decide) (fun c_64 => ?_) (fun c_64 => ?_)
      · have hb9 := bI_t c_64
        refine X_iconst C dX8_print_71 ?_
        refine X_istore_5 C (by decide) rfl dX8_print_72 ?_
        refine X_aload_n C rfl dX8_print_74 ?_
        refine Xg_X8_paperStock C rfl fl_X8_254 dX8_print_75 ?_
        refine X_aload_n C rfl dX8_print_78 ?_
        refine Xg_X4_copies C (by (try simp (discharger := decide) only [up_r, upR_r, up_s, plS_r]); omega) rfl fl_X8_332 dX8_print_79 ?_
        refine X_icmp_lt C (tgt := 98) dX8_print_82 (by decide) ⟨by omega, by omega⟩ ⟨by omega, by omega⟩ (fun c_82 => ?_) (fun c_82 => ?_)
        · exact X_throwW C M tw_X8_135_139 xs_X8_344 dX8_print_98 dX8_print_101 dX8_print_102 dX8_print_105 dX8_print_108 (by decide) (by decide) (by decide) (by decide) ⟨by rw [show kPrt τ z s = 4 from by unfold kPrt; (repeat' split) <;> omega]; rfl, rfl, rfl⟩
        · refine X_iload C rfl dX8_print_85 ?_
          refine X_if_eq C (tgt := 109) dX8_print_87 (by decide) ⟨by omega, by omega⟩ (fun c_87 => ?_) (fun c_87 => ?_)
          rotate_left
          · exfalso; omega
          refine X_aload_n C rfl dX8_print_109 ?_
          refine X_dup C rfl dX8_print_110 ?_
          refine Xg_X8_paperStock C rfl fl_X8_254 dX8_print_111 ?_
          refine X_aload_n C rfl dX8_print_114 ?_
          refine Xg_X4_copies C (by (try simp (discharger := decide) only [up_r, upR_r, up_s, plS_r]); omega) rfl fl_X8_332 dX8_print_115 ?_
          refine X_isub C dX8_print_118 ?_
          refine Xp_X8_paperStock C fw_X8_254 dX8_print_119 ?_
          refine X_aload_n C rfl dX8_print_122 ?_
          refine X_dup C rfl dX8_print_123 ?_
          refine Xg_X4_paperTaken C (by (try simp (discharger := decide) only [up_r, upR_r, up_s, plS_r]); omega) (v := τ 12 z 0) (by simp (discharger := decide) only [up_r, upR_r, up_s, plS_r]) fl_X8_346 dX8_print_124 ?_
          refine X_aload_n C rfl dX8_print_127 ?_
          refine Xg_X4_copies C (by (try simp (discharger := decide) only [up_r, upR_r, up_s, plS_r]); omega) (v := τ 10 z 0) (by simp (discharger := decide) only [up_r, upR_r, up_s, plS_r]) fl_X8_332 dX8_print_128 ?_
          refine X_iadd C dX8_print_131 ?_
          refine Xp_X4_paperTaken C (by (try simp (discharger := decide) only [up_r, upR_r, up_s, plS_r]); omega) fw_X8_346 dX8_print_132 ?_
          refine X_iload C rfl dX8_print_135 ?_
          refine X_if_eq C (tgt := 170) dX8_print_137 (by decide) ⟨by omega, by omega⟩ (fun c_137 => ?_) (fun c_137 => ?_)
          rotate_left
          · exfalso; omega
          refine X_aload_n C rfl dX8_print_170 ?_
          refine Xg_X8_press C fl_X8_37 dX8_print_171 ?_
          refine X_aload_n C rfl dX8_print_174 ?_
          refine X_iload_n C rfl dX8_print_175 ?_
          refine X_aload_n C rfl dX8_print_176 ?_
          refine Xg_X8_now C (v := τ 39 0 0) (by simp (discharger := decide) only [up_r, upR_r, up_s, plS_r]) fl_X8_140 dX8_print_177 ?_
          refine X_iconst C dX8_print_180 ?_
          refine X_iadd C dX8_print_181 ?_
          refine X_aload_n C rfl dX8_print_182 ?_
          refine Xg_X4_copies C (by (try simp (discharger := decide) only [up_r, upR_r, up_s, plS_r]); omega) (v := τ 10 z 0) (by simp (discharger := decide) only [up_r, upR_r, up_s, plS_r]) fl_X8_332 dX8_print_183 ?_
          refine X_bipush C ⟨by decide, by decide⟩ dX8_print_186 ?_
          refine X_idiv C ⟨by omega, by omega⟩ (by omega) ⟨by omega, by omega⟩ (by omega) dX8_print_188 ?_
          refine X_iadd C dX8_print_189 ?_
          refine X_callVE0_3 C (c_X5_load C.hlc (by omega) (by simp (discharger := decide) only [up_r, upR_r, up_s, plS_r]; omega) (by simp (discharger := decide) only [up_r, upR_r, up_s, plS_r]; exact (hdk.c (by simp (discharger := decide) only [up_r, upR_r, up_s, plS_r]) (by simp (discharger := decide) only [up_r, upR_r, up_s, plS_r]) (by simp (discharger := decide) only [up_r, upR_r, up_s, plS_r]))) (by (try simp (discharger := decide) only [up_r, upR_r, up_s, plS_r]); rw [show shT _ (τ 9 z 0) = shT τ (τ 9 z 0) from shT_c (by simp (discharger := decide) only [up_r, upR_r, up_s, plS_r])]; exact h_11)) cv_X8_355 (jG_9 rfl) ⟨_, _, rfl⟩ rfl rfl dX8_print_190 ?_
          refine X_aload_n C rfl dX8_print_193 ?_
          refine Xg_X8_press C fl_X8_37 dX8_print_194 ?_
          refine Xg_X5_leavingHour C (v := prH τ z) (by unfold ldS prH; simp (discharger := decide) only [up_r, upR_r, up_s, plS_r]) fl_X8_359 dX8_print_197 ?_
          exact X_ireturn C M rfl (by decide) (by decide) dX8_print_200 ⟨by unfold kPrt; (repeat' split) <;> omega, rI (by rfl), rfl, by unfold prtS prT; rw [if_neg (by rw [bI_t c_64]; decide)]; rfl⟩
      · have hb9 := bI_f c_64
        refine X_iconst C dX8_print_67 ?_
        refine X_goto C (tgt := 72) dX8_print_68 (by decide) ?_
        refine X_istore_5 C (by decide) rfl dX8_print_72 ?_
        refine X_aload_n C rfl dX8_print_74 ?_
        refine Xg_X8_paperStock C rfl fl_X8_254 dX8_print_75 ?_
        refine X_aload_n C rfl dX8_print_78 ?_
        refine Xg_X4_copies C (by (try simp (discharger := decide) only [up_r, upR_r, up_s, plS_r]); omega) rfl fl_X8_332 dX8_print_79 ?_
        refine X_icmp_lt C (tgt := 98) dX8_print_82 (by decide) ⟨by omega, by omega⟩ ⟨by omega, by omega⟩ (fun c_82 => ?_) (fun c_82 => ?_)
        · exact X_throwW C M tw_X8_135_139 xs_X8_344 dX8_print_98 dX8_print_101 dX8_print_102 dX8_print_105 dX8_print_108 (by decide) (by decide) (by decide) (by decide) ⟨by rw [show kPrt τ z s = 4 from by unfold kPrt; (repeat' split) <;> omega]; rfl, rfl, rfl⟩
        · refine X_iload C rfl dX8_print_85 ?_
          refine X_if_eq C (tgt := 109) dX8_print_87 (by decide) ⟨by omega, by omega⟩ (fun c_87 => ?_) (fun c_87 => ?_)
          · exfalso; omega
          refine X_aload_n C rfl dX8_print_90 ?_
          refine Xg_X8_plateStock C rfl fl_X8_258 dX8_print_91 ?_
          refine X_iconst C dX8_print_94 ?_
          refine X_icmp_ge C (tgt := 109) dX8_print_95 (by decide) ⟨by omega, by omega⟩ ⟨by omega, by omega⟩ (fun c_95 => ?_) (fun c_95 => ?_)
          · refine X_aload_n C rfl dX8_print_109 ?_
            refine X_dup C rfl dX8_print_110 ?_
            refine Xg_X8_paperStock C rfl fl_X8_254 dX8_print_111 ?_
            refine X_aload_n C rfl dX8_print_114 ?_
            refine Xg_X4_copies C (by (try simp (discharger := decide) only [up_r, upR_r, up_s, plS_r]); omega) rfl fl_X8_332 dX8_print_115 ?_
            refine X_isub C dX8_print_118 ?_
            refine Xp_X8_paperStock C fw_X8_254 dX8_print_119 ?_
            refine X_aload_n C rfl dX8_print_122 ?_
            refine X_dup C rfl dX8_print_123 ?_
            refine Xg_X4_paperTaken C (by (try simp (discharger := decide) only [up_r, upR_r, up_s, plS_r]); omega) (v := τ 12 z 0) (by simp (discharger := decide) only [up_r, upR_r, up_s, plS_r]) fl_X8_346 dX8_print_124 ?_
            refine X_aload_n C rfl dX8_print_127 ?_
            refine Xg_X4_copies C (by (try simp (discharger := decide) only [up_r, upR_r, up_s, plS_r]); omega) (v := τ 10 z 0) (by simp (discharger := decide) only [up_r, upR_r, up_s, plS_r]) fl_X8_332 dX8_print_128 ?_
            refine X_iadd C dX8_print_131 ?_
            refine Xp_X4_paperTaken C (by (try simp (discharger := decide) only [up_r, upR_r, up_s, plS_r]); omega) fw_X8_346 dX8_print_132 ?_
            refine X_iload C rfl dX8_print_135 ?_
            refine X_if_eq C (tgt := 170) dX8_print_137 (by decide) ⟨by omega, by omega⟩ (fun c_137 => ?_) (fun c_137 => ?_)
            · exfalso; omega
            refine X_aload_n C rfl dX8_print_140 ?_
            refine X_dup C rfl dX8_print_141 ?_
            refine Xg_X8_plateStock C (v := τ 34 0 0) (by simp (discharger := decide) only [up_r, upR_r, up_s, plS_r]) fl_X8_258 dX8_print_142 ?_
            refine X_iconst C dX8_print_145 ?_
            refine X_isub C dX8_print_146 ?_
            refine Xp_X8_plateStock C fw_X8_258 dX8_print_147 ?_
            refine X_aload_n C rfl dX8_print_150 ?_
            refine X_dup C rfl dX8_print_151 ?_
            refine Xg_X4_platesTaken C (by (try simp (discharger := decide) only [up_r, upR_r, up_s, plS_r]); omega) (v := τ 13 z 0) (by simp (discharger := decide) only [up_r, upR_r, up_s, plS_r]) fl_X8_349 dX8_print_152 ?_
            refine X_iconst C dX8_print_155 ?_
            refine X_iadd C dX8_print_156 ?_
            refine Xp_X4_platesTaken C (by (try simp (discharger := decide) only [up_r, upR_r, up_s, plS_r]); omega) fw_X8_349 dX8_print_157 ?_
            refine X_aload C rfl dX8_print_160 ?_
            refine X_aload_n C rfl dX8_print_162 ?_
            refine Xg_X4_document C (by (try simp (discharger := decide) only [up_r, upR_r, up_s, plS_r]); omega) (v := τ 9 z 0) (by simp (discharger := decide) only [up_r, upR_r, up_s, plS_r]) fl_X8_285 dX8_print_163 ?_
            refine X_iload_n C rfl dX8_print_166 ?_
            refine X_callVE0_2 C (c_X6_makePlate C.hlc (by omega) (by simp (discharger := decide) only [up_r, upR_r, up_s, plS_r]; omega) (hdk.c (by simp (discharger := decide) only [up_r, upR_r, up_s, plS_r]) (by simp (discharger := decide) only [up_r, upR_r, up_s, plS_r]) (by simp (discharger := decide) only [up_r, upR_r, up_s, plS_r])) (by (try simp (discharger := decide) only [up_r, upR_r, up_s, plS_r]); rw [show shT _ (τ 9 z 0) = shT τ (τ 9 z 0) from shT_c (by simp (discharger := decide) only [up_r, upR_r, up_s, plS_r])]; exact h_11) (by intro t p; simp (discharger := decide) only [up_r, upR_r, up_s, plS_r]; exact I.cd t p)) cv_X8_352 (jG_17 (by simp (discharger := decide) only [up_r, upR_r, up_s, plS_r]; omega)) ⟨_, _, rfl⟩ rfl rfl dX8_print_167 ?_
            refine X_aload_n C rfl dX8_print_170 ?_
            refine Xg_X8_press C fl_X8_37 dX8_print_171 ?_
            refine X_aload_n C rfl dX8_print_174 ?_
            refine X_iload_n C rfl dX8_print_175 ?_
            refine X_aload_n C rfl dX8_print_176 ?_
            refine Xg_X8_now C (v := τ 39 0 0) (by simp (discharger := decide) only [up_r, upR_r, up_s, plS_r]) fl_X8_140 dX8_print_177 ?_
            refine X_iconst C dX8_print_180 ?_
            refine X_iadd C dX8_print_181 ?_
            refine X_aload_n C rfl dX8_print_182 ?_
            refine Xg_X4_copies C (by (try simp (discharger := decide) only [up_r, upR_r, up_s, plS_r]); omega) (v := τ 10 z 0) (by simp (discharger := decide) only [up_r, upR_r, up_s, plS_r]) fl_X8_332 dX8_print_183 ?_
            refine X_bipush C ⟨by decide, by decide⟩ dX8_print_186 ?_
            refine X_idiv C ⟨by omega, by omega⟩ (by omega) ⟨by omega, by omega⟩ (by omega) dX8_print_188 ?_
            refine X_iadd C dX8_print_189 ?_
            refine X_callVE0_3 C (c_X5_load C.hlc (by omega) (by simp (discharger := decide) only [up_r, upR_r, up_s, plS_r]; omega) (by simp (discharger := decide) only [up_r, upR_r, up_s, plS_r]; exact (hdk.c (by simp (discharger := decide) only [up_r, upR_r, up_s, plS_r]) (by simp (discharger := decide) only [up_r, upR_r, up_s, plS_r]) (by simp (discharger := decide) only [up_r, upR_r, up_s, plS_r]))) (by (try simp (discharger := decide) only [up_r, upR_r, up_s, plS_r]); rw [show shT _ (τ 9 z 0) = shT τ (τ 9 z 0) from shT_c (by simp (discharger := decide) only [up_r, upR_r, up_s, plS_r])]; exact h_11)) cv_X8_355 (jG_9 rfl) ⟨_, _, rfl⟩ rfl rfl dX8_print_190 ?_
            refine X_aload_n C rfl dX8_print_193 ?_
            refine Xg_X8_press C fl_X8_37 dX8_print_194 ?_
            refine Xg_X5_leavingHour C (v := prH τ z) (by unfold ldS prH; simp (discharger := decide) only [up_r, upR_r, up_s, plS_r]) fl_X8_359 dX8_print_197 ?_
            exact X_ireturn C M rfl (by decide) (by decide) dX8_print_200 ⟨by unfold kPrt; (repeat' split) <;> omega, rI (by rfl), rfl, by unfold prtS prT; rw [if_pos (bI_f c_64)]; rfl⟩
          · exact X_throwW C M tw_X8_135_139 xs_X8_344 dX8_print_98 dX8_print_101 dX8_print_102 dX8_print_105 dX8_print_108 (by decide) (by decide) (by decide) (by decide) ⟨by rw [show kPrt τ z s = 4 from by unfold kPrt; (repeat' split) <;> omega]; rfl, rfl, rfl⟩
    · exact X_throwW C M tw_X8_45_49 xs_X8_339 dX8_print_35 dX8_print_38 dX8_print_39 dX8_print_42 dX8_print_45 (by decide) (by decide) (by decide) (by decide) ⟨by rw [show kPrt τ z s = 3 from by unfold kPrt; (repeat' split) <;> omega]; rfl, rfl, rfl⟩
  · have hpn : ¬ τ 35 0 0 = -1 := hp
    refine Xg_X5_order_S C rfl hpn fl_X8_335 dX8_print_18 ?_
    refine X_ifnonnullR C (tgt := 35) dX8_print_21 (by decide) ?_
    exact X_throwW C M tw_X8_45_49 xs_X8_339 dX8_print_35 dX8_print_38 dX8_print_39 dX8_print_42 dX8_print_45 (by decide) (by decide) (by decide) (by decide) ⟨by rw [show kPrt τ z s = 3 from by unfold kPrt; (repeat' split) <;> omega]; rfl, rfl, rfl⟩
