set_option maxRecDepth 100000 in
set_option maxHeartbeats 4000000 in
theorem c_X8_paper {lc : Launch} (hlc : lc.stackTraces = false) {D : va_G} {Y : Nat → ClassId} {A : Nat → Prop} {τ σ : xS} {ρ : xG} {ad : xL} {n : Int} (I : xI n τ) : Ct lc yX8_paper cX8_paper 1 (some .int) (rmL 0 0 0) D Y A ad (jG Y τ σ ρ ad) [.ref (ad 0 0)] (pE (some (.int (iI (τ 33 0 0)))) ad (jG Y τ σ ρ ad)) (pF) := by
  refine Ct_of hlc (by decide +kernel) rfl rfl (own := RX8) (nm := "paper") (l0 := [some (.ref (ad 0 0))]) rfl (Nat.le_of_ble_eq_true rfl) (fun κ C M => ?_)
  have Ind := I.nd
  have Inc := I.nc
  have Ino := I.no
  have In := I.n0
  refine X_aload_n C rfl dX8_paper_0 ?_
  refine Xg_X8_paperStock C rfl fl_X8_254 dX8_paper_1 ?_
  exact X_ireturn C M rfl (by decide) (by decide) dX8_paper_4 ⟨rfl, rfl, rfl⟩
set_option maxRecDepth 100000 in
set_option maxHeartbeats 4000000 in
theorem c_X8_plates {lc : Launch} (hlc : lc.stackTraces = false) {D : va_G} {Y : Nat → ClassId} {A : Nat → Prop} {τ σ : xS} {ρ : xG} {ad : xL} {n : Int} (I : xI n τ) : Ct lc yX8_plates cX8_plates 1 (some .int) (rmL 0 0 0) D Y A ad (jG Y τ σ ρ ad) [.ref (ad 0 0)] (pE (some (.int (iI (τ 34 0 0)))) ad (jG Y τ σ ρ ad)) (pF) := by
  refine Ct_of hlc (by decide +kernel) rfl rfl (own := RX8) (nm := "plates") (l0 := [some (.ref (ad 0 0))]) rfl (Nat.le_of_ble_eq_true rfl) (fun κ C M => ?_)
  have Ind := I.nd
  have Inc := I.nc
  have Ino := I.no
  have In := I.n0
  refine X_aload_n C rfl dX8_plates_0 ?_
  refine Xg_X8_plateStock C rfl fl_X8_258 dX8_plates_1 ?_
  exact X_ireturn C M rfl (by decide) (by decide) dX8_plates_4 ⟨rfl, rfl, rfl⟩
set_option maxRecDepth 100000 in
set_option maxHeartbeats 4000000 in
theorem c_X8_hour {lc : Launch} (hlc : lc.stackTraces = false) {D : va_G} {Y : Nat → ClassId} {A : Nat → Prop} {τ σ : xS} {ρ : xG} {ad : xL} {n : Int} (I : xI n τ) : Ct lc yX8_hour cX8_hour 1 (some .int) (rmL 0 0 0) D Y A ad (jG Y τ σ ρ ad) [.ref (ad 0 0)] (pE (some (.int (iI (τ 39 0 0)))) ad (jG Y τ σ ρ ad)) (pF) := by
  refine Ct_of hlc (by decide +kernel) rfl rfl (own := RX8) (nm := "hour") (l0 := [some (.ref (ad 0 0))]) rfl (Nat.le_of_ble_eq_true rfl) (fun κ C M => ?_)
  have Ind := I.nd
  have Inc := I.nc
  have Ino := I.no
  have In := I.n0
  refine X_aload_n C rfl dX8_hour_0 ?_
  refine Xg_X8_now C rfl fl_X8_140 dX8_hour_1 ?_
  exact X_ireturn C M rfl (by decide) (by decide) dX8_hour_4 ⟨rfl, rfl, rfl⟩
set_option maxRecDepth 100000 in
set_option maxHeartbeats 4000000 in
theorem c_X8_onPress {lc : Launch} (hlc : lc.stackTraces = false) {D : va_G} {Y : Nat → ClassId} {A : Nat → Prop} {τ σ : xS} {ρ : xG} {ad : xL} {n : Int} (I : xI n τ) : Ct lc yX8_onPress cX8_onPress 1 (some .int) (rmL 0 0 0) D Y A ad (jG Y τ σ ρ ad) [.ref (ad 0 0)] (pE (some (.int (iI (τ 35 0 0)))) ad (jG Y τ σ ρ ad)) (pF) := by
  refine Ct_of hlc (by decide +kernel) rfl rfl (own := RX8) (nm := "onPress") (l0 := [some (.ref (ad 0 0))]) rfl (Nat.le_of_ble_eq_true rfl) (fun κ C M => ?_)
  have Ind := I.nd
  have Inc := I.nc
  have Ino := I.no
  have In := I.n0
  by_cases hp : τ 35 0 0 = -1
  · refine X_aload_n C rfl dX8_onPress_0 ?_
    refine Xg_X8_press C fl_X8_37 dX8_onPress_1 ?_
    refine Xg_X5_order_N C hp fl_X8_335 dX8_onPress_4 ?_
    refine X_ifnonnullN C dX8_onPress_7 ?_
    refine X_iconst C dX8_onPress_10 ?_
    refine X_goto C (tgt := 24) dX8_onPress_11 (by decide) ?_
    exact X_ireturn C M rfl (by decide) (by decide) dX8_onPress_24 ⟨rI hp.symm, rfl, rfl⟩
  · have hpn : ¬ τ 35 0 0 = -1 := hp
    refine X_aload_n C rfl dX8_onPress_0 ?_
    refine Xg_X8_press C fl_X8_37 dX8_onPress_1 ?_
    refine Xg_X5_order_S C rfl hpn fl_X8_335 dX8_onPress_4 ?_
    refine X_ifnonnullR C (tgt := 14) dX8_onPress_7 (by decide) ?_
    refine X_aload_n C rfl dX8_onPress_14 ?_
    refine Xg_X8_press C fl_X8_37 dX8_onPress_15 ?_
    refine Xg_X5_order_S C rfl hpn fl_X8_335 dX8_onPress_18 ?_
    refine Xg_X4_number C (by have := I.po; omega) fl_X8_302 dX8_onPress_21 ?_
    exact X_ireturn C M rfl (by decide) (by decide) dX8_onPress_24 ⟨rfl, rfl, rfl⟩
set_option maxRecDepth 100000 in
set_option maxHeartbeats 4000000 in
theorem c_X8_close {lc : Launch} (hlc : lc.stackTraces = false) {D : va_G} {Y : Nat → ClassId} {A : Nat → Prop} {τ σ : xS} {ρ : xG} {ad : xL} {n z u : Int} (I : xI n τ) (hz0 : rg z) (hz1 : rg u) : Ct lc yX8_close cX8_close 5 (some .int) (rmL 1 2 12) D Y A ad (jG Y τ σ ρ ad) [.ref (ad 0 0), .int (iI z), .int (iI u)] (pC (kClo τ z u = 0) (some (.int (iI (τ 4 z 0)))) ad (jG Y (up τ 4 z 0 u) σ ρ ad)) (pT (fun E => exn [nX, eA] (kClo τ z u) = some E) ad (jG Y τ σ ρ ad)) := by
  refine Ct_of hlc (by decide +kernel) rfl rfl (own := RX8) (nm := "close") (l0 := [some (.ref (ad 0 0)), some (.int (iI z)), some (.int (iI u)), none, none]) rfl (Nat.le_of_ble_eq_true rfl) (fun κ C M => ?_)
  have Ind := I.nd
  have Inc := I.nc
  have Ino := I.no
  have In := I.n0
  refine X_aload_n C rfl dX8_close_0 ?_
  refine X_iload_n C rfl dX8_close_1 ?_
  refine X_callVC_1 C M (c_X8_documentOf C.hlc (by assumption) (by omega)) cv_X8_55 (jG_0 rfl) ⟨_, _, rfl⟩ rfl rfl dX8_close_2 (fun E h => ⟨by obtain ⟨rfl, h⟩ := h; rw [show kClo τ z u = 1 from by unfold kClo; (repeat' split) <;> omega]; rfl, rfl, rfl⟩) (fun h_2 => ?_)
  refine X_astore_3 C (by decide) rfl dX8_close_5 ?_
  refine X_iload_n C rfl dX8_close_6 ?_
  refine X_if_lt C (tgt := 17) dX8_close_7 (by decide) ⟨by omega, by omega⟩ (fun c_7 => ?_) (fun c_7 => ?_)
  · exact X_throw C M tw_X8_67_71 xs_X8_118 dX8_close_17 dX8_close_20 dX8_close_21 dX8_close_23 dX8_close_26 (by decide) (by decide) (by decide) (by decide) ⟨by rw [show kClo τ z u = 2 from by unfold kClo; (repeat' split) <;> omega]; rfl, rfl, rfl⟩
  · refine X_iload_n C rfl dX8_close_10 ?_
    refine X_sipush C ⟨by decide, by decide⟩ dX8_close_11 ?_
    refine X_icmp_le C (tgt := 27) dX8_close_14 (by decide) ⟨by omega, by omega⟩ ⟨by omega, by omega⟩ (fun c_14 => ?_) (fun c_14 => ?_)
    · refine X_aload_n C rfl dX8_close_27 ?_
      refine Xg_X1_closingHour C (by omega) rfl fl_X8_120 dX8_close_28 ?_
      refine X_istore_4 C (by decide) rfl dX8_close_31 ?_
      refine X_aload_n C rfl dX8_close_33 ?_
      refine X_iload_n C rfl dX8_close_34 ?_
      refine Xp_X1_closingHour C (by omega) fw_X8_120 dX8_close_35 ?_
      refine X_iload C rfl dX8_close_38 ?_
      exact X_ireturn C M rfl (by decide) (by decide) dX8_close_40 ⟨by unfold kClo; (repeat' split) <;> omega, rfl, rfl, rfl⟩
    · exact X_throw C M tw_X8_67_71 xs_X8_118 dX8_close_17 dX8_close_20 dX8_close_21 dX8_close_23 dX8_close_26 (by decide) (by decide) (by decide) (by decide) ⟨by rw [show kClo τ z u = 2 from by unfold kClo; (repeat' split) <;> omega]; rfl, rfl, rfl⟩
set_option maxRecDepth 100000 in
set_option maxHeartbeats 4000000 in
theorem c_X8_supply {lc : Launch} (hlc : lc.stackTraces = false) {D : va_G} {Y : Nat → ClassId} {A : Nat → Prop} {τ σ : xS} {ρ : xG} {ad : xL} {n a b : Int} (I : xI n τ) (hz0 : rg a) (hz1 : rg b) : Ct lc yX8_supply cX8_supply 3 (some .int) (rmL 0 1 6) D Y A ad (jG Y τ σ ρ ad) [.ref (ad 0 0), .int (iI a), .int (iI b)] (pC (kSup τ a b = 0) (some (.int (iI (τ 33 0 0 + a)))) ad (jG Y (supS τ a b) σ ρ ad)) (pT (fun E => exn [eA, eS] (kSup τ a b) = some E) ad (jG Y τ σ ρ ad)) := by
  refine Ct_of hlc (by decide +kernel) rfl rfl (own := RX8) (nm := "supply") (l0 := [some (.ref (ad 0 0)), some (.int (iI a)), some (.int (iI b))]) rfl (Nat.le_of_ble_eq_true rfl) (fun κ C M => ?_)
  have Ind := I.nd
  have Inc := I.nc
  have Ino := I.no
  have In := I.n0
  have k1 := I.pa
  have k2 := I.ls
  refine X_iload_n C rfl dX8_supply_0 ?_
  refine X_if_lt C (tgt := 21) dX8_supply_1 (by decide) ⟨by omega, by omega⟩ (fun c_1 => ?_) (fun c_1 => ?_)
  · exact X_throw C M tw_X8_67_71 xs_X8_252 dX8_supply_21 dX8_supply_24 dX8_supply_25 dX8_supply_27 dX8_supply_30 (by decide) (by decide) (by decide) (by decide) ⟨by rw [show kSup τ a b = 1 from by unfold kSup; (repeat' split) <;> omega]; rfl, rfl, rfl⟩
  · refine X_iload_n C rfl dX8_supply_4 ?_
    refine X_sipush C ⟨by decide, by decide⟩ dX8_supply_5 ?_
    refine X_icmp_gt C (tgt := 21) dX8_supply_8 (by decide) ⟨by omega, by omega⟩ ⟨by omega, by omega⟩ (fun c_8 => ?_) (fun c_8 => ?_)
    · exact X_throw C M tw_X8_67_71 xs_X8_252 dX8_supply_21 dX8_supply_24 dX8_supply_25 dX8_supply_27 dX8_supply_30 (by decide) (by decide) (by decide) (by decide) ⟨by rw [show kSup τ a b = 1 from by unfold kSup; (repeat' split) <;> omega]; rfl, rfl, rfl⟩
    · refine X_iload_n C rfl dX8_supply_11 ?_
      refine X_if_lt C (tgt := 21) dX8_supply_12 (by decide) ⟨by omega, by omega⟩ (fun c_12 => ?_) (fun c_12 => ?_)
      · exact X_throw C M tw_X8_67_71 xs_X8_252 dX8_supply_21 dX8_supply_24 dX8_supply_25 dX8_supply_27 dX8_supply_30 (by decide) (by decide) (by decide) (by decide) ⟨by rw [show kSup τ a b = 1 from by unfold kSup; (repeat' split) <;> omega]; rfl, rfl, rfl⟩
      · refine X_iload_n C rfl dX8_supply_15 ?_
        refine X_bipush C ⟨by decide, by decide⟩ dX8_supply_16 ?_
        refine X_icmp_le C (tgt := 31) dX8_supply_18 (by decide) ⟨by omega, by omega⟩ ⟨by omega, by omega⟩ (fun c_18 => ?_) (fun c_18 => ?_)
        · refine X_aload_n C rfl dX8_supply_31 ?_
          refine Xg_X8_paperStock C rfl fl_X8_254 dX8_supply_32 ?_
          refine X_iload_n C rfl dX8_supply_35 ?_
          refine X_iadd C dX8_supply_36 ?_
          refine X_ldcw C (n := 99999) (v := 99999) (by decide +kernel) k_X8_257 dX8_supply_37 ?_
          refine X_icmp_gt C (tgt := 55) dX8_supply_40 (by decide) ⟨by omega, by omega⟩ ⟨by omega, by omega⟩ (fun c_40 => ?_) (fun c_40 => ?_)
          · exact X_throwW C M tw_X8_45_49 xs_X8_261 dX8_supply_55 dX8_supply_58 dX8_supply_59 dX8_supply_62 dX8_supply_65 (by decide) (by decide) (by decide) (by decide) ⟨by rw [show kSup τ a b = 2 from by unfold kSup; (repeat' split) <;> omega]; rfl, rfl, rfl⟩
          · refine X_aload_n C rfl dX8_supply_43 ?_
            refine Xg_X8_plateStock C rfl fl_X8_258 dX8_supply_44 ?_
            refine X_iload_n C rfl dX8_supply_47 ?_
            refine X_iadd C dX8_supply_48 ?_
            refine X_sipush C ⟨by decide, by decide⟩ dX8_supply_49 ?_
            refine X_icmp_le C (tgt := 66) dX8_supply_52 (by decide) ⟨by omega, by omega⟩ ⟨by omega, by omega⟩ (fun c_52 => ?_) (fun c_52 => ?_)
            · refine X_aload_n C rfl dX8_supply_66 ?_
              refine X_dup C rfl dX8_supply_67 ?_
              refine Xg_X8_paperStock C rfl fl_X8_254 dX8_supply_68 ?_
              refine X_iload_n C rfl dX8_supply_71 ?_
              refine X_iadd C dX8_supply_72 ?_
              refine Xp_X8_paperStock C fw_X8_254 dX8_supply_73 ?_
              refine X_aload_n C rfl dX8_supply_76 ?_
              refine X_dup C rfl dX8_supply_77 ?_
              refine Xg_X8_plateStock C (v := τ 34 0 0) (by simp (discharger := decide) only [up_r, upR_r, up_s, pasH_r, prT1_r, prT2_r, prT3_r, prT_r]) fl_X8_258 dX8_supply_78 ?_
              refine X_iload_n C rfl dX8_supply_81 ?_
              refine X_iadd C dX8_supply_82 ?_
              refine Xp_X8_plateStock C fw_X8_258 dX8_supply_83 ?_
              refine X_aload_n C rfl dX8_supply_86 ?_
              refine Xg_X8_paperStock C (v := τ 33 0 0 + a) (by simp (discharger := decide) only [up_r, upR_r, up_s, pasH_r, prT1_r, prT2_r, prT3_r, prT_r]) fl_X8_254 dX8_supply_87 ?_
              exact X_ireturn C M rfl (by decide) (by decide) dX8_supply_90 ⟨by unfold kSup; (repeat' split) <;> omega, rfl, rfl, rfl⟩
            · exact X_throwW C M tw_X8_45_49 xs_X8_261 dX8_supply_55 dX8_supply_58 dX8_supply_59 dX8_supply_62 dX8_supply_65 (by decide) (by decide) (by decide) (by decide) ⟨by rw [show kSup τ a b = 2 from by unfold kSup; (repeat' split) <;> omega]; rfl, rfl, rfl⟩
        · exact X_throw C M tw_X8_67_71 xs_X8_252 dX8_supply_21 dX8_supply_24 dX8_supply_25 dX8_supply_27 dX8_supply_30 (by decide) (by decide) (by decide) (by decide) ⟨by rw [show kSup τ a b = 1 from by unfold kSup; (repeat' split) <;> omega]; rfl, rfl, rfl⟩
set_option maxRecDepth 100000 in
set_option maxHeartbeats 4000000 in
theorem c_X8_plateLength {lc : Launch} (hlc : lc.stackTraces = false) {D : va_G} {Y : Nat → ClassId} {A : Nat → Prop} {τ σ : xS} {ρ : xG} {ad : xL} {n z s : Int} (I : xI n τ) (hz0 : rg z) (hz1 : rg s) : Ct lc yX8_plateLength cX8_plateLength 3 (some .int) (rmL 2 3 18) D Y A ad (jG Y τ σ ρ ad) [.ref (ad 0 0), .int (iI z), .int (iI s)] (pC (kPlL τ z s = 0) (some (.int (iI (τ 15 (3 * z + s) 0)))) ad (jG Y τ σ ρ ad)) (pT (fun E => exn [nX, eI, eS] (kPlL τ z s) = some E) ad (jG Y τ σ ρ ad)) := by
  refine Ct_of hlc (by decide +kernel) rfl rfl (own := RX8) (nm := "plateLength") (l0 := [some (.ref (ad 0 0)), some (.int (iI z)), some (.int (iI s))]) rfl (Nat.le_of_ble_eq_true rfl) (fun κ C M => ?_)
  have Ind := I.nd
  have Inc := I.nc
  have Ino := I.no
  have In := I.n0
  refine X_aload_n C rfl dX8_plateLength_0 ?_
  refine X_iload_n C rfl dX8_plateLength_1 ?_
  refine X_iload_n C rfl dX8_plateLength_2 ?_
  refine X_callVC_2 C M (c_X8_platedRecordOf C.hlc (by assumption) (by omega) (by omega)) cv_X8_369 (jG_0 rfl) ⟨_, _, rfl⟩ rfl rfl dX8_plateLength_3 (fun E h => ⟨(h.elim (fun h => by obtain ⟨rfl, h⟩ := h; rw [show kPlL τ z s = 1 from by unfold kPlL; (repeat' split) <;> omega]; rfl) (fun h => h.elim (fun h => by obtain ⟨rfl, h, h2⟩ := h; rw [show kPlL τ z s = 2 from by unfold kPlL; (repeat' split) <;> omega]; rfl) (fun h => by obtain ⟨rfl, h, h2, h3⟩ := h; have k9 := I.hl (3 * z + s) (by have := I.sb (τ 9 z 0); omega) (by have := I.sb (τ 9 z 0); omega); rw [show kPlL τ z s = 3 from by unfold kPlL; (repeat' split) <;> omega]; rfl))), rfl, rfl⟩) (fun h_3 => ?_)
  have k9 := I.hl (3 * z + s) (by have := I.sb (τ 9 z 0); omega) (by have := I.sb (τ 9 z 0); omega)
  have k8 := I.zs (3 * z + s)
  have k7 := I.sb (τ 9 z 0)
  refine Xg_X6_plateSize C (by omega) rfl fl_X8_373 dX8_plateLength_6 ?_
  exact X_ireturn C M rfl (by decide) (by decide) dX8_plateLength_9 ⟨by unfold kPlL; (repeat' split) <;> omega, rI (by omega), rfl, rfl⟩
set_option maxRecDepth 100000 in
set_option maxHeartbeats 4000000 in
theorem c_X8_plateAt {lc : Launch} (hlc : lc.stackTraces = false) {D : va_G} {Y : Nat → ClassId} {A : Nat → Prop} {τ σ : xS} {ρ : xG} {ad : xL} {n z s i : Int} (I : xI n τ) (hz0 : rg z) (hz1 : rg s) (hz2 : rg i) : Ct lc yX8_plateAt cX8_plateAt 5 (some .int) (rmL 2 4 24) D Y A ad (jG Y τ σ ρ ad) [.ref (ad 0 0), .int (iI z), .int (iI s), .int (iI i)] (pC (kPlA τ z s i = 0) (some (.int (iI (τ 17 (3 * z + s) i)))) ad (jG Y τ σ ρ ad)) (pT (fun E => exn [nX, eI, eS] (kPlA τ z s i) = some E) ad (jG Y τ σ ρ ad)) := by
  refine Ct_of hlc (by decide +kernel) rfl rfl (own := RX8) (nm := "plateAt") (l0 := [some (.ref (ad 0 0)), some (.int (iI z)), some (.int (iI s)), some (.int (iI i)), none]) rfl (Nat.le_of_ble_eq_true rfl) (fun κ C M => ?_)
  have Ind := I.nd
  have Inc := I.nc
  have Ino := I.no
  have In := I.n0
  refine X_aload_n C rfl dX8_plateAt_0 ?_
  refine X_iload_n C rfl dX8_plateAt_1 ?_
  refine X_iload_n C rfl dX8_plateAt_2 ?_
  refine X_callVC_2 C M (c_X8_platedRecordOf C.hlc (by assumption) (by omega) (by omega)) cv_X8_369 (jG_0 rfl) ⟨_, _, rfl⟩ rfl rfl dX8_plateAt_3 (fun E h => ⟨(h.elim (fun h => by obtain ⟨rfl, h⟩ := h; rw [show kPlA τ z s i = 1 from by unfold kPlA; (repeat' split) <;> omega]; rfl) (fun h => h.elim (fun h => by obtain ⟨rfl, h, h2⟩ := h; rw [show kPlA τ z s i = 2 from by unfold kPlA; (repeat' split) <;> omega]; rfl) (fun h => by obtain ⟨rfl, h, h2, h3⟩ := h; have k9 := I.hl (3 * z + s) (by have := I.sb (τ 9 z 0); omega) (by have := I.sb (τ 9 z 0); omega); rw [show kPlA τ z s i = 3 from by unfold kPlA; (repeat' split) <;> omega]; rfl))), rfl, rfl⟩) (fun h_3 => ?_)
  have k9 := I.hl (3 * z + s) (by have := I.sb (τ 9 z 0); omega) (by have := I.sb (τ 9 z 0); omega)
  have k8 := I.zs (3 * z + s)
  have k7 := I.sb (τ 9 z 0)
  refine X_astore_4 C (by decide) rfl dX8_plateAt_6 ?_
  refine X_iload_n C rfl dX8_plateAt_8 ?_
  refine X_if_lt C (tgt := 21) dX8_plateAt_9 (by decide) ⟨by omega, by omega⟩ (fun c_9 => ?_) (fun c_9 => ?_)
  · exact X_throw C M tw_X8_45_49 xs_X8_250 dX8_plateAt_21 dX8_plateAt_24 dX8_plateAt_25 dX8_plateAt_27 dX8_plateAt_30 (by decide) (by decide) (by decide) (by decide) ⟨by rw [show kPlA τ z s i = 3 from by unfold kPlA; (repeat' split) <;> omega]; rfl, rfl, rfl⟩
  · refine X_iload_n C rfl dX8_plateAt_12 ?_
    refine X_aload C rfl dX8_plateAt_13 ?_
    refine Xg_X6_plateSize C (by omega) rfl fl_X8_373 dX8_plateAt_15 ?_
    refine X_icmp_lt C (tgt := 31) dX8_plateAt_18 (by decide) ⟨by omega, by omega⟩ ⟨by omega, by omega⟩ (fun c_18 => ?_) (fun c_18 => ?_)
    · refine X_aload C rfl dX8_plateAt_31 ?_
      refine Xg_X6_plate C (by omega) fl_X8_376 dX8_plateAt_33 ?_
      refine X_iload_n C rfl dX8_plateAt_36 ?_
      refine Xa_plate_ld C (by omega) (by omega) (by omega) rfl dX8_plateAt_37 ?_
      exact X_ireturn C M rfl (by decide) (by decide) dX8_plateAt_38 ⟨by unfold kPlA; (repeat' split) <;> omega, rfl, rfl, rfl⟩
    · exact X_throw C M tw_X8_45_49 xs_X8_250 dX8_plateAt_21 dX8_plateAt_24 dX8_plateAt_25 dX8_plateAt_27 dX8_plateAt_30 (by decide) (by decide) (by decide) (by decide) ⟨by rw [show kPlA τ z s i = 3 from by unfold kPlA; (repeat' split) <;> omega]; rfl, rfl, rfl⟩
set_option maxRecDepth 100000 in
set_option maxHeartbeats 4000000 in
theorem c_X8_cost {lc : Launch} (hlc : lc.stackTraces = false) {D : va_G} {Y : Nat → ClassId} {A : Nat → Prop} {τ σ : xS} {ρ : xG} {ad : xL} {n z : Int} (I : xI n τ) (hz0 : rg z) : Ct lc yX8_cost cX8_cost 3 (some .long) (rmL 1 1 6) D Y A ad (jG Y τ σ ρ ad) [.ref (ad 0 0), .int (iI z)] (pC (kOdr τ z = 0) (some (.long (lI (2 * τ 12 z 0 + 30 * τ 13 z 0)))) ad (jG Y τ σ ρ ad)) (pT (fun E => exn [nX] (kOdr τ z) = some E) ad (jG Y τ σ ρ ad)) := by
  refine Ct_of hlc (by decide +kernel) rfl rfl (own := RX8) (nm := "cost") (l0 := [some (.ref (ad 0 0)), some (.int (iI z)), none]) rfl (Nat.le_of_ble_eq_true rfl) (fun κ C M => ?_)
  have Ind := I.nd
  have Inc := I.nc
  have Ino := I.no
  have In := I.n0
  refine X_aload_n C rfl dX8_cost_0 ?_
  refine X_iload_n C rfl dX8_cost_1 ?_
  refine X_callVC_1 C M (c_X8_orderOf C.hlc (by assumption) (by omega)) cv_X8_277 (jG_0 rfl) ⟨_, _, rfl⟩ rfl rfl dX8_cost_2 (fun E h => ⟨by obtain ⟨rfl, h⟩ := h; rw [show kOdr τ z = 1 from by unfold kOdr; (repeat' split) <;> omega]; rfl, rfl, rfl⟩) (fun h_2 => ?_)
  refine X_astore_2 C (by decide) rfl dX8_cost_5 ?_
  have k1 := I.pf z 0
  have k2 := I.lf z 0
  refine X_ldc2 C (n := 2) (v := 2) (by decide +kernel) k_X8_388 dX8_cost_6 ?_
  refine X_aload_n C rfl dX8_cost_9 ?_
  refine Xg_X4_paperTaken C (by omega) rfl fl_X8_346 dX8_cost_10 ?_
  refine X_i2l C ⟨by omega, by omega⟩ dX8_cost_13 ?_
  refine X_lmul C dX8_cost_14 ?_
  refine X_ldc2 C (n := 30) (v := 30) (by decide +kernel) k_X8_390 dX8_cost_15 ?_
  refine X_aload_n C rfl dX8_cost_18 ?_
  refine Xg_X4_platesTaken C (by omega) rfl fl_X8_349 dX8_cost_19 ?_
  refine X_i2l C ⟨by omega, by omega⟩ dX8_cost_22 ?_
  refine X_lmul C dX8_cost_23 ?_
  refine X_ladd C dX8_cost_24 ?_
  exact X_lreturn C M (by decide) (by decide) dX8_cost_25 ⟨by unfold kOdr; (repeat' split) <;> omega, rfl, rfl, rfl⟩
set_option maxRecDepth 100000 in
set_option maxHeartbeats 4000000 in
theorem c_X8_lateBy {lc : Launch} (hlc : lc.stackTraces = false) {D : va_G} {Y : Nat → ClassId} {A : Nat → Prop} {τ σ : xS} {ρ : xG} {ad : xL} {n z : Int} (I : xI n τ) (hz0 : rg z) : Ct lc yX8_lateBy cX8_lateBy 3 (some .int) (rmL 6 1 6) D Y A ad (jG Y τ σ ρ ad) [.ref (ad 0 0), .int (iI z)] (pC (kOdr τ z = 0) (some (.int (iI (ltA τ z)))) ad (jG Y τ σ ρ ad)) (pT (fun E => exn [nX] (kOdr τ z) = some E) ad (jG Y τ σ ρ ad)) := by
  refine Ct_of hlc (by decide +kernel) rfl rfl (own := RX8) (nm := "lateBy") (l0 := [some (.ref (ad 0 0)), some (.int (iI z)), none]) rfl (Nat.le_of_ble_eq_true rfl) (fun κ C M => ?_)
  have Ind := I.nd
  have Inc := I.nc
  have Ino := I.no
  have In := I.n0
  refine X_aload_n C rfl dX8_lateBy_0 ?_
  refine X_iload_n C rfl dX8_lateBy_1 ?_
  refine X_callVC_1 C M (c_X8_orderOf C.hlc (by assumption) (by omega)) cv_X8_277 (jG_0 rfl) ⟨_, _, rfl⟩ rfl rfl dX8_lateBy_2 (fun E h => ⟨by obtain ⟨rfl, h⟩ := h; rw [show kOdr τ z = 1 from by unfold kOdr; (repeat' split) <;> omega]; rfl, rfl, rfl⟩) (fun h_2 => ?_)
  refine X_astore_2 C (by decide) rfl dX8_lateBy_5 ?_
  have k1 := I.hr
  have k2 := I.du z 0
  refine X_aload_n C rfl dX8_lateBy_6 ?_
  refine Xg_X8_now C rfl fl_X8_140 dX8_lateBy_7 ?_
  refine X_aload_n C rfl dX8_lateBy_10 ?_
  refine Xg_X4_due C (by omega) rfl fl_X8_294 dX8_lateBy_11 ?_
  refine X_icmp_le C (tgt := 25) dX8_lateBy_14 (by decide) ⟨by omega, by omega⟩ ⟨by omega, by omega⟩ (fun c_14 => ?_) (fun c_14 => ?_)
  · refine X_iconst C dX8_lateBy_25 ?_
    exact X_ireturn C M rfl (by decide) (by decide) dX8_lateBy_26 ⟨by unfold kOdr; (repeat' split) <;> omega, rI (by unfold ltA; exact (pk_t (Or.inl c_14)).symm), rfl, rfl⟩
  · refine X_aload_n C rfl dX8_lateBy_17 ?_
    refine X_aload_n C rfl dX8_lateBy_18 ?_
    refine X_callVE_1 C (c_X8_isFinished C.hlc (by assumption) (by omega)) cv_X8_290 (jG_0 rfl) ⟨_, _, rfl⟩ rfl rfl dX8_lateBy_19 ?_
    refine X_if_eqB C (tgt := 27) dX8_lateBy_22 (by decide) (fun c_22 => ?_) (fun c_22 => ?_)
    · refine X_aload_n C rfl dX8_lateBy_27 ?_
      refine Xg_X8_now C rfl fl_X8_140 dX8_lateBy_28 ?_
      refine X_aload_n C rfl dX8_lateBy_31 ?_
      refine Xg_X4_due C (by omega) rfl fl_X8_294 dX8_lateBy_32 ?_
      refine X_isub C dX8_lateBy_35 ?_
      exact X_ireturn C M rfl (by decide) (by decide) dX8_lateBy_36 ⟨by unfold kOdr; (repeat' split) <;> omega, rI (by unfold ltA; exact (pk_f (fun q => q.elim c_14 c_22)).symm), rfl, rfl⟩
    · refine X_iconst C dX8_lateBy_25 ?_
      exact X_ireturn C M rfl (by decide) (by decide) dX8_lateBy_26 ⟨by unfold kOdr; (repeat' split) <;> omega, rI (by unfold ltA; exact (pk_t (Or.inr c_22)).symm), rfl, rfl⟩
set_option maxRecDepth 100000 in
set_option maxHeartbeats 4000000 in
theorem c_X8_pass {lc : Launch} (hlc : lc.stackTraces = false) {D : va_G} {Y : Nat → ClassId} {A : Nat → Prop} {τ σ : xS} {ρ : xG} {ad : xL} {n u : Int} (I : xI n τ) (hz0 : rg u) : Ct lc yX8_pass cX8_pass 2 (some .int) (rmL 3 1 6) D Y A ad (jG Y τ σ ρ ad) [.ref (ad 0 0), .int (iI u)] (pC (kPas τ u = 0) (some (.int (iI (pasA τ u)))) ad (jG Y (pasS τ u) σ ρ ad)) (pT (fun E => exn [eA, eS] (kPas τ u) = some E) ad (jG Y τ σ ρ ad)) := by
  refine Ct_of hlc (by decide +kernel) rfl rfl (own := RX8) (nm := "pass") (l0 := [some (.ref (ad 0 0)), some (.int (iI u))]) rfl (Nat.le_of_ble_eq_true rfl) (fun κ C M => ?_)
  have Ind := I.nd
  have Inc := I.nc
  have Ino := I.no
  have In := I.n0
  have k1 := I.hr
  have k2 := I.pu
  refine X_iload_n C rfl dX8_pass_0 ?_
  refine X_iconst C dX8_pass_1 ?_
  refine X_icmp_lt C (tgt := 11) dX8_pass_2 (by decide) ⟨by omega, by omega⟩ ⟨by omega, by omega⟩ (fun c_2 => ?_) (fun c_2 => ?_)
  · exact X_throwW C M tw_X8_67_71 xs_X8_362 dX8_pass_11 dX8_pass_14 dX8_pass_15 dX8_pass_18 dX8_pass_21 (by decide) (by decide) (by decide) (by decide) ⟨by rw [show kPas τ u = 1 from by unfold kPas; (repeat' split) <;> omega]; rfl, rfl, rfl⟩
  · refine X_iload_n C rfl dX8_pass_5 ?_
    refine X_bipush C ⟨by decide, by decide⟩ dX8_pass_6 ?_
    refine X_icmp_le C (tgt := 22) dX8_pass_8 (by decide) ⟨by omega, by omega⟩ ⟨by omega, by omega⟩ (fun c_8 => ?_) (fun c_8 => ?_)
    · refine X_aload_n C rfl dX8_pass_22 ?_
      refine Xg_X8_now C rfl fl_X8_140 dX8_pass_23 ?_
      refine X_iload_n C rfl dX8_pass_26 ?_
      refine X_iadd C dX8_pass_27 ?_
      refine X_sipush C ⟨by decide, by decide⟩ dX8_pass_28 ?_
      refine X_icmp_le C (tgt := 45) dX8_pass_31 (by decide) ⟨by omega, by omega⟩ ⟨by omega, by omega⟩ (fun c_31 => ?_) (fun c_31 => ?_)
      · refine X_aload_n C rfl dX8_pass_45 ?_
        refine X_dup C rfl dX8_pass_46 ?_
        refine Xg_X8_now C rfl fl_X8_140 dX8_pass_47 ?_
        refine X_iload_n C rfl dX8_pass_50 ?_
        refine X_iadd C dX8_pass_51 ?_
        refine Xp_X8_now C fw_X8_140 dX8_pass_52 ?_
        by_cases hp : τ 35 0 0 = -1
        · refine X_aload_n C rfl dX8_pass_55 ?_
          refine Xg_X8_press C fl_X8_37 dX8_pass_56 ?_
          refine Xg_X5_order_N C (by rw [up_r (by decide)]; exact hp) fl_X8_335 dX8_pass_59 ?_
          refine X_ifnullN C (tgt := 79) dX8_pass_62 (by decide) ?_
          refine X_iconst C dX8_pass_79 ?_
          exact X_ireturn C M rfl (by decide) (by decide) dX8_pass_80 ⟨by unfold kPas; (repeat' split) <;> omega, rI (by unfold pasA; rw [if_neg (show ¬ pasP τ u from fun q => q.1 hp)]), rfl, by unfold pasS; rw [if_neg (show ¬ pasP τ u from fun q => q.1 hp)]; rfl⟩
        · have hpn : ¬ τ 35 0 0 = -1 := hp
          refine X_aload_n C rfl dX8_pass_55 ?_
          refine Xg_X8_press C fl_X8_37 dX8_pass_56 ?_
          refine Xg_X5_order_S C (o := τ 35 0 0) (by rw [up_r (by decide)]) hpn fl_X8_335 dX8_pass_59 ?_
          refine X_ifnullR C dX8_pass_62 ?_
          refine X_aload_n C rfl dX8_pass_65 ?_
          refine Xg_X8_press C fl_X8_37 dX8_pass_66 ?_
          refine Xg_X5_leavingHour C (v := τ 37 0 0) (by rw [up_r (by decide)]) fl_X8_359 dX8_pass_69 ?_
          refine X_aload_n C rfl dX8_pass_72 ?_
          refine Xg_X8_now C (v := τ 39 0 0 + u) (by rw [up_s]) fl_X8_140 dX8_pass_73 ?_
          refine X_icmp_le C (tgt := 81) dX8_pass_76 (by decide) ⟨by omega, by omega⟩ ⟨by omega, by omega⟩ (fun c_76 => ?_) (fun c_76 => ?_)
          · refine X_aload_n C rfl dX8_pass_81 ?_
            refine Xg_X8_press C fl_X8_37 dX8_pass_82 ?_
            refine X_callVE0_0 C (c_X5_unload C.hlc (by rw [up_r (by decide)]; exact hp) (by simp (discharger := decide) only [up_r]; have := I.po; omega) (by simp (discharger := decide) only [up_r]; exact I.ps) (by intro i; rw [up_r (by decide)]; rw [I.ip]; split <;> omega)) cv_X8_366 (jG_9 rfl) ⟨_, _, rfl⟩ rfl rfl dX8_pass_85 ?_
            refine X_iconst C dX8_pass_88 ?_
            exact X_ireturn C M rfl (by decide) (by decide) dX8_pass_89 ⟨by unfold kPas; (repeat' split) <;> omega, rI (by unfold pasA; rw [if_pos (show pasP τ u from ⟨hp, by omega⟩)]), rfl, by unfold pasS; rw [if_pos (show pasP τ u from ⟨hp, by omega⟩)]; rfl⟩
          · refine X_iconst C dX8_pass_79 ?_
            exact X_ireturn C M rfl (by decide) (by decide) dX8_pass_80 ⟨by unfold kPas; (repeat' split) <;> omega, rI (by unfold pasA; rw [if_neg (show ¬ pasP τ u from fun q => absurd q.2 (by omega))]), rfl, by unfold pasS; rw [if_neg (show ¬ pasP τ u from fun q => absurd q.2 (by omega))]; rfl⟩
      · exact X_throwW C M tw_X8_45_49 xs_X8_364 dX8_pass_34 dX8_pass_37 dX8_pass_38 dX8_pass_41 dX8_pass_44 (by decide) (by decide) (by decide) (by decide) ⟨by rw [show kPas τ u = 2 from by unfold kPas; (repeat' split) <;> omega]; rfl, rfl, rfl⟩
    · exact X_throwW C M tw_X8_67_71 xs_X8_362 dX8_pass_11 dX8_pass_14 dX8_pass_15 dX8_pass_18 dX8_pass_21 (by decide) (by decide) (by decide) (by decide) ⟨by rw [show kPas τ u = 1 from by unfold kPas; (repeat' split) <;> omega]; rfl, rfl, rfl⟩
set_option maxRecDepth 100000 in
set_option maxHeartbeats 4000000 in
theorem c_X8_nextOrder {lc : Launch} (hlc : lc.stackTraces = false) {D : va_G} {Y : Nat → ClassId} {A : Nat → Prop} {τ σ : xS} {ρ : xG} {ad : xL} {n : Int} (I : xI n τ) : Ct lc yX8_nextOrder cX8_nextOrder 3 (some .int) (rmL 6 1 6) D Y A ad (jG Y τ σ ρ ad) [.ref (ad 0 0)] (pC (kNxo τ = 0) (some (.int (iI (nxA τ (τ 32 0 0))))) ad (jG Y τ σ ρ ad)) (pT (fun E => exn [eS] (kNxo τ) = some E) ad (jG Y τ σ ρ ad)) := by
  refine Ct_of hlc (by decide +kernel) rfl rfl (own := RX8) (nm := "nextOrder") (l0 := [some (.ref (ad 0 0)), none, none]) rfl (Nat.le_of_ble_eq_true rfl) (fun κ C M => ?_)
  have Ind := I.nd
  have Inc := I.nc
  have Ino := I.no
  have In := I.n0
  refine X_null C dX8_nextOrder_0 ?_
  refine X_astoreq_1 C (by decide) rfl dX8_nextOrder_1 ?_
  refine X_iconst C dX8_nextOrder_2 ?_
  refine X_istore_2 C (by decide) rfl dX8_nextOrder_3 ?_
  have L4 : ∀ (n9 : Nat) (q : Option Nat) (c : Int), (0 ≤ c ∧ c ≤ τ 32 0 0) → (q = if nxA τ c = -1 then none else some (ad 15 (nxA τ c))) → τ 32 0 0 - c < (n9 : Int) → X κ D A 3 0 0 4 ([some (.ref (ad 0 0)), some (va_rf q), some (.int (iI c))]) ([]) ad (jG Y τ σ ρ ad) := by
    intro n9
    induction n9 with
    | zero => intro q c  hc hq hm; exfalso; omega
    | succ n9 ih =>
      intro q c  hc hq hm
      refine X_iload_n C rfl dX8_nextOrder_4 ?_
      refine X_aload_n C rfl dX8_nextOrder_5 ?_
      refine Xg_X8_orderCount C rfl fl_X8_263 dX8_nextOrder_6 ?_
      refine X_icmp_ge C (tgt := 55) dX8_nextOrder_9 (by decide) ⟨by omega, by omega⟩ ⟨by omega, by omega⟩ (fun c_9 => ?_) (fun c_9 => ?_)
      · obtain rfl : c = τ 32 0 0 := by omega
        refine X_aloadq_n C rfl dX8_nextOrder_55 ?_
        refine X_ifnonnull C (tgt := 70) dX8_nextOrder_56 (by decide) (fun c_56 => ?_) (fun c_56 => ?_)
        · have hne : ¬ nxA τ (τ 32 0 0) = -1 := fun w => c_56 (by rw [hq, if_pos w])
          rw [if_neg hne] at hq
          subst hq
          have hnb := nxA_b (τ := τ) hc.1
          refine X_aload_n C rfl dX8_nextOrder_70 ?_
          refine Xg_X4_number C (by omega) fl_X8_302 dX8_nextOrder_71 ?_
          exact X_ireturn C M rfl (by decide) (by decide) dX8_nextOrder_74 ⟨by unfold kNxo; rw [if_neg hne], rfl, rfl, rfl⟩
        · exact X_throwW C M tw_X8_45_49 xs_X8_300 dX8_nextOrder_59 dX8_nextOrder_62 dX8_nextOrder_63 dX8_nextOrder_66 dX8_nextOrder_69 (by decide) (by decide) (by decide) (by decide) ⟨by rw [show kNxo τ = 1 from by unfold kNxo; rw [if_pos (Classical.byContradiction fun w => by rw [if_neg w] at hq; rw [c_56] at hq; cases hq)]]; rfl, rfl, rfl⟩
      · refine X_aload_n C rfl dX8_nextOrder_12 ?_
        refine X_aload_n C rfl dX8_nextOrder_13 ?_
        refine Xg_X8_orders C fl_X8_23 dX8_nextOrder_14 ?_
        refine X_iload_n C rfl dX8_nextOrder_17 ?_
        refine Xa_ords_ld C (by omega) (by omega) (by omega) dX8_nextOrder_18 ?_
        refine X_callVE_1 C (c_X8_isFinished C.hlc (by assumption) (by omega)) cv_X8_290 (jG_0 rfl) ⟨_, _, rfl⟩ rfl rfl dX8_nextOrder_19 ?_
        refine X_if_neB C (tgt := 49) dX8_nextOrder_22 (by decide) (fun c_22 => ?_) (fun c_22 => ?_)
        · refine X_iinc_2 C (by decide) (by first | rfl | (cases q <;> rfl)) dX8_nextOrder_49 ?_
          refine X_goto C (tgt := 4) dX8_nextOrder_52 (by decide) ?_
          exact ih _ (c + 1) (by omega) (by rw [nxA_s hc.1, pk_f (fun w => w.1 c_22)]; exact hq) (by omega)
        · refine X_aloadq_n C rfl dX8_nextOrder_25 ?_
          refine X_ifnull C (tgt := 42) dX8_nextOrder_26 (by decide) (fun c_26 => ?_) (fun c_26 => ?_)
          · refine X_aload_n C rfl dX8_nextOrder_42 ?_
            refine Xg_X8_orders C fl_X8_23 dX8_nextOrder_43 ?_
            refine X_iload_n C rfl dX8_nextOrder_46 ?_
            refine Xa_ords_ld C (by omega) (by omega) (by omega) dX8_nextOrder_47 ?_
            refine X_astore_1 C (by decide) rfl dX8_nextOrder_48 ?_
            refine X_iinc_2 C (by decide) (by first | rfl | (cases q <;> rfl)) dX8_nextOrder_49 ?_
            refine X_goto C (tgt := 4) dX8_nextOrder_52 (by decide) ?_
            exact ih (some (ad 15 c)) (c + 1) (by omega) (by rw [nxA_s hc.1, pk_t ⟨c_22, Or.inl (Classical.byContradiction fun w => by rw [if_neg w] at hq; rw [c_26] at hq; cases hq)⟩, if_neg (by omega)]) (by omega)
          · have hne : ¬ nxA τ c = -1 := fun w => c_26 (by rw [hq, if_pos w])
            rw [if_neg hne] at hq
            subst hq
            have hnb := nxA_b (τ := τ) hc.1
            refine X_aload_n C rfl dX8_nextOrder_29 ?_
            refine Xg_X8_orders C fl_X8_23 dX8_nextOrder_30 ?_
            refine X_iload_n C rfl dX8_nextOrder_33 ?_
            refine Xa_ords_ld C (by omega) (by omega) (by omega) dX8_nextOrder_34 ?_
            refine X_aload_n C rfl dX8_nextOrder_35 ?_
            refine X_callVE_1 C (c_X4_isMoreUrgentThan C.hlc (by omega) (by omega) (by omega) (fun i => ⟨I.cp i 0, I.du i 0⟩)) cv_X8_297 (jG_15 (by omega)) ⟨_, _, rfl⟩ rfl rfl dX8_nextOrder_36 ?_
            refine X_if_eqB C (tgt := 49) dX8_nextOrder_39 (by decide) (fun c_39 => ?_) (fun c_39 => ?_)
            · refine X_iinc_2 C (by decide) (by first | rfl | (cases q <;> rfl)) dX8_nextOrder_49 ?_
              refine X_goto C (tgt := 4) dX8_nextOrder_52 (by decide) ?_
              exact ih (some (ad 15 (nxA τ c))) (c + 1) (by omega) (by rw [nxA_s hc.1, pk_f (fun w => w.2.elim hne (fun w => c_39 w)), if_neg hne]) (by omega)
            · refine X_aload_n C rfl dX8_nextOrder_42 ?_
              refine Xg_X8_orders C fl_X8_23 dX8_nextOrder_43 ?_
              refine X_iload_n C rfl dX8_nextOrder_46 ?_
              refine Xa_ords_ld C (by omega) (by omega) (by omega) dX8_nextOrder_47 ?_
              refine X_astore_1 C (by decide) rfl dX8_nextOrder_48 ?_
              refine X_iinc_2 C (by decide) (by first | rfl | (cases q <;> rfl)) dX8_nextOrder_49 ?_
              refine X_goto C (tgt := 4) dX8_nextOrder_52 (by decide) ?_
              exact ih (some (ad 15 c)) (c + 1) (by omega) (by rw [nxA_s hc.1, pk_t ⟨c_22, Or.inr c_39⟩, if_neg (by omega)]) (by omega)
  exact L4 9 none 0 (by omega) rfl (by omega)
set_option maxRecDepth 100000 in
set_option maxHeartbeats 4000000 in
theorem c_X8_nextSheet {lc : Launch} (hlc : lc.stackTraces = false) {D : va_G} {Y : Nat → ClassId} {A : Nat → Prop} {τ σ : xS} {ρ : xG} {ad : xL} {n z : Int} (I : xI n τ) (hz : rg z) : Ct lc yX8_nextSheet cX8_nextSheet 5 (some .int) (rmL 4 2 12) D Y A ad (jG Y τ σ ρ ad) [.ref (ad 0 0), .int (iI z)] (pC (kNxs τ z = 0) (some (.int (iI (nsA τ z)))) ad (jG Y τ σ ρ ad)) (pT (fun E => exn [nX, eS] (kNxs τ z) = some E) ad (jG Y τ σ ρ ad)) := by
  refine Ct_of hlc (by decide +kernel) rfl rfl (own := RX8) (nm := "nextSheet") (l0 := [some (.ref (ad 0 0)), some (.int (iI z)), none, none, none]) rfl (Nat.le_of_ble_eq_true rfl) (fun κ C M => ?_)
  have Ind := I.nd
  have Inc := I.nc
  have Ino := I.no
  have In := I.n0
  refine X_aload_n C rfl dX8_nextSheet_0 ?_
  refine X_iload_n C rfl dX8_nextSheet_1 ?_
  refine X_callVC_1 C M (c_X8_orderOf C.hlc (by assumption) (by omega)) cv_X8_277 (jG_0 rfl) ⟨_, _, rfl⟩ rfl rfl dX8_nextSheet_2 (fun E h => ⟨by obtain ⟨rfl, h⟩ := h; rw [show kNxs τ z = 1 from by unfold kNxs; (repeat' split) <;> omega]; rfl, rfl, rfl⟩) (fun h_2 => ?_)
  refine X_astore_2 C (by decide) rfl dX8_nextSheet_5 ?_
  have k3 := I.od z (by omega) (by omega)
  have k5 := I.sb (τ 9 z 0)
  refine X_aload_n C rfl dX8_nextSheet_6 ?_
  refine Xg_X4_document C (by omega) rfl fl_X8_285 dX8_nextSheet_7 ?_
  refine Xg_X1_proofSheets C (by omega) (v := shT τ (τ 9 z 0)) (I.sh _) fl_X8_216 dX8_nextSheet_10 ?_
  refine X_istore_3 C (by decide) rfl dX8_nextSheet_13 ?_
  refine X_iconst C dX8_nextSheet_14 ?_
  refine X_istore_4 C (by decide) rfl dX8_nextSheet_15 ?_
  have L17 : ∀ (n9 : Nat) (s : Int), (0 ≤ s ∧ s ≤ shT τ (τ 9 z 0)) → (∀ j, 0 ≤ j → j < s → ¬ (stA τ z j = 119 ∨ stA τ z j = 115)) → shT τ (τ 9 z 0) - s < (n9 : Int) → X κ D A 5 1 6 17 ([some (.ref (ad 0 0)), some (.int (iI z)), some (.ref (ad 15 z)), some (.int (iI (shT τ (τ 9 z 0)))), some (.int (iI s))]) ([]) ad (jG Y τ σ ρ ad) := by
    intro n9
    induction n9 with
    | zero => intro s  hs0 hall hm; exfalso; omega
    | succ n9 ih =>
      intro s  hs0 hall hm
      refine X_iload C rfl dX8_nextSheet_17 ?_
      refine X_iload_n C rfl dX8_nextSheet_19 ?_
      refine X_icmp_ge C (tgt := 45) dX8_nextSheet_20 (by decide) ⟨by omega, by omega⟩ ⟨by omega, by omega⟩ (fun c_20 => ?_) (fun c_20 => ?_)
      · obtain rfl : s = shT τ (τ 9 z 0) := by omega
        exact X_throwW C M tw_X8_45_49 xs_X8_309 dX8_nextSheet_45 dX8_nextSheet_48 dX8_nextSheet_49 dX8_nextSheet_52 dX8_nextSheet_55 (by decide) (by decide) (by decide) (by decide) ⟨by rw [show kNxs τ z = 2 from by unfold kNxs; rw [if_neg (by omega), if_pos (show nsA τ z = -1 from fsA_n (p := fun s => stA τ z s = 119 ∨ stA τ z s = 115) k5.1 hall)]]; rfl, rfl, rfl⟩
      · refine X_aload_n C rfl dX8_nextSheet_23 ?_
        refine X_aload_n C rfl dX8_nextSheet_24 ?_
        refine X_iload C rfl dX8_nextSheet_25 ?_
        refine X_callVE_2 C (c_X8_stateOn C.hlc (by assumption) (by omega) (by omega)) cv_X8_286 (jG_0 rfl) ⟨_, _, rfl⟩ rfl rfl dX8_nextSheet_27 ?_
        have hv := stA_v τ z s
        refine X_callSE_1 C (c_X8_isToBePrinted C.hlc (by omega)) cs_X8_305 rfl rfl dX8_nextSheet_30 ?_
        refine X_if_eqB C (tgt := 39) dX8_nextSheet_33 (by decide) (fun c_33 => ?_) (fun c_33 => ?_)
        · refine X_iinc_4 C (by decide) rfl dX8_nextSheet_39 ?_
          refine X_goto C (tgt := 17) dX8_nextSheet_42 (by decide) ?_
          exact ih (s + 1) (by omega) (fun j a b w => by by_cases e : j = s; subst e; exact c_33 w; exact hall j a (by omega) w) (by omega)
        · refine X_iload C rfl dX8_nextSheet_36 ?_
          exact X_ireturn C M rfl (by decide) (by decide) dX8_nextSheet_38 ⟨by unfold kNxs; rw [if_neg (by omega), if_neg (by rw [show nsA τ z = s from fsA_y (p := fun s => stA τ z s = 119 ∨ stA τ z s = 115) hs0.1 (by omega) c_33 hall]; omega)], rI (show nsA τ z = s from fsA_y (p := fun s => stA τ z s = 119 ∨ stA τ z s = 115) hs0.1 (by omega) c_33 hall).symm, rfl, rfl⟩
  exact L17 9 0 (by omega) (fun j a b => by omega) (by omega)
