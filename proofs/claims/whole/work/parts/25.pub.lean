set_option maxRecDepth 100000 in
set_option maxHeartbeats 4000000 in
theorem c_X8_length {lc : Launch} (hlc : lc.stackTraces = false) {D : va_G} {Y : Nat → ClassId} {A : Nat → Prop} {τ σ : xS} {ρ : xG} {ad : xL} {n z : Int} (I : xI n τ) (hz0 : rg z) : Ct lc yX8_length cX8_length 2 (some .int) (rmL 1 1 6) D Y A ad (jG Y τ σ ρ ad) [.ref (ad 0 0), .int (iI z)] (pC (kDoc τ z = 0) (some (.int (iI (τ 1 (2 * z) 0)))) ad (jG Y τ σ ρ ad)) (pT (fun E => exn [nX] (kDoc τ z) = some E) ad (jG Y τ σ ρ ad)) := by
  refine Ct_of hlc (by decide +kernel) rfl rfl (own := RX8) (nm := "length") (l0 := [some (.ref (ad 0 0)), some (.int (iI z))]) rfl (Nat.le_of_ble_eq_true rfl) (fun κ C M => ?_)
  have Ind := I.nd
  have Inc := I.nc
  have Ino := I.no
  have In := I.n0
  refine X_aload_n C rfl dX8_length_0 ?_
  refine X_iload_n C rfl dX8_length_1 ?_
  refine X_callVC_1 C M (c_X8_documentOf C.hlc (by assumption) (by omega)) cv_X8_55 (jG_0 rfl) ⟨_, _, rfl⟩ rfl rfl dX8_length_2 (fun E h => ⟨by obtain ⟨rfl, h⟩ := h; rw [show kDoc τ z = 1 from by unfold kDoc; (repeat' split) <;> omega]; rfl, rfl, rfl⟩) (fun h_2 => ?_)
  refine Xg_X1_text C (by omega) fl_X8_72 dX8_length_5 ?_
  refine Xg_X7_size C (by omega) rfl fl_X8_76 dX8_length_8 ?_
  exact X_ireturn C M rfl (by decide) (by decide) dX8_length_11 ⟨by unfold kDoc; (repeat' split) <;> omega, rfl, rfl, rfl⟩
set_option maxRecDepth 100000 in
set_option maxHeartbeats 4000000 in
theorem c_X8_version {lc : Launch} (hlc : lc.stackTraces = false) {D : va_G} {Y : Nat → ClassId} {A : Nat → Prop} {τ σ : xS} {ρ : xG} {ad : xL} {n z : Int} (I : xI n τ) (hz0 : rg z) : Ct lc yX8_version cX8_version 2 (some .int) (rmL 1 1 6) D Y A ad (jG Y τ σ ρ ad) [.ref (ad 0 0), .int (iI z)] (pC (kDoc τ z = 0) (some (.int (iI (τ 2 z 0)))) ad (jG Y τ σ ρ ad)) (pT (fun E => exn [nX] (kDoc τ z) = some E) ad (jG Y τ σ ρ ad)) := by
  refine Ct_of hlc (by decide +kernel) rfl rfl (own := RX8) (nm := "version") (l0 := [some (.ref (ad 0 0)), some (.int (iI z))]) rfl (Nat.le_of_ble_eq_true rfl) (fun κ C M => ?_)
  have Ind := I.nd
  have Inc := I.nc
  have Ino := I.no
  have In := I.n0
  refine X_aload_n C rfl dX8_version_0 ?_
  refine X_iload_n C rfl dX8_version_1 ?_
  refine X_callVC_1 C M (c_X8_documentOf C.hlc (by assumption) (by omega)) cv_X8_55 (jG_0 rfl) ⟨_, _, rfl⟩ rfl rfl dX8_version_2 (fun E h => ⟨by obtain ⟨rfl, h⟩ := h; rw [show kDoc τ z = 1 from by unfold kDoc; (repeat' split) <;> omega]; rfl, rfl, rfl⟩) (fun h_2 => ?_)
  refine Xg_X1_version C (by omega) rfl fl_X8_90 dX8_version_5 ?_
  exact X_ireturn C M rfl (by decide) (by decide) dX8_version_8 ⟨by unfold kDoc; (repeat' split) <;> omega, rfl, rfl, rfl⟩
set_option maxRecDepth 100000 in
set_option maxHeartbeats 4000000 in
theorem c_X8_codeAt {lc : Launch} (hlc : lc.stackTraces = false) {D : va_G} {Y : Nat → ClassId} {A : Nat → Prop} {τ σ : xS} {ρ : xG} {ad : xL} {n z p : Int} (I : xI n τ) (hz0 : rg z) (hz1 : rg p) : Ct lc yX8_codeAt cX8_codeAt 4 (some .int) (rmL 1 2 12) D Y A ad (jG Y τ σ ρ ad) [.ref (ad 0 0), .int (iI z), .int (iI p)] (pC (kCod τ z p = 0) (some (.int (iI (tAt τ (2 * z) p)))) ad (jG Y τ σ ρ ad)) (pT (fun E => exn [nX, eI] (kCod τ z p) = some E) ad (jG Y τ σ ρ ad)) := by
  refine Ct_of hlc (by decide +kernel) rfl rfl (own := RX8) (nm := "codeAt") (l0 := [some (.ref (ad 0 0)), some (.int (iI z)), some (.int (iI p)), none]) rfl (Nat.le_of_ble_eq_true rfl) (fun κ C M => ?_)
  have Ind := I.nd
  have Inc := I.nc
  have Ino := I.no
  have In := I.n0
  refine X_aload_n C rfl dX8_codeAt_0 ?_
  refine X_iload_n C rfl dX8_codeAt_1 ?_
  refine X_callVC_1 C M (c_X8_documentOf C.hlc (by assumption) (by omega)) cv_X8_55 (jG_0 rfl) ⟨_, _, rfl⟩ rfl rfl dX8_codeAt_2 (fun E h => ⟨by obtain ⟨rfl, h⟩ := h; rw [show kCod τ z p = 1 from by unfold kCod; (repeat' split) <;> omega]; rfl, rfl, rfl⟩) (fun h_2 => ?_)
  refine Xg_X1_text C (by omega) fl_X8_72 dX8_codeAt_5 ?_
  refine X_astore_3 C (by decide) rfl dX8_codeAt_8 ?_
  have k1 := I.sz (2 * z) 0
  refine X_iload_n C rfl dX8_codeAt_9 ?_
  refine X_if_lt C (tgt := 21) dX8_codeAt_10 (by decide) ⟨by omega, by omega⟩ (fun c_10 => ?_) (fun c_10 => ?_)
  · exact X_throw C M tw_X8_123_127 xs_X8_125 dX8_codeAt_21 dX8_codeAt_24 dX8_codeAt_25 dX8_codeAt_27 dX8_codeAt_30 (by decide) (by decide) (by decide) (by decide) ⟨by rw [show kCod τ z p = 2 from by unfold kCod; (repeat' split) <;> omega]; rfl, rfl, rfl⟩
  · refine X_iload_n C rfl dX8_codeAt_13 ?_
    refine X_aload_n C rfl dX8_codeAt_14 ?_
    refine Xg_X7_size C (by omega) rfl fl_X8_76 dX8_codeAt_15 ?_
    refine X_icmp_lt C (tgt := 31) dX8_codeAt_18 (by decide) ⟨by omega, by omega⟩ ⟨by omega, by omega⟩ (fun c_18 => ?_) (fun c_18 => ?_)
    · refine X_aload_n C rfl dX8_codeAt_31 ?_
      refine X_iload_n C rfl dX8_codeAt_32 ?_
      refine X_callVE_1 C (c_X7_at C.hlc (by omega) (by omega) (by omega) (by omega)) cv_X8_101 (jG_12 (by omega)) ⟨_, _, rfl⟩ rfl rfl dX8_codeAt_33 ?_
      exact X_ireturn C M rfl (by decide) (by decide) dX8_codeAt_36 ⟨by unfold kCod; (repeat' split) <;> omega, rfl, rfl, rfl⟩
    · exact X_throw C M tw_X8_123_127 xs_X8_125 dX8_codeAt_21 dX8_codeAt_24 dX8_codeAt_25 dX8_codeAt_27 dX8_codeAt_30 (by decide) (by decide) (by decide) (by decide) ⟨by rw [show kCod τ z p = 2 from by unfold kCod; (repeat' split) <;> omega]; rfl, rfl, rfl⟩
set_option maxRecDepth 100000 in
set_option maxHeartbeats 4000000 in
theorem c_X8_bar {lc : Launch} (hlc : lc.stackTraces = false) {D : va_G} {Y : Nat → ClassId} {A : Nat → Prop} {τ σ : xS} {ρ : xG} {ad : xL} {n z p b : Int} (I : xI n τ) (hz0 : rg z) (hz1 : rg p) (hz2 : rg b) (hb : b = 0 ∨ b = 1) : Ct lc yX8_bar cX8_bar 5 (some .char) (rmL 3 2 12) D Y A ad (jG Y τ σ ρ ad) [.ref (ad 0 0), .int (iI z), .int (iI p), .int (iI b)] (pC (kBar τ z p b = 0) (some (.int (iI (brA τ z p b)))) ad (jG Y τ σ ρ ad)) (pT (fun E => exn [nX, eI] (kBar τ z p b) = some E) ad (jG Y τ σ ρ ad)) := by
  refine Ct_of hlc (by decide +kernel) rfl rfl (own := RX8) (nm := "bar") (l0 := [some (.ref (ad 0 0)), some (.int (iI z)), some (.int (iI p)), some (.int (iI b)), none]) rfl (Nat.le_of_ble_eq_true rfl) (fun κ C M => ?_)
  have Ind := I.nd
  have Inc := I.nc
  have Ino := I.no
  have In := I.n0
  refine X_aload_n C rfl dX8_bar_0 ?_
  refine X_iload_n C rfl dX8_bar_1 ?_
  refine X_callVC_1 C M (c_X8_documentOf C.hlc (by assumption) (by omega)) cv_X8_55 (jG_0 rfl) ⟨_, _, rfl⟩ rfl rfl dX8_bar_2 (fun E h => ⟨by obtain ⟨rfl, h⟩ := h; rw [show kBar τ z p b = 1 from by unfold kBar; (repeat' split) <;> omega]; rfl, rfl, rfl⟩) (fun h_2 => ?_)
  refine X_astore_4 C (by decide) rfl dX8_bar_5 ?_
  have k1 := I.sz (2 * z) 0
  have k2 := brA_v τ z p b
  refine X_aload C rfl dX8_bar_7 ?_
  refine X_iload_n C rfl dX8_bar_9 ?_
  refine X_iload_n C rfl dX8_bar_10 ?_
  refine X_callSC0_3 C M (c_X8_requirePlaceOfEdit C.hlc (by assumption) (by omega) (by omega) (by omega)) cs_X8_59 rfl rfl dX8_bar_11 (fun E h => ⟨by obtain ⟨rfl, h⟩ := h; rw [show kBar τ z p b = 2 from by unfold kBar; (repeat' split) <;> omega]; rfl, rfl, rfl⟩) (fun h_11 => ?_)
  refine X_aload_n C rfl dX8_bar_14 ?_
  refine X_aload C rfl dX8_bar_15 ?_
  refine X_iload_n C rfl dX8_bar_17 ?_
  refine X_iload_n C rfl dX8_bar_18 ?_
  refine X_callVE_3 C (c_X8_barOf C.hlc (by assumption) (by omega) (by omega) (by omega)) cv_X8_114 (jG_0 rfl) ⟨_, _, rfl⟩ rfl rfl dX8_bar_19 ?_
  exact X_ireturn C M (narC (by omega) (by omega)) (by decide) (by decide) dX8_bar_22 ⟨by unfold kBar; (repeat' split) <;> omega, rfl, rfl, rfl⟩
set_option maxRecDepth 100000 in
set_option maxHeartbeats 4000000 in
theorem c_X8_isOpen {lc : Launch} (hlc : lc.stackTraces = false) {D : va_G} {Y : Nat → ClassId} {A : Nat → Prop} {τ σ : xS} {ρ : xG} {ad : xL} {n z : Int} (I : xI n τ) (hz0 : rg z) : Ct lc yX8_isOpen cX8_isOpen 2 (some .boolean) (rmL 1 1 6) D Y A ad (jG Y τ σ ρ ad) [.ref (ad 0 0), .int (iI z)] (pC (kIsO τ z = 0) (some (.int (iI (τ 8 z 0)))) ad (jG Y τ σ ρ ad)) (pT (fun E => exn [nX] (kIsO τ z) = some E) ad (jG Y τ σ ρ ad)) := by
  refine Ct_of hlc (by decide +kernel) rfl rfl (own := RX8) (nm := "isOpen") (l0 := [some (.ref (ad 0 0)), some (.int (iI z))]) rfl (Nat.le_of_ble_eq_true rfl) (fun κ C M => ?_)
  have Ind := I.nd
  have Inc := I.nc
  have Ino := I.no
  have In := I.n0
  refine X_aload_n C rfl dX8_isOpen_0 ?_
  refine X_iload_n C rfl dX8_isOpen_1 ?_
  refine X_callVC_1 C M (c_X8_commentOf C.hlc (by assumption) (by omega)) cv_X8_191 (jG_0 rfl) ⟨_, _, rfl⟩ rfl rfl dX8_isOpen_2 (fun E h => ⟨by obtain ⟨rfl, h⟩ := h; rw [show kIsO τ z = 1 from by unfold kIsO; (repeat' split) <;> omega]; rfl, rfl, rfl⟩) (fun h_2 => ?_)
  have k1 := I.op z 0
  refine Xg_X0_open C (by omega) rfl fl_X8_179 dX8_isOpen_5 ?_
  exact X_ireturn C M (narZ k1) (by decide) (by decide) dX8_isOpen_8 ⟨by unfold kIsO; (repeat' split) <;> omega, rfl, rfl, rfl⟩
set_option maxRecDepth 100000 in
set_option maxHeartbeats 4000000 in
theorem c_X8_spanFrom {lc : Launch} (hlc : lc.stackTraces = false) {D : va_G} {Y : Nat → ClassId} {A : Nat → Prop} {τ σ : xS} {ρ : xG} {ad : xL} {n z : Int} (I : xI n τ) (hz0 : rg z) : Ct lc yX8_spanFrom cX8_spanFrom 2 (some .int) (rmL 2 2 12) D Y A ad (jG Y τ σ ρ ad) [.ref (ad 0 0), .int (iI z)] (pC (kAns τ z = 0) (some (.int (iI (τ 6 z 0)))) ad (jG Y τ σ ρ ad)) (pT (fun E => exn [nX, eS] (kAns τ z) = some E) ad (jG Y τ σ ρ ad)) := by
  refine Ct_of hlc (by decide +kernel) rfl rfl (own := RX8) (nm := "spanFrom") (l0 := [some (.ref (ad 0 0)), some (.int (iI z))]) rfl (Nat.le_of_ble_eq_true rfl) (fun κ C M => ?_)
  have Ind := I.nd
  have Inc := I.nc
  have Ino := I.no
  have In := I.n0
  refine X_aload_n C rfl dX8_spanFrom_0 ?_
  refine X_iload_n C rfl dX8_spanFrom_1 ?_
  refine X_callVC_1 C M (c_X8_openCommentOf C.hlc (by assumption) (by omega)) cv_X8_175 (jG_0 rfl) ⟨_, _, rfl⟩ rfl rfl dX8_spanFrom_2 (fun E h => ⟨(h.elim (fun h => by obtain ⟨rfl, h⟩ := h; rw [show kAns τ z = 1 from by unfold kAns; (repeat' split) <;> omega]; rfl) (fun h => by obtain ⟨rfl, h, h2⟩ := h; rw [show kAns τ z = 2 from by unfold kAns; (repeat' split) <;> omega]; rfl)), rfl, rfl⟩) (fun h_2 => ?_)
  refine Xg_X0_from C (by omega) rfl fl_X8_162 dX8_spanFrom_5 ?_
  exact X_ireturn C M rfl (by decide) (by decide) dX8_spanFrom_8 ⟨by unfold kAns; (repeat' split) <;> omega, rfl, rfl, rfl⟩
set_option maxRecDepth 100000 in
set_option maxHeartbeats 4000000 in
theorem c_X8_spanTo {lc : Launch} (hlc : lc.stackTraces = false) {D : va_G} {Y : Nat → ClassId} {A : Nat → Prop} {τ σ : xS} {ρ : xG} {ad : xL} {n z : Int} (I : xI n τ) (hz0 : rg z) : Ct lc yX8_spanTo cX8_spanTo 2 (some .int) (rmL 2 2 12) D Y A ad (jG Y τ σ ρ ad) [.ref (ad 0 0), .int (iI z)] (pC (kAns τ z = 0) (some (.int (iI (τ 7 z 0)))) ad (jG Y τ σ ρ ad)) (pT (fun E => exn [nX, eS] (kAns τ z) = some E) ad (jG Y τ σ ρ ad)) := by
  refine Ct_of hlc (by decide +kernel) rfl rfl (own := RX8) (nm := "spanTo") (l0 := [some (.ref (ad 0 0)), some (.int (iI z))]) rfl (Nat.le_of_ble_eq_true rfl) (fun κ C M => ?_)
  have Ind := I.nd
  have Inc := I.nc
  have Ino := I.no
  have In := I.n0
  refine X_aload_n C rfl dX8_spanTo_0 ?_
  refine X_iload_n C rfl dX8_spanTo_1 ?_
  refine X_callVC_1 C M (c_X8_openCommentOf C.hlc (by assumption) (by omega)) cv_X8_175 (jG_0 rfl) ⟨_, _, rfl⟩ rfl rfl dX8_spanTo_2 (fun E h => ⟨(h.elim (fun h => by obtain ⟨rfl, h⟩ := h; rw [show kAns τ z = 1 from by unfold kAns; (repeat' split) <;> omega]; rfl) (fun h => by obtain ⟨rfl, h, h2⟩ := h; rw [show kAns τ z = 2 from by unfold kAns; (repeat' split) <;> omega]; rfl)), rfl, rfl⟩) (fun h_2 => ?_)
  refine Xg_X0_to C (by omega) rfl fl_X8_194 dX8_spanTo_5 ?_
  exact X_ireturn C M rfl (by decide) (by decide) dX8_spanTo_8 ⟨by unfold kAns; (repeat' split) <;> omega, rfl, rfl, rfl⟩
set_option maxRecDepth 100000 in
set_option maxHeartbeats 4000000 in
theorem c_X8_signed {lc : Launch} (hlc : lc.stackTraces = false) {D : va_G} {Y : Nat → ClassId} {A : Nat → Prop} {τ σ : xS} {ρ : xG} {ad : xL} {n z : Int} (I : xI n τ) (hz0 : rg z) : Ct lc yX8_signed cX8_signed 2 (some .int) (rmL 2 2 12) D Y A ad (jG Y τ σ ρ ad) [.ref (ad 0 0), .int (iI z)] (pC (kPrf τ z = 0) (some (.int (iI (τ 3 z 0)))) ad (jG Y τ σ ρ ad)) (pT (fun E => exn [nX, eS] (kPrf τ z) = some E) ad (jG Y τ σ ρ ad)) := by
  refine Ct_of hlc (by decide +kernel) rfl rfl (own := RX8) (nm := "signed") (l0 := [some (.ref (ad 0 0)), some (.int (iI z))]) rfl (Nat.le_of_ble_eq_true rfl) (fun κ C M => ?_)
  have Ind := I.nd
  have Inc := I.nc
  have Ino := I.no
  have In := I.n0
  refine X_aload_n C rfl dX8_signed_0 ?_
  refine X_iload_n C rfl dX8_signed_1 ?_
  refine X_callVC_1 C M (c_X8_proofedDocumentOf C.hlc (by assumption) (by omega)) cv_X8_219 (jG_0 rfl) ⟨_, _, rfl⟩ rfl rfl dX8_signed_2 (fun E h => ⟨(h.elim (fun h => by obtain ⟨rfl, h⟩ := h; rw [show kPrf τ z = 1 from by unfold kPrf; (repeat' split) <;> omega]; rfl) (fun h => by obtain ⟨rfl, h, h2⟩ := h; rw [show kPrf τ z = 2 from by unfold kPrf; (repeat' split) <;> omega]; rfl)), rfl, rfl⟩) (fun h_2 => ?_)
  refine Xg_X1_proofVersion C (by omega) rfl fl_X8_205 dX8_signed_5 ?_
  exact X_ireturn C M rfl (by decide) (by decide) dX8_signed_8 ⟨by unfold kPrf; (repeat' split) <;> omega, rfl, rfl, rfl⟩
set_option maxRecDepth 100000 in
set_option maxHeartbeats 4000000 in
theorem c_X8_sheets {lc : Launch} (hlc : lc.stackTraces = false) {D : va_G} {Y : Nat → ClassId} {A : Nat → Prop} {τ σ : xS} {ρ : xG} {ad : xL} {n z : Int} (I : xI n τ) (hz0 : rg z) : Ct lc yX8_sheets cX8_sheets 2 (some .int) (rmL 2 2 12) D Y A ad (jG Y τ σ ρ ad) [.ref (ad 0 0), .int (iI z)] (pC (kPrf τ z = 0) (some (.int (iI (shT τ z)))) ad (jG Y τ σ ρ ad)) (pT (fun E => exn [nX, eS] (kPrf τ z) = some E) ad (jG Y τ σ ρ ad)) := by
  refine Ct_of hlc (by decide +kernel) rfl rfl (own := RX8) (nm := "sheets") (l0 := [some (.ref (ad 0 0)), some (.int (iI z))]) rfl (Nat.le_of_ble_eq_true rfl) (fun κ C M => ?_)
  have Ind := I.nd
  have Inc := I.nc
  have Ino := I.no
  have In := I.n0
  refine X_aload_n C rfl dX8_sheets_0 ?_
  refine X_iload_n C rfl dX8_sheets_1 ?_
  refine X_callVC_1 C M (c_X8_proofedDocumentOf C.hlc (by assumption) (by omega)) cv_X8_219 (jG_0 rfl) ⟨_, _, rfl⟩ rfl rfl dX8_sheets_2 (fun E h => ⟨(h.elim (fun h => by obtain ⟨rfl, h⟩ := h; rw [show kPrf τ z = 1 from by unfold kPrf; (repeat' split) <;> omega]; rfl) (fun h => by obtain ⟨rfl, h, h2⟩ := h; rw [show kPrf τ z = 2 from by unfold kPrf; (repeat' split) <;> omega]; rfl)), rfl, rfl⟩) (fun h_2 => ?_)
  refine Xg_X1_proofSheets C (by omega) (v := shT τ z) (I.sh z) fl_X8_216 dX8_sheets_5 ?_
  exact X_ireturn C M rfl (by decide) (by decide) dX8_sheets_8 ⟨by unfold kPrf; (repeat' split) <;> omega, rfl, rfl, rfl⟩
set_option maxRecDepth 100000 in
set_option maxHeartbeats 4000000 in
theorem c_X8_pageOn {lc : Launch} (hlc : lc.stackTraces = false) {D : va_G} {Y : Nat → ClassId} {A : Nat → Prop} {τ σ : xS} {ρ : xG} {ad : xL} {n z s q : Int} (I : xI n τ) (hz0 : rg z) (hz1 : rg s) (hz2 : rg q) : Ct lc yX8_pageOn cX8_pageOn 5 (some .int) (rmL 2 4 24) D Y A ad (jG Y τ σ ρ ad) [.ref (ad 0 0), .int (iI z), .int (iI s), .int (iI q)] (pC (kPag τ z s q 4 = 0) (some (.int (iI (pgA (shT τ z) s q)))) ad (jG Y τ σ ρ ad)) (pT (fun E => exn [nX, eS, eI] (kPag τ z s q 4) = some E) ad (jG Y τ σ ρ ad)) := by
  refine Ct_of hlc (by decide +kernel) rfl rfl (own := RX8) (nm := "pageOn") (l0 := [some (.ref (ad 0 0)), some (.int (iI z)), some (.int (iI s)), some (.int (iI q)), none]) rfl (Nat.le_of_ble_eq_true rfl) (fun κ C M => ?_)
  have Ind := I.nd
  have Inc := I.nc
  have Ino := I.no
  have In := I.n0
  refine X_aload_n C rfl dX8_pageOn_0 ?_
  refine X_iload_n C rfl dX8_pageOn_1 ?_
  refine X_callVC_1 C M (c_X8_proofedDocumentOf C.hlc (by assumption) (by omega)) cv_X8_219 (jG_0 rfl) ⟨_, _, rfl⟩ rfl rfl dX8_pageOn_2 (fun E h => ⟨(h.elim (fun h => by obtain ⟨rfl, h⟩ := h; rw [show kPag τ z s q 4 = 1 from by unfold kPag; (repeat' split) <;> omega]; rfl) (fun h => by obtain ⟨rfl, h, h2⟩ := h; rw [show kPag τ z s q 4 = 2 from by unfold kPag; (repeat' split) <;> omega]; rfl)), rfl, rfl⟩) (fun h_2 => ?_)
  refine X_astore_4 C (by decide) rfl dX8_pageOn_5 ?_
  have k1 := I.sb z
  refine X_aload C rfl dX8_pageOn_7 ?_
  refine X_iload_n C rfl dX8_pageOn_9 ?_
  refine X_callSC0_2 C M (c_X8_requireSheet C.hlc (by assumption) (by omega) (by omega)) cs_X8_222 rfl rfl dX8_pageOn_10 (fun E h => ⟨by obtain ⟨rfl, h⟩ := h; rw [show kPag τ z s q 4 = 3 from by unfold kPag; (repeat' split) <;> omega]; rfl, rfl, rfl⟩) (fun h_10 => ?_)
  refine X_iload_n C rfl dX8_pageOn_13 ?_
  refine X_if_lt C (tgt := 22) dX8_pageOn_14 (by decide) ⟨by omega, by omega⟩ (fun c_14 => ?_) (fun c_14 => ?_)
  · exact X_throw C M tw_X8_123_127 xs_X8_225 dX8_pageOn_22 dX8_pageOn_25 dX8_pageOn_26 dX8_pageOn_28 dX8_pageOn_31 (by decide) (by decide) (by decide) (by decide) ⟨by rw [show kPag τ z s q 4 = 3 from by unfold kPag; (repeat' split) <;> omega]; rfl, rfl, rfl⟩
  · refine X_iload_n C rfl dX8_pageOn_17 ?_
    refine X_iconst C dX8_pageOn_18 ?_
    refine X_icmp_lt C (tgt := 32) dX8_pageOn_19 (by decide) ⟨by omega, by omega⟩ ⟨by omega, by omega⟩ (fun c_19 => ?_) (fun c_19 => ?_)
    · refine X_aload C rfl dX8_pageOn_32 ?_
      refine Xg_X1_proofSheets C (by omega) (v := shT τ z) (I.sh z) fl_X8_216 dX8_pageOn_34 ?_
      refine X_iload_n C rfl dX8_pageOn_37 ?_
      refine X_iload_n C rfl dX8_pageOn_38 ?_
      refine X_callSE_3 C (c_X2_pageAt C.hlc (by omega) (by omega) (by omega)) cs_X8_227 rfl rfl dX8_pageOn_39 ?_
      exact X_ireturn C M rfl (by decide) (by decide) dX8_pageOn_42 ⟨by unfold kPag; (repeat' split) <;> omega, rfl, rfl, rfl⟩
    · exact X_throw C M tw_X8_123_127 xs_X8_225 dX8_pageOn_22 dX8_pageOn_25 dX8_pageOn_26 dX8_pageOn_28 dX8_pageOn_31 (by decide) (by decide) (by decide) (by decide) ⟨by rw [show kPag τ z s q 4 = 3 from by unfold kPag; (repeat' split) <;> omega]; rfl, rfl, rfl⟩
set_option maxRecDepth 100000 in
set_option maxHeartbeats 4000000 in
theorem c_X8_shown {lc : Launch} (hlc : lc.stackTraces = false) {D : va_G} {Y : Nat → ClassId} {A : Nat → Prop} {τ σ : xS} {ρ : xG} {ad : xL} {n z s k : Int} (I : xI n τ) (hz0 : rg z) (hz1 : rg s) (hz2 : rg k) : Ct lc yX8_shown cX8_shown 5 (some .int) (rmL 2 4 24) D Y A ad (jG Y τ σ ρ ad) [.ref (ad 0 0), .int (iI z), .int (iI s), .int (iI k)] (pC (kPag τ z s k 32 = 0) (some (.int (iI (cOn τ z s k)))) ad (jG Y τ σ ρ ad)) (pT (fun E => exn [nX, eS, eI] (kPag τ z s k 32) = some E) ad (jG Y τ σ ρ ad)) := by
  refine Ct_of hlc (by decide +kernel) rfl rfl (own := RX8) (nm := "shown") (l0 := [some (.ref (ad 0 0)), some (.int (iI z)), some (.int (iI s)), some (.int (iI k)), none]) rfl (Nat.le_of_ble_eq_true rfl) (fun κ C M => ?_)
  have Ind := I.nd
  have Inc := I.nc
  have Ino := I.no
  have In := I.n0
  refine X_aload_n C rfl dX8_shown_0 ?_
  refine X_iload_n C rfl dX8_shown_1 ?_
  refine X_callVC_1 C M (c_X8_proofedDocumentOf C.hlc (by assumption) (by omega)) cv_X8_219 (jG_0 rfl) ⟨_, _, rfl⟩ rfl rfl dX8_shown_2 (fun E h => ⟨(h.elim (fun h => by obtain ⟨rfl, h⟩ := h; rw [show kPag τ z s k 32 = 1 from by unfold kPag; (repeat' split) <;> omega]; rfl) (fun h => by obtain ⟨rfl, h, h2⟩ := h; rw [show kPag τ z s k 32 = 2 from by unfold kPag; (repeat' split) <;> omega]; rfl)), rfl, rfl⟩) (fun h_2 => ?_)
  refine X_astore_4 C (by decide) rfl dX8_shown_5 ?_
  refine X_aload C rfl dX8_shown_7 ?_
  refine X_iload_n C rfl dX8_shown_9 ?_
  refine X_callSC0_2 C M (c_X8_requireSheet C.hlc (by assumption) (by omega) (by omega)) cs_X8_222 rfl rfl dX8_shown_10 (fun E h => ⟨by obtain ⟨rfl, h⟩ := h; rw [show kPag τ z s k 32 = 3 from by unfold kPag; (repeat' split) <;> omega]; rfl, rfl, rfl⟩) (fun h_10 => ?_)
  refine X_iload_n C rfl dX8_shown_13 ?_
  refine X_callSC0_1 C M (c_X8_requireIndexOnSheet C.hlc (by omega)) cs_X8_233 rfl rfl dX8_shown_14 (fun E h => ⟨by obtain ⟨rfl, h⟩ := h; rw [show kPag τ z s k 32 = 3 from by unfold kPag; (repeat' split) <;> omega]; rfl, rfl, rfl⟩) (fun h_14 => ?_)
  refine X_aload C rfl dX8_shown_17 ?_
  refine X_iload_n C rfl dX8_shown_19 ?_
  refine X_iload_n C rfl dX8_shown_20 ?_
  refine X_callVE_2 C (c_X1_codeOnSheet C.hlc (I.dok (by omega) (by omega)) (by omega) (by omega)) cv_X8_236 (jG_11 (by omega)) ⟨_, _, rfl⟩ rfl rfl dX8_shown_21 ?_
  exact X_ireturn C M rfl (by decide) (by decide) dX8_shown_24 ⟨by unfold kPag; (repeat' split) <;> omega, rfl, rfl, rfl⟩
set_option maxRecDepth 100000 in
set_option maxHeartbeats 4000000 in
theorem c_X8_needs {lc : Launch} (hlc : lc.stackTraces = false) {D : va_G} {Y : Nat → ClassId} {A : Nat → Prop} {τ σ : xS} {ρ : xG} {ad : xL} {n z : Int} (I : xI n τ) (hz0 : rg z) : Ct lc yX8_needs cX8_needs 2 (some .int) (rmL 5 1 6) D Y A ad (jG Y τ σ ρ ad) [.ref (ad 0 0), .int (iI z)] (pC (kOdr τ z = 0) (some (.int (iI (ndA τ z)))) ad (jG Y τ σ ρ ad)) (pT (fun E => exn [nX] (kOdr τ z) = some E) ad (jG Y τ σ ρ ad)) := by
  refine Ct_of hlc (by decide +kernel) rfl rfl (own := RX8) (nm := "needs") (l0 := [some (.ref (ad 0 0)), some (.int (iI z))]) rfl (Nat.le_of_ble_eq_true rfl) (fun κ C M => ?_)
  have Ind := I.nd
  have Inc := I.nc
  have Ino := I.no
  have In := I.n0
  refine X_aload_n C rfl dX8_needs_0 ?_
  refine X_aload_n C rfl dX8_needs_1 ?_
  refine X_iload_n C rfl dX8_needs_2 ?_
  refine X_callVC_1 C M (c_X8_orderOf C.hlc (by assumption) (by omega)) cv_X8_277 (jG_0 rfl) ⟨_, _, rfl⟩ rfl rfl dX8_needs_3 (fun E h => ⟨by obtain ⟨rfl, h⟩ := h; rw [show kOdr τ z = 1 from by unfold kOdr; (repeat' split) <;> omega]; rfl, rfl, rfl⟩) (fun h_3 => ?_)
  refine X_callVE_1 C (c_X8_paperNeededBy C.hlc (by assumption) (by omega)) cv_X8_281 (jG_0 rfl) ⟨_, _, rfl⟩ rfl rfl dX8_needs_6 ?_
  exact X_ireturn C M rfl (by decide) (by decide) dX8_needs_9 ⟨by unfold kOdr; (repeat' split) <;> omega, rfl, rfl, rfl⟩
set_option maxRecDepth 100000 in
set_option maxHeartbeats 4000000 in
theorem c_X8_isDone {lc : Launch} (hlc : lc.stackTraces = false) {D : va_G} {Y : Nat → ClassId} {A : Nat → Prop} {τ σ : xS} {ρ : xG} {ad : xL} {n z : Int} (I : xI n τ) (hz0 : rg z) : Ct lc yX8_isDone cX8_isDone 2 (some .boolean) (rmL 6 1 6) D Y A ad (jG Y τ σ ρ ad) [.ref (ad 0 0), .int (iI z)] (pC (kOdr τ z = 0) (some (.int (iI (bI (alA τ z))))) ad (jG Y τ σ ρ ad)) (pT (fun E => exn [nX] (kOdr τ z) = some E) ad (jG Y τ σ ρ ad)) := by
  refine Ct_of hlc (by decide +kernel) rfl rfl (own := RX8) (nm := "isDone") (l0 := [some (.ref (ad 0 0)), some (.int (iI z))]) rfl (Nat.le_of_ble_eq_true rfl) (fun κ C M => ?_)
  have Ind := I.nd
  have Inc := I.nc
  have Ino := I.no
  have In := I.n0
  refine X_aload_n C rfl dX8_isDone_0 ?_
  refine X_aload_n C rfl dX8_isDone_1 ?_
  refine X_iload_n C rfl dX8_isDone_2 ?_
  refine X_callVC_1 C M (c_X8_orderOf C.hlc (by assumption) (by omega)) cv_X8_277 (jG_0 rfl) ⟨_, _, rfl⟩ rfl rfl dX8_isDone_3 (fun E h => ⟨by obtain ⟨rfl, h⟩ := h; rw [show kOdr τ z = 1 from by unfold kOdr; (repeat' split) <;> omega]; rfl, rfl, rfl⟩) (fun h_3 => ?_)
  refine X_callVE_1 C (c_X8_isFinished C.hlc (by assumption) (by omega)) cv_X8_290 (jG_0 rfl) ⟨_, _, rfl⟩ rfl rfl dX8_isDone_6 ?_
  exact X_ireturn C M (narB _) (by decide) (by decide) dX8_isDone_9 ⟨by unfold kOdr; (repeat' split) <;> omega, rfl, rfl, rfl⟩
set_option maxRecDepth 100000 in
set_option maxHeartbeats 4000000 in
theorem c_X8_platesFor {lc : Launch} (hlc : lc.stackTraces = false) {D : va_G} {Y : Nat → ClassId} {A : Nat → Prop} {τ σ : xS} {ρ : xG} {ad : xL} {n z : Int} (I : xI n τ) (hz0 : rg z) : Ct lc yX8_platesFor cX8_platesFor 2 (some .int) (rmL 1 1 6) D Y A ad (jG Y τ σ ρ ad) [.ref (ad 0 0), .int (iI z)] (pC (kOdr τ z = 0) (some (.int (iI (τ 13 z 0)))) ad (jG Y τ σ ρ ad)) (pT (fun E => exn [nX] (kOdr τ z) = some E) ad (jG Y τ σ ρ ad)) := by
  refine Ct_of hlc (by decide +kernel) rfl rfl (own := RX8) (nm := "platesFor") (l0 := [some (.ref (ad 0 0)), some (.int (iI z))]) rfl (Nat.le_of_ble_eq_true rfl) (fun κ C M => ?_)
  have Ind := I.nd
  have Inc := I.nc
  have Ino := I.no
  have In := I.n0
  refine X_aload_n C rfl dX8_platesFor_0 ?_
  refine X_iload_n C rfl dX8_platesFor_1 ?_
  refine X_callVC_1 C M (c_X8_orderOf C.hlc (by assumption) (by omega)) cv_X8_277 (jG_0 rfl) ⟨_, _, rfl⟩ rfl rfl dX8_platesFor_2 (fun E h => ⟨by obtain ⟨rfl, h⟩ := h; rw [show kOdr τ z = 1 from by unfold kOdr; (repeat' split) <;> omega]; rfl, rfl, rfl⟩) (fun h_2 => ?_)
  refine Xg_X4_platesTaken C (by omega) rfl fl_X8_349 dX8_platesFor_5 ?_
  exact X_ireturn C M rfl (by decide) (by decide) dX8_platesFor_8 ⟨by unfold kOdr; (repeat' split) <;> omega, rfl, rfl, rfl⟩
set_option maxRecDepth 100000 in
set_option maxHeartbeats 4000000 in
theorem c_X8_wasted {lc : Launch} (hlc : lc.stackTraces = false) {D : va_G} {Y : Nat → ClassId} {A : Nat → Prop} {τ σ : xS} {ρ : xG} {ad : xL} {n z : Int} (I : xI n τ) (hz0 : rg z) : Ct lc yX8_wasted cX8_wasted 2 (some .int) (rmL 1 1 6) D Y A ad (jG Y τ σ ρ ad) [.ref (ad 0 0), .int (iI z)] (pC (kOdr τ z = 0) (some (.int (iI (wsA τ z)))) ad (jG Y τ σ ρ ad)) (pT (fun E => exn [nX] (kOdr τ z) = some E) ad (jG Y τ σ ρ ad)) := by
  refine Ct_of hlc (by decide +kernel) rfl rfl (own := RX8) (nm := "wasted") (l0 := [some (.ref (ad 0 0)), some (.int (iI z))]) rfl (Nat.le_of_ble_eq_true rfl) (fun κ C M => ?_)
  have Ind := I.nd
  have Inc := I.nc
  have Ino := I.no
  have In := I.n0
  refine X_aload_n C rfl dX8_wasted_0 ?_
  refine X_iload_n C rfl dX8_wasted_1 ?_
  refine X_callVC_1 C M (c_X8_orderOf C.hlc (by assumption) (by omega)) cv_X8_277 (jG_0 rfl) ⟨_, _, rfl⟩ rfl rfl dX8_wasted_2 (fun E h => ⟨by obtain ⟨rfl, h⟩ := h; rw [show kOdr τ z = 1 from by unfold kOdr; (repeat' split) <;> omega]; rfl, rfl, rfl⟩) (fun h_2 => ?_)
  refine Xg_X4_paperWasted C (by omega) (v := wsA τ z) (I.wa z) fl_X8_385 dX8_wasted_5 ?_
  exact X_ireturn C M rfl (by decide) (by decide) dX8_wasted_8 ⟨by unfold kOdr; (repeat' split) <;> omega, rfl, rfl, rfl⟩
set_option maxRecDepth 100000 in
set_option maxHeartbeats 4000000 in
theorem c_X8_stateOf {lc : Launch} (hlc : lc.stackTraces = false) {D : va_G} {Y : Nat → ClassId} {A : Nat → Prop} {τ σ : xS} {ρ : xG} {ad : xL} {n z s : Int} (I : xI n τ) (hz0 : rg z) (hz1 : rg s) : Ct lc yX8_stateOf cX8_stateOf 4 (some .char) (rmL 4 2 12) D Y A ad (jG Y τ σ ρ ad) [.ref (ad 0 0), .int (iI z), .int (iI s)] (pC (kSta τ z s = 0) (some (.int (iI (stA τ z s)))) ad (jG Y τ σ ρ ad)) (pT (fun E => exn [nX, eI] (kSta τ z s) = some E) ad (jG Y τ σ ρ ad)) := by
  refine Ct_of hlc (by decide +kernel) rfl rfl (own := RX8) (nm := "stateOf") (l0 := [some (.ref (ad 0 0)), some (.int (iI z)), some (.int (iI s)), none]) rfl (Nat.le_of_ble_eq_true rfl) (fun κ C M => ?_)
  have Ind := I.nd
  have Inc := I.nc
  have Ino := I.no
  have In := I.n0
  refine X_aload_n C rfl dX8_stateOf_0 ?_
  refine X_iload_n C rfl dX8_stateOf_1 ?_
  refine X_callVC_1 C M (c_X8_orderOf C.hlc (by assumption) (by omega)) cv_X8_277 (jG_0 rfl) ⟨_, _, rfl⟩ rfl rfl dX8_stateOf_2 (fun E h => ⟨by obtain ⟨rfl, h⟩ := h; rw [show kSta τ z s = 1 from by unfold kSta; (repeat' split) <;> omega]; rfl, rfl, rfl⟩) (fun h_2 => ?_)
  have k3 := I.od z (by omega) (by omega)
  have hv := stA_v τ z s
  refine X_astore_3 C (by decide) rfl dX8_stateOf_5 ?_
  refine X_aload_n C rfl dX8_stateOf_6 ?_
  refine Xg_X4_document C (by omega) rfl fl_X8_285 dX8_stateOf_7 ?_
  refine X_iload_n C rfl dX8_stateOf_10 ?_
  refine X_callSC0_2 C M (c_X8_requireSheet C.hlc (by assumption) (by omega) (by omega)) cs_X8_222 rfl rfl dX8_stateOf_11 (fun E h => ⟨by obtain ⟨rfl, h⟩ := h; rw [show kSta τ z s = 2 from by unfold kSta; (repeat' split) <;> omega]; rfl, rfl, rfl⟩) (fun h_11 => ?_)
  refine X_aload_n C rfl dX8_stateOf_14 ?_
  refine X_aload_n C rfl dX8_stateOf_15 ?_
  refine X_iload_n C rfl dX8_stateOf_16 ?_
  refine X_callVE_2 C (c_X8_stateOn C.hlc (by assumption) (by omega) (by omega)) cv_X8_286 (jG_0 rfl) ⟨_, _, rfl⟩ rfl rfl dX8_stateOf_17 ?_
  exact X_ireturn C M (narC (by omega) (by omega)) (by decide) (by decide) dX8_stateOf_20 ⟨by unfold kSta; (repeat' split) <;> omega, rfl, rfl, rfl⟩
