set_option maxRecDepth 100000 in
set_option maxHeartbeats 4000000 in
theorem c_X9_length {lc : Launch} (hlc : lc.stackTraces = false) {D : va_G} {Y : Nat → ClassId} {A : Nat → Prop} {τ σ : xS} {ρ : xG} {ad : xL} {n z : Int} (I : xI n σ) (hz0 : rg z) : Ct lc yX9_length cX9_length 2 (some .int) (rmL 3 0 0) D Y A ad (jG Y τ σ ρ ad) [.ref (ad 20 0), .int (iI z)] (pE (some (.int (iI (mA (kDoc σ z) (σ 1 (2 * z) 0) (-1))))) ad (jG Y τ (up σ 40 0 0 (kDoc σ z)) ρ ad)) (pF) := by
  refine Ct_of hlc (by decide +kernel) rfl rfl (own := RX9) (nm := "length") (l0 := [some (.ref (ad 20 0)), some (.int (iI z))]) rfl (Nat.le_of_ble_eq_true rfl) (fun κ C M => ?_)
  have Ind := I.nd
  have Inc := I.nc
  have Ino := I.no
  have In := I.n0
  have kf := kDoc_f σ z
  refine X_aload_n C rfl dX9_length_0 ?_
  refine X_iload_n C rfl dX9_length_1 ?_
  refine X_callVE_1 C (c_X9_asks C.hlc (by assumption) (by omega)) cv_X9_122 jG_20 ⟨_, _, rfl⟩ rfl rfl dX9_length_2 ?_
  refine X_if_eqB C (tgt := 17) dX9_length_5 (by decide) (fun c_5 => ?_) (fun c_5 => ?_)
  · refine X_iconst C dX9_length_17 ?_
    exact X_ireturn C M rfl (by decide) (by decide) dX9_length_18 ⟨(by first | exact rI (Eq.trans (by rfl) (mA_0 (k := kDoc σ z) (by first | omega | (unfold kDoc; (repeat' split) <;> omega))).symm) | exact rI (mA_n (k := kDoc σ z) (by first | omega | (unfold kDoc; (repeat' split) <;> omega))).symm), rfl, (by first | rfl | exact congrArg (fun v9 => jG Y τ (up σ 40 0 0 v9) ρ ad) (show (0 : Int) = kDoc σ z from (by first | omega | (unfold kDoc; (repeat' split) <;> omega))) | exact jG_up (show (0 : Int) = kDoc σ z from (by first | omega | (unfold kDoc; (repeat' split) <;> omega))) | exact congrArg (fun v9 => jG Y τ (up σ 40 0 0 v9) ρ ad) (show (1 : Int) = kDoc σ z from (by first | omega | (unfold kDoc; (repeat' split) <;> omega))) | exact jG_up (show (1 : Int) = kDoc σ z from (by first | omega | (unfold kDoc; (repeat' split) <;> omega))) | exact congrArg (fun v9 => jG Y τ (up σ 40 0 0 v9) ρ ad) (show (2 : Int) = kDoc σ z from (by first | omega | (unfold kDoc; (repeat' split) <;> omega))) | exact jG_up (show (2 : Int) = kDoc σ z from (by first | omega | (unfold kDoc; (repeat' split) <;> omega))) | exact congrArg (fun v9 => jG Y τ (up σ 40 0 0 v9) ρ ad) (show (3 : Int) = kDoc σ z from (by first | omega | (unfold kDoc; (repeat' split) <;> omega))) | exact jG_up (show (3 : Int) = kDoc σ z from (by first | omega | (unfold kDoc; (repeat' split) <;> omega))) | exact congrArg (fun v9 => jG Y τ (up σ 40 0 0 v9) ρ ad) (show (4 : Int) = kDoc σ z from (by first | omega | (unfold kDoc; (repeat' split) <;> omega))) | exact jG_up (show (4 : Int) = kDoc σ z from (by first | omega | (unfold kDoc; (repeat' split) <;> omega))) | exact congrArg (fun v9 => jG Y τ (up σ 40 0 0 v9) ρ ad) (show (5 : Int) = kDoc σ z from (by first | omega | (unfold kDoc; (repeat' split) <;> omega))) | exact jG_up (show (5 : Int) = kDoc σ z from (by first | omega | (unfold kDoc; (repeat' split) <;> omega))))⟩
  · refine X_aload_n C rfl dX9_length_8 ?_
    refine Xg_X9_lengths C fl_X9_13 dX9_length_9 ?_
    refine X_iload_n C rfl dX9_length_12 ?_
    refine Xm_lengths_ld C (by omega) (by omega) (up_q (by decide)) dX9_length_13 ?_
    refine X_goto C (tgt := 18) dX9_length_14 (by decide) ?_
    exact X_ireturn C M rfl (by decide) (by decide) dX9_length_18 ⟨(by first | exact rI (Eq.trans (by rfl) (mA_0 (k := kDoc σ z) (by first | omega | (unfold kDoc; (repeat' split) <;> omega))).symm) | exact rI (mA_n (k := kDoc σ z) (by first | omega | (unfold kDoc; (repeat' split) <;> omega))).symm), rfl, (by first | rfl | exact congrArg (fun v9 => jG Y τ (up σ 40 0 0 v9) ρ ad) (show (0 : Int) = kDoc σ z from (by first | omega | (unfold kDoc; (repeat' split) <;> omega))) | exact jG_up (show (0 : Int) = kDoc σ z from (by first | omega | (unfold kDoc; (repeat' split) <;> omega))) | exact congrArg (fun v9 => jG Y τ (up σ 40 0 0 v9) ρ ad) (show (1 : Int) = kDoc σ z from (by first | omega | (unfold kDoc; (repeat' split) <;> omega))) | exact jG_up (show (1 : Int) = kDoc σ z from (by first | omega | (unfold kDoc; (repeat' split) <;> omega))) | exact congrArg (fun v9 => jG Y τ (up σ 40 0 0 v9) ρ ad) (show (2 : Int) = kDoc σ z from (by first | omega | (unfold kDoc; (repeat' split) <;> omega))) | exact jG_up (show (2 : Int) = kDoc σ z from (by first | omega | (unfold kDoc; (repeat' split) <;> omega))) | exact congrArg (fun v9 => jG Y τ (up σ 40 0 0 v9) ρ ad) (show (3 : Int) = kDoc σ z from (by first | omega | (unfold kDoc; (repeat' split) <;> omega))) | exact jG_up (show (3 : Int) = kDoc σ z from (by first | omega | (unfold kDoc; (repeat' split) <;> omega))) | exact congrArg (fun v9 => jG Y τ (up σ 40 0 0 v9) ρ ad) (show (4 : Int) = kDoc σ z from (by first | omega | (unfold kDoc; (repeat' split) <;> omega))) | exact jG_up (show (4 : Int) = kDoc σ z from (by first | omega | (unfold kDoc; (repeat' split) <;> omega))) | exact congrArg (fun v9 => jG Y τ (up σ 40 0 0 v9) ρ ad) (show (5 : Int) = kDoc σ z from (by first | omega | (unfold kDoc; (repeat' split) <;> omega))) | exact jG_up (show (5 : Int) = kDoc σ z from (by first | omega | (unfold kDoc; (repeat' split) <;> omega))))⟩
set_option maxRecDepth 100000 in
set_option maxHeartbeats 4000000 in
theorem c_X9_version {lc : Launch} (hlc : lc.stackTraces = false) {D : va_G} {Y : Nat → ClassId} {A : Nat → Prop} {τ σ : xS} {ρ : xG} {ad : xL} {n z : Int} (I : xI n σ) (hz0 : rg z) : Ct lc yX9_version cX9_version 2 (some .int) (rmL 3 0 0) D Y A ad (jG Y τ σ ρ ad) [.ref (ad 20 0), .int (iI z)] (pE (some (.int (iI (mA (kDoc σ z) (σ 2 z 0) (-1))))) ad (jG Y τ (up σ 40 0 0 (kDoc σ z)) ρ ad)) (pF) := by
  refine Ct_of hlc (by decide +kernel) rfl rfl (own := RX9) (nm := "version") (l0 := [some (.ref (ad 20 0)), some (.int (iI z))]) rfl (Nat.le_of_ble_eq_true rfl) (fun κ C M => ?_)
  have Ind := I.nd
  have Inc := I.nc
  have Ino := I.no
  have In := I.n0
  have kf := kDoc_f σ z
  refine X_aload_n C rfl dX9_version_0 ?_
  refine X_iload_n C rfl dX9_version_1 ?_
  refine X_callVE_1 C (c_X9_asks C.hlc (by assumption) (by omega)) cv_X9_122 jG_20 ⟨_, _, rfl⟩ rfl rfl dX9_version_2 ?_
  refine X_if_eqB C (tgt := 17) dX9_version_5 (by decide) (fun c_5 => ?_) (fun c_5 => ?_)
  · refine X_iconst C dX9_version_17 ?_
    exact X_ireturn C M rfl (by decide) (by decide) dX9_version_18 ⟨(by first | exact rI (Eq.trans (by rfl) (mA_0 (k := kDoc σ z) (by first | omega | (unfold kDoc; (repeat' split) <;> omega))).symm) | exact rI (mA_n (k := kDoc σ z) (by first | omega | (unfold kDoc; (repeat' split) <;> omega))).symm), rfl, (by first | rfl | exact congrArg (fun v9 => jG Y τ (up σ 40 0 0 v9) ρ ad) (show (0 : Int) = kDoc σ z from (by first | omega | (unfold kDoc; (repeat' split) <;> omega))) | exact jG_up (show (0 : Int) = kDoc σ z from (by first | omega | (unfold kDoc; (repeat' split) <;> omega))) | exact congrArg (fun v9 => jG Y τ (up σ 40 0 0 v9) ρ ad) (show (1 : Int) = kDoc σ z from (by first | omega | (unfold kDoc; (repeat' split) <;> omega))) | exact jG_up (show (1 : Int) = kDoc σ z from (by first | omega | (unfold kDoc; (repeat' split) <;> omega))) | exact congrArg (fun v9 => jG Y τ (up σ 40 0 0 v9) ρ ad) (show (2 : Int) = kDoc σ z from (by first | omega | (unfold kDoc; (repeat' split) <;> omega))) | exact jG_up (show (2 : Int) = kDoc σ z from (by first | omega | (unfold kDoc; (repeat' split) <;> omega))) | exact congrArg (fun v9 => jG Y τ (up σ 40 0 0 v9) ρ ad) (show (3 : Int) = kDoc σ z from (by first | omega | (unfold kDoc; (repeat' split) <;> omega))) | exact jG_up (show (3 : Int) = kDoc σ z from (by first | omega | (unfold kDoc; (repeat' split) <;> omega))) | exact congrArg (fun v9 => jG Y τ (up σ 40 0 0 v9) ρ ad) (show (4 : Int) = kDoc σ z from (by first | omega | (unfold kDoc; (repeat' split) <;> omega))) | exact jG_up (show (4 : Int) = kDoc σ z from (by first | omega | (unfold kDoc; (repeat' split) <;> omega))) | exact congrArg (fun v9 => jG Y τ (up σ 40 0 0 v9) ρ ad) (show (5 : Int) = kDoc σ z from (by first | omega | (unfold kDoc; (repeat' split) <;> omega))) | exact jG_up (show (5 : Int) = kDoc σ z from (by first | omega | (unfold kDoc; (repeat' split) <;> omega))))⟩
  · refine X_aload_n C rfl dX9_version_8 ?_
    refine Xg_X9_versions C fl_X9_16 dX9_version_9 ?_
    refine X_iload_n C rfl dX9_version_12 ?_
    refine Xm_versions_ld C (by omega) (by omega) (up_q (by decide)) dX9_version_13 ?_
    refine X_goto C (tgt := 18) dX9_version_14 (by decide) ?_
    exact X_ireturn C M rfl (by decide) (by decide) dX9_version_18 ⟨(by first | exact rI (Eq.trans (by rfl) (mA_0 (k := kDoc σ z) (by first | omega | (unfold kDoc; (repeat' split) <;> omega))).symm) | exact rI (mA_n (k := kDoc σ z) (by first | omega | (unfold kDoc; (repeat' split) <;> omega))).symm), rfl, (by first | rfl | exact congrArg (fun v9 => jG Y τ (up σ 40 0 0 v9) ρ ad) (show (0 : Int) = kDoc σ z from (by first | omega | (unfold kDoc; (repeat' split) <;> omega))) | exact jG_up (show (0 : Int) = kDoc σ z from (by first | omega | (unfold kDoc; (repeat' split) <;> omega))) | exact congrArg (fun v9 => jG Y τ (up σ 40 0 0 v9) ρ ad) (show (1 : Int) = kDoc σ z from (by first | omega | (unfold kDoc; (repeat' split) <;> omega))) | exact jG_up (show (1 : Int) = kDoc σ z from (by first | omega | (unfold kDoc; (repeat' split) <;> omega))) | exact congrArg (fun v9 => jG Y τ (up σ 40 0 0 v9) ρ ad) (show (2 : Int) = kDoc σ z from (by first | omega | (unfold kDoc; (repeat' split) <;> omega))) | exact jG_up (show (2 : Int) = kDoc σ z from (by first | omega | (unfold kDoc; (repeat' split) <;> omega))) | exact congrArg (fun v9 => jG Y τ (up σ 40 0 0 v9) ρ ad) (show (3 : Int) = kDoc σ z from (by first | omega | (unfold kDoc; (repeat' split) <;> omega))) | exact jG_up (show (3 : Int) = kDoc σ z from (by first | omega | (unfold kDoc; (repeat' split) <;> omega))) | exact congrArg (fun v9 => jG Y τ (up σ 40 0 0 v9) ρ ad) (show (4 : Int) = kDoc σ z from (by first | omega | (unfold kDoc; (repeat' split) <;> omega))) | exact jG_up (show (4 : Int) = kDoc σ z from (by first | omega | (unfold kDoc; (repeat' split) <;> omega))) | exact congrArg (fun v9 => jG Y τ (up σ 40 0 0 v9) ρ ad) (show (5 : Int) = kDoc σ z from (by first | omega | (unfold kDoc; (repeat' split) <;> omega))) | exact jG_up (show (5 : Int) = kDoc σ z from (by first | omega | (unfold kDoc; (repeat' split) <;> omega))))⟩
set_option maxRecDepth 100000 in
set_option maxHeartbeats 4000000 in
theorem c_X9_signed {lc : Launch} (hlc : lc.stackTraces = false) {D : va_G} {Y : Nat → ClassId} {A : Nat → Prop} {τ σ : xS} {ρ : xG} {ad : xL} {n z : Int} (I : xI n σ) (hz0 : rg z) : Ct lc yX9_signed cX9_signed 2 (some .int) (rmL 3 0 0) D Y A ad (jG Y τ σ ρ ad) [.ref (ad 20 0), .int (iI z)] (pE (some (.int (iI (mA (kPrf σ z) (σ 3 z 0) (-1))))) ad (jG Y τ (up σ 40 0 0 (kPrf σ z)) ρ ad)) (pF) := by
  refine Ct_of hlc (by decide +kernel) rfl rfl (own := RX9) (nm := "signed") (l0 := [some (.ref (ad 20 0)), some (.int (iI z))]) rfl (Nat.le_of_ble_eq_true rfl) (fun κ C M => ?_)
  have Ind := I.nd
  have Inc := I.nc
  have Ino := I.no
  have In := I.n0
  have kf := kPrf_f σ z
  refine X_aload_n C rfl dX9_signed_0 ?_
  refine X_iload_n C rfl dX9_signed_1 ?_
  refine X_callVE_1 C (c_X9_asksProof C.hlc (by assumption) (by omega)) cv_X9_135 jG_20 ⟨_, _, rfl⟩ rfl rfl dX9_signed_2 ?_
  refine X_if_eqB C (tgt := 17) dX9_signed_5 (by decide) (fun c_5 => ?_) (fun c_5 => ?_)
  · refine X_iconst C dX9_signed_17 ?_
    exact X_ireturn C M rfl (by decide) (by decide) dX9_signed_18 ⟨(by first | exact rI (Eq.trans (by rfl) (mA_0 (k := kPrf σ z) (by first | omega | (unfold kPrf; (repeat' split) <;> omega))).symm) | exact rI (mA_n (k := kPrf σ z) (by first | omega | (unfold kPrf; (repeat' split) <;> omega))).symm), rfl, (by first | rfl | exact congrArg (fun v9 => jG Y τ (up σ 40 0 0 v9) ρ ad) (show (0 : Int) = kPrf σ z from (by first | omega | (unfold kPrf; (repeat' split) <;> omega))) | exact jG_up (show (0 : Int) = kPrf σ z from (by first | omega | (unfold kPrf; (repeat' split) <;> omega))) | exact congrArg (fun v9 => jG Y τ (up σ 40 0 0 v9) ρ ad) (show (1 : Int) = kPrf σ z from (by first | omega | (unfold kPrf; (repeat' split) <;> omega))) | exact jG_up (show (1 : Int) = kPrf σ z from (by first | omega | (unfold kPrf; (repeat' split) <;> omega))) | exact congrArg (fun v9 => jG Y τ (up σ 40 0 0 v9) ρ ad) (show (2 : Int) = kPrf σ z from (by first | omega | (unfold kPrf; (repeat' split) <;> omega))) | exact jG_up (show (2 : Int) = kPrf σ z from (by first | omega | (unfold kPrf; (repeat' split) <;> omega))) | exact congrArg (fun v9 => jG Y τ (up σ 40 0 0 v9) ρ ad) (show (3 : Int) = kPrf σ z from (by first | omega | (unfold kPrf; (repeat' split) <;> omega))) | exact jG_up (show (3 : Int) = kPrf σ z from (by first | omega | (unfold kPrf; (repeat' split) <;> omega))) | exact congrArg (fun v9 => jG Y τ (up σ 40 0 0 v9) ρ ad) (show (4 : Int) = kPrf σ z from (by first | omega | (unfold kPrf; (repeat' split) <;> omega))) | exact jG_up (show (4 : Int) = kPrf σ z from (by first | omega | (unfold kPrf; (repeat' split) <;> omega))) | exact congrArg (fun v9 => jG Y τ (up σ 40 0 0 v9) ρ ad) (show (5 : Int) = kPrf σ z from (by first | omega | (unfold kPrf; (repeat' split) <;> omega))) | exact jG_up (show (5 : Int) = kPrf σ z from (by first | omega | (unfold kPrf; (repeat' split) <;> omega))))⟩
  · refine X_aload_n C rfl dX9_signed_8 ?_
    refine Xg_X9_proofVersions C fl_X9_28 dX9_signed_9 ?_
    refine X_iload_n C rfl dX9_signed_12 ?_
    refine Xm_proofVersions_ld C (by omega) (by omega) (up_q (by decide)) dX9_signed_13 ?_
    refine X_goto C (tgt := 18) dX9_signed_14 (by decide) ?_
    exact X_ireturn C M rfl (by decide) (by decide) dX9_signed_18 ⟨(by first | exact rI (Eq.trans (by rfl) (mA_0 (k := kPrf σ z) (by first | omega | (unfold kPrf; (repeat' split) <;> omega))).symm) | exact rI (mA_n (k := kPrf σ z) (by first | omega | (unfold kPrf; (repeat' split) <;> omega))).symm), rfl, (by first | rfl | exact congrArg (fun v9 => jG Y τ (up σ 40 0 0 v9) ρ ad) (show (0 : Int) = kPrf σ z from (by first | omega | (unfold kPrf; (repeat' split) <;> omega))) | exact jG_up (show (0 : Int) = kPrf σ z from (by first | omega | (unfold kPrf; (repeat' split) <;> omega))) | exact congrArg (fun v9 => jG Y τ (up σ 40 0 0 v9) ρ ad) (show (1 : Int) = kPrf σ z from (by first | omega | (unfold kPrf; (repeat' split) <;> omega))) | exact jG_up (show (1 : Int) = kPrf σ z from (by first | omega | (unfold kPrf; (repeat' split) <;> omega))) | exact congrArg (fun v9 => jG Y τ (up σ 40 0 0 v9) ρ ad) (show (2 : Int) = kPrf σ z from (by first | omega | (unfold kPrf; (repeat' split) <;> omega))) | exact jG_up (show (2 : Int) = kPrf σ z from (by first | omega | (unfold kPrf; (repeat' split) <;> omega))) | exact congrArg (fun v9 => jG Y τ (up σ 40 0 0 v9) ρ ad) (show (3 : Int) = kPrf σ z from (by first | omega | (unfold kPrf; (repeat' split) <;> omega))) | exact jG_up (show (3 : Int) = kPrf σ z from (by first | omega | (unfold kPrf; (repeat' split) <;> omega))) | exact congrArg (fun v9 => jG Y τ (up σ 40 0 0 v9) ρ ad) (show (4 : Int) = kPrf σ z from (by first | omega | (unfold kPrf; (repeat' split) <;> omega))) | exact jG_up (show (4 : Int) = kPrf σ z from (by first | omega | (unfold kPrf; (repeat' split) <;> omega))) | exact congrArg (fun v9 => jG Y τ (up σ 40 0 0 v9) ρ ad) (show (5 : Int) = kPrf σ z from (by first | omega | (unfold kPrf; (repeat' split) <;> omega))) | exact jG_up (show (5 : Int) = kPrf σ z from (by first | omega | (unfold kPrf; (repeat' split) <;> omega))))⟩
set_option maxRecDepth 100000 in
set_option maxHeartbeats 4000000 in
theorem c_X9_sheets {lc : Launch} (hlc : lc.stackTraces = false) {D : va_G} {Y : Nat → ClassId} {A : Nat → Prop} {τ σ : xS} {ρ : xG} {ad : xL} {n z : Int} (I : xI n σ) (hz0 : rg z) : Ct lc yX9_sheets cX9_sheets 2 (some .int) (rmL 3 0 0) D Y A ad (jG Y τ σ ρ ad) [.ref (ad 20 0), .int (iI z)] (pE (some (.int (iI (mA (kPrf σ z) (shT σ z) (-1))))) ad (jG Y τ (up σ 40 0 0 (kPrf σ z)) ρ ad)) (pF) := by
  refine Ct_of hlc (by decide +kernel) rfl rfl (own := RX9) (nm := "sheets") (l0 := [some (.ref (ad 20 0)), some (.int (iI z))]) rfl (Nat.le_of_ble_eq_true rfl) (fun κ C M => ?_)
  have Ind := I.nd
  have Inc := I.nc
  have Ino := I.no
  have In := I.n0
  have kf := kPrf_f σ z
  refine X_aload_n C rfl dX9_sheets_0 ?_
  refine X_iload_n C rfl dX9_sheets_1 ?_
  refine X_callVE_1 C (c_X9_asksProof C.hlc (by assumption) (by omega)) cv_X9_135 jG_20 ⟨_, _, rfl⟩ rfl rfl dX9_sheets_2 ?_
  refine X_if_eqB C (tgt := 16) dX9_sheets_5 (by decide) (fun c_5 => ?_) (fun c_5 => ?_)
  · refine X_iconst C dX9_sheets_16 ?_
    exact X_ireturn C M rfl (by decide) (by decide) dX9_sheets_17 ⟨(by first | exact rI (Eq.trans (by rfl) (mA_0 (k := kPrf σ z) (by first | omega | (unfold kPrf; (repeat' split) <;> omega))).symm) | exact rI (mA_n (k := kPrf σ z) (by first | omega | (unfold kPrf; (repeat' split) <;> omega))).symm), rfl, (by first | rfl | exact congrArg (fun v9 => jG Y τ (up σ 40 0 0 v9) ρ ad) (show (0 : Int) = kPrf σ z from (by first | omega | (unfold kPrf; (repeat' split) <;> omega))) | exact jG_up (show (0 : Int) = kPrf σ z from (by first | omega | (unfold kPrf; (repeat' split) <;> omega))) | exact congrArg (fun v9 => jG Y τ (up σ 40 0 0 v9) ρ ad) (show (1 : Int) = kPrf σ z from (by first | omega | (unfold kPrf; (repeat' split) <;> omega))) | exact jG_up (show (1 : Int) = kPrf σ z from (by first | omega | (unfold kPrf; (repeat' split) <;> omega))) | exact congrArg (fun v9 => jG Y τ (up σ 40 0 0 v9) ρ ad) (show (2 : Int) = kPrf σ z from (by first | omega | (unfold kPrf; (repeat' split) <;> omega))) | exact jG_up (show (2 : Int) = kPrf σ z from (by first | omega | (unfold kPrf; (repeat' split) <;> omega))) | exact congrArg (fun v9 => jG Y τ (up σ 40 0 0 v9) ρ ad) (show (3 : Int) = kPrf σ z from (by first | omega | (unfold kPrf; (repeat' split) <;> omega))) | exact jG_up (show (3 : Int) = kPrf σ z from (by first | omega | (unfold kPrf; (repeat' split) <;> omega))) | exact congrArg (fun v9 => jG Y τ (up σ 40 0 0 v9) ρ ad) (show (4 : Int) = kPrf σ z from (by first | omega | (unfold kPrf; (repeat' split) <;> omega))) | exact jG_up (show (4 : Int) = kPrf σ z from (by first | omega | (unfold kPrf; (repeat' split) <;> omega))) | exact congrArg (fun v9 => jG Y τ (up σ 40 0 0 v9) ρ ad) (show (5 : Int) = kPrf σ z from (by first | omega | (unfold kPrf; (repeat' split) <;> omega))) | exact jG_up (show (5 : Int) = kPrf σ z from (by first | omega | (unfold kPrf; (repeat' split) <;> omega))))⟩
  · refine X_aload_n C rfl dX9_sheets_8 ?_
    refine X_iload_n C rfl dX9_sheets_9 ?_
    refine X_callVE_1 C (c_X9_sheetsOf C.hlc (pr_thr I) (by omega)) cv_X9_132 jG_20 ⟨_, _, rfl⟩ rfl rfl dX9_sheets_10 ?_
    refine X_goto C (tgt := 17) dX9_sheets_13 (by decide) ?_
    exact X_ireturn C M rfl (by decide) (by decide) dX9_sheets_17 ⟨(by first | exact rI (Eq.trans (by rfl) (mA_0 (k := kPrf σ z) (by first | omega | (unfold kPrf; (repeat' split) <;> omega))).symm) | exact rI (mA_n (k := kPrf σ z) (by first | omega | (unfold kPrf; (repeat' split) <;> omega))).symm), rfl, (by first | rfl | exact congrArg (fun v9 => jG Y τ (up σ 40 0 0 v9) ρ ad) (show (0 : Int) = kPrf σ z from (by first | omega | (unfold kPrf; (repeat' split) <;> omega))) | exact jG_up (show (0 : Int) = kPrf σ z from (by first | omega | (unfold kPrf; (repeat' split) <;> omega))) | exact congrArg (fun v9 => jG Y τ (up σ 40 0 0 v9) ρ ad) (show (1 : Int) = kPrf σ z from (by first | omega | (unfold kPrf; (repeat' split) <;> omega))) | exact jG_up (show (1 : Int) = kPrf σ z from (by first | omega | (unfold kPrf; (repeat' split) <;> omega))) | exact congrArg (fun v9 => jG Y τ (up σ 40 0 0 v9) ρ ad) (show (2 : Int) = kPrf σ z from (by first | omega | (unfold kPrf; (repeat' split) <;> omega))) | exact jG_up (show (2 : Int) = kPrf σ z from (by first | omega | (unfold kPrf; (repeat' split) <;> omega))) | exact congrArg (fun v9 => jG Y τ (up σ 40 0 0 v9) ρ ad) (show (3 : Int) = kPrf σ z from (by first | omega | (unfold kPrf; (repeat' split) <;> omega))) | exact jG_up (show (3 : Int) = kPrf σ z from (by first | omega | (unfold kPrf; (repeat' split) <;> omega))) | exact congrArg (fun v9 => jG Y τ (up σ 40 0 0 v9) ρ ad) (show (4 : Int) = kPrf σ z from (by first | omega | (unfold kPrf; (repeat' split) <;> omega))) | exact jG_up (show (4 : Int) = kPrf σ z from (by first | omega | (unfold kPrf; (repeat' split) <;> omega))) | exact congrArg (fun v9 => jG Y τ (up σ 40 0 0 v9) ρ ad) (show (5 : Int) = kPrf σ z from (by first | omega | (unfold kPrf; (repeat' split) <;> omega))) | exact jG_up (show (5 : Int) = kPrf σ z from (by first | omega | (unfold kPrf; (repeat' split) <;> omega))))⟩
set_option maxRecDepth 100000 in
set_option maxHeartbeats 4000000 in
theorem c_X9_platesFor {lc : Launch} (hlc : lc.stackTraces = false) {D : va_G} {Y : Nat → ClassId} {A : Nat → Prop} {τ σ : xS} {ρ : xG} {ad : xL} {n z : Int} (I : xI n σ) (hz0 : rg z) : Ct lc yX9_platesFor cX9_platesFor 2 (some .int) (rmL 3 0 0) D Y A ad (jG Y τ σ ρ ad) [.ref (ad 20 0), .int (iI z)] (pE (some (.int (iI (mA (kOdr σ z) (σ 13 z 0) (-1))))) ad (jG Y τ (up σ 40 0 0 (kOdr σ z)) ρ ad)) (pF) := by
  refine Ct_of hlc (by decide +kernel) rfl rfl (own := RX9) (nm := "platesFor") (l0 := [some (.ref (ad 20 0)), some (.int (iI z))]) rfl (Nat.le_of_ble_eq_true rfl) (fun κ C M => ?_)
  have Ind := I.nd
  have Inc := I.nc
  have Ino := I.no
  have In := I.n0
  have kf := kOdr_f σ z
  refine X_aload_n C rfl dX9_platesFor_0 ?_
  refine X_iload_n C rfl dX9_platesFor_1 ?_
  refine X_callVE_1 C (c_X9_asksOrder C.hlc (by assumption) (by omega)) cv_X9_192 jG_20 ⟨_, _, rfl⟩ rfl rfl dX9_platesFor_2 ?_
  refine X_if_eqB C (tgt := 17) dX9_platesFor_5 (by decide) (fun c_5 => ?_) (fun c_5 => ?_)
  · refine X_iconst C dX9_platesFor_17 ?_
    exact X_ireturn C M rfl (by decide) (by decide) dX9_platesFor_18 ⟨(by first | exact rI (Eq.trans (by rfl) (mA_0 (k := kOdr σ z) (by first | omega | (unfold kOdr; (repeat' split) <;> omega))).symm) | exact rI (mA_n (k := kOdr σ z) (by first | omega | (unfold kOdr; (repeat' split) <;> omega))).symm), rfl, (by first | rfl | exact congrArg (fun v9 => jG Y τ (up σ 40 0 0 v9) ρ ad) (show (0 : Int) = kOdr σ z from (by first | omega | (unfold kOdr; (repeat' split) <;> omega))) | exact jG_up (show (0 : Int) = kOdr σ z from (by first | omega | (unfold kOdr; (repeat' split) <;> omega))) | exact congrArg (fun v9 => jG Y τ (up σ 40 0 0 v9) ρ ad) (show (1 : Int) = kOdr σ z from (by first | omega | (unfold kOdr; (repeat' split) <;> omega))) | exact jG_up (show (1 : Int) = kOdr σ z from (by first | omega | (unfold kOdr; (repeat' split) <;> omega))) | exact congrArg (fun v9 => jG Y τ (up σ 40 0 0 v9) ρ ad) (show (2 : Int) = kOdr σ z from (by first | omega | (unfold kOdr; (repeat' split) <;> omega))) | exact jG_up (show (2 : Int) = kOdr σ z from (by first | omega | (unfold kOdr; (repeat' split) <;> omega))) | exact congrArg (fun v9 => jG Y τ (up σ 40 0 0 v9) ρ ad) (show (3 : Int) = kOdr σ z from (by first | omega | (unfold kOdr; (repeat' split) <;> omega))) | exact jG_up (show (3 : Int) = kOdr σ z from (by first | omega | (unfold kOdr; (repeat' split) <;> omega))) | exact congrArg (fun v9 => jG Y τ (up σ 40 0 0 v9) ρ ad) (show (4 : Int) = kOdr σ z from (by first | omega | (unfold kOdr; (repeat' split) <;> omega))) | exact jG_up (show (4 : Int) = kOdr σ z from (by first | omega | (unfold kOdr; (repeat' split) <;> omega))) | exact congrArg (fun v9 => jG Y τ (up σ 40 0 0 v9) ρ ad) (show (5 : Int) = kOdr σ z from (by first | omega | (unfold kOdr; (repeat' split) <;> omega))) | exact jG_up (show (5 : Int) = kOdr σ z from (by first | omega | (unfold kOdr; (repeat' split) <;> omega))))⟩
  · refine X_aload_n C rfl dX9_platesFor_8 ?_
    refine Xg_X9_platesFor C fl_X9_56 dX9_platesFor_9 ?_
    refine X_iload_n C rfl dX9_platesFor_12 ?_
    refine Xm_platesFor_ld C (by omega) (by omega) (up_q (by decide)) dX9_platesFor_13 ?_
    refine X_goto C (tgt := 18) dX9_platesFor_14 (by decide) ?_
    exact X_ireturn C M rfl (by decide) (by decide) dX9_platesFor_18 ⟨(by first | exact rI (Eq.trans (by rfl) (mA_0 (k := kOdr σ z) (by first | omega | (unfold kOdr; (repeat' split) <;> omega))).symm) | exact rI (mA_n (k := kOdr σ z) (by first | omega | (unfold kOdr; (repeat' split) <;> omega))).symm), rfl, (by first | rfl | exact congrArg (fun v9 => jG Y τ (up σ 40 0 0 v9) ρ ad) (show (0 : Int) = kOdr σ z from (by first | omega | (unfold kOdr; (repeat' split) <;> omega))) | exact jG_up (show (0 : Int) = kOdr σ z from (by first | omega | (unfold kOdr; (repeat' split) <;> omega))) | exact congrArg (fun v9 => jG Y τ (up σ 40 0 0 v9) ρ ad) (show (1 : Int) = kOdr σ z from (by first | omega | (unfold kOdr; (repeat' split) <;> omega))) | exact jG_up (show (1 : Int) = kOdr σ z from (by first | omega | (unfold kOdr; (repeat' split) <;> omega))) | exact congrArg (fun v9 => jG Y τ (up σ 40 0 0 v9) ρ ad) (show (2 : Int) = kOdr σ z from (by first | omega | (unfold kOdr; (repeat' split) <;> omega))) | exact jG_up (show (2 : Int) = kOdr σ z from (by first | omega | (unfold kOdr; (repeat' split) <;> omega))) | exact congrArg (fun v9 => jG Y τ (up σ 40 0 0 v9) ρ ad) (show (3 : Int) = kOdr σ z from (by first | omega | (unfold kOdr; (repeat' split) <;> omega))) | exact jG_up (show (3 : Int) = kOdr σ z from (by first | omega | (unfold kOdr; (repeat' split) <;> omega))) | exact congrArg (fun v9 => jG Y τ (up σ 40 0 0 v9) ρ ad) (show (4 : Int) = kOdr σ z from (by first | omega | (unfold kOdr; (repeat' split) <;> omega))) | exact jG_up (show (4 : Int) = kOdr σ z from (by first | omega | (unfold kOdr; (repeat' split) <;> omega))) | exact congrArg (fun v9 => jG Y τ (up σ 40 0 0 v9) ρ ad) (show (5 : Int) = kOdr σ z from (by first | omega | (unfold kOdr; (repeat' split) <;> omega))) | exact jG_up (show (5 : Int) = kOdr σ z from (by first | omega | (unfold kOdr; (repeat' split) <;> omega))))⟩
set_option maxRecDepth 100000 in
set_option maxHeartbeats 4000000 in
theorem c_X9_needs {lc : Launch} (hlc : lc.stackTraces = false) {D : va_G} {Y : Nat → ClassId} {A : Nat → Prop} {τ σ : xS} {ρ : xG} {ad : xL} {n z : Int} (I : xI n σ) (hz0 : rg z) : Ct lc yX9_needs cX9_needs 2 (some .int) (rmL 6 0 0) D Y A ad (jG Y τ σ ρ ad) [.ref (ad 20 0), .int (iI z)] (pE (some (.int (iI (mA (kOdr σ z) (ndA σ z) (-1))))) ad (jG Y τ (up σ 40 0 0 (kOdr σ z)) ρ ad)) (pF) := by
  refine Ct_of hlc (by decide +kernel) rfl rfl (own := RX9) (nm := "needs") (l0 := [some (.ref (ad 20 0)), some (.int (iI z))]) rfl (Nat.le_of_ble_eq_true rfl) (fun κ C M => ?_)
  have Ind := I.nd
  have Inc := I.nc
  have Ino := I.no
  have In := I.n0
  have kf := kOdr_f σ z
  refine X_aload_n C rfl dX9_needs_0 ?_
  refine X_iload_n C rfl dX9_needs_1 ?_
  refine X_callVE_1 C (c_X9_asksOrder C.hlc (by assumption) (by omega)) cv_X9_192 jG_20 ⟨_, _, rfl⟩ rfl rfl dX9_needs_2 ?_
  refine X_if_eqB C (tgt := 16) dX9_needs_5 (by decide) (fun c_5 => ?_) (fun c_5 => ?_)
  · refine X_iconst C dX9_needs_16 ?_
    exact X_ireturn C M rfl (by decide) (by decide) dX9_needs_17 ⟨(by first | exact rI (Eq.trans (by rfl) (mA_0 (k := kOdr σ z) (by first | omega | (unfold kOdr; (repeat' split) <;> omega))).symm) | exact rI (mA_n (k := kOdr σ z) (by first | omega | (unfold kOdr; (repeat' split) <;> omega))).symm), rfl, (by first | rfl | exact congrArg (fun v9 => jG Y τ (up σ 40 0 0 v9) ρ ad) (show (0 : Int) = kOdr σ z from (by first | omega | (unfold kOdr; (repeat' split) <;> omega))) | exact jG_up (show (0 : Int) = kOdr σ z from (by first | omega | (unfold kOdr; (repeat' split) <;> omega))) | exact congrArg (fun v9 => jG Y τ (up σ 40 0 0 v9) ρ ad) (show (1 : Int) = kOdr σ z from (by first | omega | (unfold kOdr; (repeat' split) <;> omega))) | exact jG_up (show (1 : Int) = kOdr σ z from (by first | omega | (unfold kOdr; (repeat' split) <;> omega))) | exact congrArg (fun v9 => jG Y τ (up σ 40 0 0 v9) ρ ad) (show (2 : Int) = kOdr σ z from (by first | omega | (unfold kOdr; (repeat' split) <;> omega))) | exact jG_up (show (2 : Int) = kOdr σ z from (by first | omega | (unfold kOdr; (repeat' split) <;> omega))) | exact congrArg (fun v9 => jG Y τ (up σ 40 0 0 v9) ρ ad) (show (3 : Int) = kOdr σ z from (by first | omega | (unfold kOdr; (repeat' split) <;> omega))) | exact jG_up (show (3 : Int) = kOdr σ z from (by first | omega | (unfold kOdr; (repeat' split) <;> omega))) | exact congrArg (fun v9 => jG Y τ (up σ 40 0 0 v9) ρ ad) (show (4 : Int) = kOdr σ z from (by first | omega | (unfold kOdr; (repeat' split) <;> omega))) | exact jG_up (show (4 : Int) = kOdr σ z from (by first | omega | (unfold kOdr; (repeat' split) <;> omega))) | exact congrArg (fun v9 => jG Y τ (up σ 40 0 0 v9) ρ ad) (show (5 : Int) = kOdr σ z from (by first | omega | (unfold kOdr; (repeat' split) <;> omega))) | exact jG_up (show (5 : Int) = kOdr σ z from (by first | omega | (unfold kOdr; (repeat' split) <;> omega))))⟩
  · refine X_aload_n C rfl dX9_needs_8 ?_
    refine X_iload_n C rfl dX9_needs_9 ?_
    refine X_callVE_1 C (c_X9_needed C.hlc (pr_thr I) (show 0 ≤ z ∧ z < σ 32 0 0 from by omega)) cv_X9_186 jG_20 ⟨_, _, rfl⟩ rfl rfl dX9_needs_10 ?_
    refine X_goto C (tgt := 17) dX9_needs_13 (by decide) ?_
    exact X_ireturn C M rfl (by decide) (by decide) dX9_needs_17 ⟨(by first | exact rI (Eq.trans (by rfl) (mA_0 (k := kOdr σ z) (by first | omega | (unfold kOdr; (repeat' split) <;> omega))).symm) | exact rI (mA_n (k := kOdr σ z) (by first | omega | (unfold kOdr; (repeat' split) <;> omega))).symm), rfl, (by first | rfl | exact congrArg (fun v9 => jG Y τ (up σ 40 0 0 v9) ρ ad) (show (0 : Int) = kOdr σ z from (by first | omega | (unfold kOdr; (repeat' split) <;> omega))) | exact jG_up (show (0 : Int) = kOdr σ z from (by first | omega | (unfold kOdr; (repeat' split) <;> omega))) | exact congrArg (fun v9 => jG Y τ (up σ 40 0 0 v9) ρ ad) (show (1 : Int) = kOdr σ z from (by first | omega | (unfold kOdr; (repeat' split) <;> omega))) | exact jG_up (show (1 : Int) = kOdr σ z from (by first | omega | (unfold kOdr; (repeat' split) <;> omega))) | exact congrArg (fun v9 => jG Y τ (up σ 40 0 0 v9) ρ ad) (show (2 : Int) = kOdr σ z from (by first | omega | (unfold kOdr; (repeat' split) <;> omega))) | exact jG_up (show (2 : Int) = kOdr σ z from (by first | omega | (unfold kOdr; (repeat' split) <;> omega))) | exact congrArg (fun v9 => jG Y τ (up σ 40 0 0 v9) ρ ad) (show (3 : Int) = kOdr σ z from (by first | omega | (unfold kOdr; (repeat' split) <;> omega))) | exact jG_up (show (3 : Int) = kOdr σ z from (by first | omega | (unfold kOdr; (repeat' split) <;> omega))) | exact congrArg (fun v9 => jG Y τ (up σ 40 0 0 v9) ρ ad) (show (4 : Int) = kOdr σ z from (by first | omega | (unfold kOdr; (repeat' split) <;> omega))) | exact jG_up (show (4 : Int) = kOdr σ z from (by first | omega | (unfold kOdr; (repeat' split) <;> omega))) | exact congrArg (fun v9 => jG Y τ (up σ 40 0 0 v9) ρ ad) (show (5 : Int) = kOdr σ z from (by first | omega | (unfold kOdr; (repeat' split) <;> omega))) | exact jG_up (show (5 : Int) = kOdr σ z from (by first | omega | (unfold kOdr; (repeat' split) <;> omega))))⟩
set_option maxRecDepth 100000 in
set_option maxHeartbeats 4000000 in
theorem c_X9_paper {lc : Launch} (hlc : lc.stackTraces = false) {D : va_G} {Y : Nat → ClassId} {A : Nat → Prop} {τ σ : xS} {ρ : xG} {ad : xL} {n : Int} (I : xI n σ) : Ct lc yX9_paper cX9_paper 1 (some .int) (rmL 0 0 0) D Y A ad (jG Y τ σ ρ ad) [.ref (ad 20 0)] (pE (some (.int (iI (σ 33 0 0)))) ad (jG Y τ (up σ 40 0 0 0) ρ ad)) (pF) := by
  refine Ct_of hlc (by decide +kernel) rfl rfl (own := RX9) (nm := "paper") (l0 := [some (.ref (ad 20 0))]) rfl (Nat.le_of_ble_eq_true rfl) (fun κ C M => ?_)
  refine X_aload_n C rfl dX9_paper_0 ?_
  refine X_iconst C dX9_paper_1 ?_
  refine Xp_X9_thrown C fw_X9_78 dX9_paper_2 ?_
  refine X_aload_n C rfl dX9_paper_5 ?_
  refine Xg_X9_paper C (up_q (by decide)) fl_X9_156 dX9_paper_6 ?_
  exact X_ireturn C M rfl (by decide) (by decide) dX9_paper_9 ⟨rfl, rfl, rfl⟩
set_option maxRecDepth 100000 in
set_option maxHeartbeats 4000000 in
theorem c_X9_plates {lc : Launch} (hlc : lc.stackTraces = false) {D : va_G} {Y : Nat → ClassId} {A : Nat → Prop} {τ σ : xS} {ρ : xG} {ad : xL} {n : Int} (I : xI n σ) : Ct lc yX9_plates cX9_plates 1 (some .int) (rmL 0 0 0) D Y A ad (jG Y τ σ ρ ad) [.ref (ad 20 0)] (pE (some (.int (iI (σ 34 0 0)))) ad (jG Y τ (up σ 40 0 0 0) ρ ad)) (pF) := by
  refine Ct_of hlc (by decide +kernel) rfl rfl (own := RX9) (nm := "plates") (l0 := [some (.ref (ad 20 0))]) rfl (Nat.le_of_ble_eq_true rfl) (fun κ C M => ?_)
  refine X_aload_n C rfl dX9_plates_0 ?_
  refine X_iconst C dX9_plates_1 ?_
  refine Xp_X9_thrown C fw_X9_78 dX9_plates_2 ?_
  refine X_aload_n C rfl dX9_plates_5 ?_
  refine Xg_X9_plates C (up_q (by decide)) fl_X9_160 dX9_plates_6 ?_
  exact X_ireturn C M rfl (by decide) (by decide) dX9_plates_9 ⟨rfl, rfl, rfl⟩
set_option maxRecDepth 100000 in
set_option maxHeartbeats 4000000 in
theorem c_X9_onPress {lc : Launch} (hlc : lc.stackTraces = false) {D : va_G} {Y : Nat → ClassId} {A : Nat → Prop} {τ σ : xS} {ρ : xG} {ad : xL} {n : Int} (I : xI n σ) : Ct lc yX9_onPress cX9_onPress 1 (some .int) (rmL 0 0 0) D Y A ad (jG Y τ σ ρ ad) [.ref (ad 20 0)] (pE (some (.int (iI (σ 35 0 0)))) ad (jG Y τ (up σ 40 0 0 0) ρ ad)) (pF) := by
  refine Ct_of hlc (by decide +kernel) rfl rfl (own := RX9) (nm := "onPress") (l0 := [some (.ref (ad 20 0))]) rfl (Nat.le_of_ble_eq_true rfl) (fun κ C M => ?_)
  refine X_aload_n C rfl dX9_onPress_0 ?_
  refine X_iconst C dX9_onPress_1 ?_
  refine Xp_X9_thrown C fw_X9_78 dX9_onPress_2 ?_
  refine X_aload_n C rfl dX9_onPress_5 ?_
  refine Xg_X9_pressOrder C (up_q (by decide)) fl_X9_71 dX9_onPress_6 ?_
  exact X_ireturn C M rfl (by decide) (by decide) dX9_onPress_9 ⟨rfl, rfl, rfl⟩
set_option maxRecDepth 100000 in
set_option maxHeartbeats 4000000 in
theorem c_X9_hour {lc : Launch} (hlc : lc.stackTraces = false) {D : va_G} {Y : Nat → ClassId} {A : Nat → Prop} {τ σ : xS} {ρ : xG} {ad : xL} {n : Int} (I : xI n σ) : Ct lc yX9_hour cX9_hour 1 (some .int) (rmL 0 0 0) D Y A ad (jG Y τ σ ρ ad) [.ref (ad 20 0)] (pE (some (.int (iI (σ 39 0 0)))) ad (jG Y τ (up σ 40 0 0 0) ρ ad)) (pF) := by
  refine Ct_of hlc (by decide +kernel) rfl rfl (own := RX9) (nm := "hour") (l0 := [some (.ref (ad 20 0))]) rfl (Nat.le_of_ble_eq_true rfl) (fun κ C M => ?_)
  refine X_aload_n C rfl dX9_hour_0 ?_
  refine X_iconst C dX9_hour_1 ?_
  refine Xp_X9_thrown C fw_X9_78 dX9_hour_2 ?_
  refine X_aload_n C rfl dX9_hour_5 ?_
  refine Xg_X9_hour C (up_q (by decide)) fl_X9_88 dX9_hour_6 ?_
  exact X_ireturn C M rfl (by decide) (by decide) dX9_hour_9 ⟨rfl, rfl, rfl⟩
set_option maxRecDepth 100000 in
set_option maxHeartbeats 4000000 in
theorem c_X9_freePaper {lc : Launch} (hlc : lc.stackTraces = false) {D : va_G} {Y : Nat → ClassId} {A : Nat → Prop} {τ σ : xS} {ρ : xG} {ad : xL} {n : Int} (I : xI n σ) : Ct lc yX9_freePaper cX9_freePaper 1 (some .int) (rmL 7 0 0) D Y A ad (jG Y τ σ ρ ad) [.ref (ad 20 0)] (pE (some (.int (iI (frA σ (σ 32 0 0))))) ad (jG Y τ (up σ 40 0 0 0) ρ ad)) (pF) := by
  refine Ct_of hlc (by decide +kernel) rfl rfl (own := RX9) (nm := "freePaper") (l0 := [some (.ref (ad 20 0))]) rfl (Nat.le_of_ble_eq_true rfl) (fun κ C M => ?_)
  refine X_aload_n C rfl dX9_freePaper_0 ?_
  refine X_iconst C dX9_freePaper_1 ?_
  refine Xp_X9_thrown C fw_X9_78 dX9_freePaper_2 ?_
  refine X_aload_n C rfl dX9_freePaper_5 ?_
  refine X_callVE_0 C (c_X9_free C.hlc (pr_thr I)) cv_X9_168 jG_20 ⟨_, _, rfl⟩ rfl rfl dX9_freePaper_6 ?_
  exact X_ireturn C M rfl (by decide) (by decide) dX9_freePaper_9 ⟨rfl, rfl, rfl⟩
set_option maxRecDepth 100000 in
set_option maxHeartbeats 4000000 in
theorem c_X9_stateOf {lc : Launch} (hlc : lc.stackTraces = false) {D : va_G} {Y : Nat → ClassId} {A : Nat → Prop} {τ σ : xS} {ρ : xG} {ad : xL} {n z s : Int} (I : xI n σ) (hz0 : rg z) (hz1 : rg s) : Ct lc yX9_stateOf cX9_stateOf 3 (some .char) (rmL 4 0 0) D Y A ad (jG Y τ σ ρ ad) [.ref (ad 20 0), .int (iI z), .int (iI s)] (pE (some (.int (iI (mA (kSta σ z s) (stA σ z s) 32)))) ad (jG Y τ (up σ 40 0 0 (kSta σ z s)) ρ ad)) (pF) := by
  refine Ct_of hlc (by decide +kernel) rfl rfl (own := RX9) (nm := "stateOf") (l0 := [some (.ref (ad 20 0)), some (.int (iI z)), some (.int (iI s))]) rfl (Nat.le_of_ble_eq_true rfl) (fun κ C M => ?_)
  have Ind := I.nd
  have Inc := I.nc
  have Ino := I.no
  have In := I.n0
  have kf := kSta_f σ z s
  refine X_aload_n C rfl dX9_stateOf_0 ?_
  refine X_iload_n C rfl dX9_stateOf_1 ?_
  refine X_iload_n C rfl dX9_stateOf_2 ?_
  refine X_callVE_2 C (c_X9_asksSheet C.hlc (by assumption) (by omega) (by omega)) cv_X9_195 jG_20 ⟨_, _, rfl⟩ rfl rfl dX9_stateOf_3 ?_
  refine X_if_eqB C (tgt := 18) dX9_stateOf_6 (by decide) (fun c_6 => ?_) (fun c_6 => ?_)
  · refine X_bipush C ⟨by decide, by decide⟩ dX9_stateOf_18 ?_
    exact X_ireturn C M (narC (by omega) (by omega)) (by decide) (by decide) dX9_stateOf_20 ⟨(by first | exact rI (Eq.trans (by rfl) (mA_0 (k := kSta σ z s) (by first | omega | (unfold kSta; (repeat' split) <;> omega))).symm) | exact rI (mA_n (k := kSta σ z s) (by first | omega | (unfold kSta; (repeat' split) <;> omega))).symm), rfl, (by first | rfl | exact congrArg (fun v9 => jG Y τ (up σ 40 0 0 v9) ρ ad) (show (0 : Int) = kSta σ z s from (by first | omega | (unfold kSta; (repeat' split) <;> omega))) | exact jG_up (show (0 : Int) = kSta σ z s from (by first | omega | (unfold kSta; (repeat' split) <;> omega))) | exact congrArg (fun v9 => jG Y τ (up σ 40 0 0 v9) ρ ad) (show (1 : Int) = kSta σ z s from (by first | omega | (unfold kSta; (repeat' split) <;> omega))) | exact jG_up (show (1 : Int) = kSta σ z s from (by first | omega | (unfold kSta; (repeat' split) <;> omega))) | exact congrArg (fun v9 => jG Y τ (up σ 40 0 0 v9) ρ ad) (show (2 : Int) = kSta σ z s from (by first | omega | (unfold kSta; (repeat' split) <;> omega))) | exact jG_up (show (2 : Int) = kSta σ z s from (by first | omega | (unfold kSta; (repeat' split) <;> omega))) | exact congrArg (fun v9 => jG Y τ (up σ 40 0 0 v9) ρ ad) (show (3 : Int) = kSta σ z s from (by first | omega | (unfold kSta; (repeat' split) <;> omega))) | exact jG_up (show (3 : Int) = kSta σ z s from (by first | omega | (unfold kSta; (repeat' split) <;> omega))) | exact congrArg (fun v9 => jG Y τ (up σ 40 0 0 v9) ρ ad) (show (4 : Int) = kSta σ z s from (by first | omega | (unfold kSta; (repeat' split) <;> omega))) | exact jG_up (show (4 : Int) = kSta σ z s from (by first | omega | (unfold kSta; (repeat' split) <;> omega))) | exact congrArg (fun v9 => jG Y τ (up σ 40 0 0 v9) ρ ad) (show (5 : Int) = kSta σ z s from (by first | omega | (unfold kSta; (repeat' split) <;> omega))) | exact jG_up (show (5 : Int) = kSta σ z s from (by first | omega | (unfold kSta; (repeat' split) <;> omega))))⟩
  · refine X_aload_n C rfl dX9_stateOf_9 ?_
    refine X_iload_n C rfl dX9_stateOf_10 ?_
    refine X_iload_n C rfl dX9_stateOf_11 ?_
    refine X_callVE_2 C (c_X9_stateNow C.hlc (pr_thr I) (show 0 ≤ z ∧ z < σ 32 0 0 from by omega) (show 0 ≤ s ∧ s < shT σ (σ 9 z 0) from by omega)) cv_X9_178 jG_20 ⟨_, _, rfl⟩ rfl rfl dX9_stateOf_12 ?_
    have hv := stA_v (up σ 40 0 0 (kSta σ z s)) z s
    refine X_goto C (tgt := 20) dX9_stateOf_15 (by decide) ?_
    exact X_ireturn C M (narC (by omega) (by omega)) (by decide) (by decide) dX9_stateOf_20 ⟨(by first | exact rI (Eq.trans (by rfl) (mA_0 (k := kSta σ z s) (by first | omega | (unfold kSta; (repeat' split) <;> omega))).symm) | exact rI (mA_n (k := kSta σ z s) (by first | omega | (unfold kSta; (repeat' split) <;> omega))).symm), rfl, (by first | rfl | exact congrArg (fun v9 => jG Y τ (up σ 40 0 0 v9) ρ ad) (show (0 : Int) = kSta σ z s from (by first | omega | (unfold kSta; (repeat' split) <;> omega))) | exact jG_up (show (0 : Int) = kSta σ z s from (by first | omega | (unfold kSta; (repeat' split) <;> omega))) | exact congrArg (fun v9 => jG Y τ (up σ 40 0 0 v9) ρ ad) (show (1 : Int) = kSta σ z s from (by first | omega | (unfold kSta; (repeat' split) <;> omega))) | exact jG_up (show (1 : Int) = kSta σ z s from (by first | omega | (unfold kSta; (repeat' split) <;> omega))) | exact congrArg (fun v9 => jG Y τ (up σ 40 0 0 v9) ρ ad) (show (2 : Int) = kSta σ z s from (by first | omega | (unfold kSta; (repeat' split) <;> omega))) | exact jG_up (show (2 : Int) = kSta σ z s from (by first | omega | (unfold kSta; (repeat' split) <;> omega))) | exact congrArg (fun v9 => jG Y τ (up σ 40 0 0 v9) ρ ad) (show (3 : Int) = kSta σ z s from (by first | omega | (unfold kSta; (repeat' split) <;> omega))) | exact jG_up (show (3 : Int) = kSta σ z s from (by first | omega | (unfold kSta; (repeat' split) <;> omega))) | exact congrArg (fun v9 => jG Y τ (up σ 40 0 0 v9) ρ ad) (show (4 : Int) = kSta σ z s from (by first | omega | (unfold kSta; (repeat' split) <;> omega))) | exact jG_up (show (4 : Int) = kSta σ z s from (by first | omega | (unfold kSta; (repeat' split) <;> omega))) | exact congrArg (fun v9 => jG Y τ (up σ 40 0 0 v9) ρ ad) (show (5 : Int) = kSta σ z s from (by first | omega | (unfold kSta; (repeat' split) <;> omega))) | exact jG_up (show (5 : Int) = kSta σ z s from (by first | omega | (unfold kSta; (repeat' split) <;> omega))))⟩
set_option maxRecDepth 100000 in
set_option maxHeartbeats 4000000 in
theorem c_X9_spanFrom {lc : Launch} (hlc : lc.stackTraces = false) {D : va_G} {Y : Nat → ClassId} {A : Nat → Prop} {τ σ : xS} {ρ : xG} {ad : xL} {n z : Int} (I : xI n σ) (hz0 : rg z) : Ct lc yX9_spanFrom cX9_spanFrom 2 (some .int) (rmL 2 0 0) D Y A ad (jG Y τ σ ρ ad) [.ref (ad 20 0), .int (iI z)] (pE (some (.int (iI (mA (kAns σ z) (σ 6 z 0) (-1))))) ad (jG Y τ (up σ 40 0 0 (kAns σ z)) ρ ad)) (pF) := by
  refine Ct_of hlc (by decide +kernel) rfl rfl (own := RX9) (nm := "spanFrom") (l0 := [some (.ref (ad 20 0)), some (.int (iI z))]) rfl (Nat.le_of_ble_eq_true rfl) (fun κ C M => ?_)
  have Ind := I.nd
  have Inc := I.nc
  have Ino := I.no
  have In := I.n0
  refine X_aload_n C rfl dX9_spanFrom_0 ?_
  refine X_aload_n C rfl dX9_spanFrom_1 ?_
  refine X_iload_n C rfl dX9_spanFrom_2 ?_
  refine X_callVE_1 C (c_X9_isComment C.hlc (by assumption) (by omega)) cv_X9_125 jG_20 ⟨_, _, rfl⟩ rfl rfl dX9_spanFrom_3 ?_
  refine X_if_neB C (tgt := 13) dX9_spanFrom_6 (by decide) (fun c_6 => ?_) (fun c_6 => ?_)
  · refine X_aload_n C rfl dX9_spanFrom_13 ?_
    refine Xg_X9_isOpen C fl_X9_40 dX9_spanFrom_14 ?_
    refine X_iload_n C rfl dX9_spanFrom_17 ?_
    have k1 := I.op z 0
    refine Xm_isOpen_ld C (by omega) (by omega) rfl dX9_spanFrom_18 ?_
    refine X_if_ne C (tgt := 26) dX9_spanFrom_19 (by decide) ⟨by omega, by omega⟩ (fun c_19 => ?_) (fun c_19 => ?_)
    · refine X_iconst C dX9_spanFrom_26 ?_
      refine Xp_X9_thrown C fw_X9_78 dX9_spanFrom_27 ?_
      refine X_aload_n C rfl dX9_spanFrom_30 ?_
      refine Xg_X9_thrown C up_s fl_X9_78 dX9_spanFrom_31 ?_
      refine X_if_ne C (tgt := 46) dX9_spanFrom_34 (by decide) ⟨by omega, by omega⟩ (fun c_34 => ?_) (fun c_34 => ?_)
      · exfalso; omega
      refine X_aload_n C rfl dX9_spanFrom_37 ?_
      refine Xg_X9_spanFrom C fl_X9_34 dX9_spanFrom_38 ?_
      refine X_iload_n C rfl dX9_spanFrom_41 ?_
      refine Xm_spanFrom_ld C (by omega) (by omega) (up_q (by decide)) dX9_spanFrom_42 ?_
      refine X_goto C (tgt := 47) dX9_spanFrom_43 (by decide) ?_
      exact X_ireturn C M rfl (by decide) (by decide) dX9_spanFrom_47 ⟨(by first | exact rI (Eq.trans (by rfl) (mA_0 (k := kAns σ z) (by first | omega | (unfold kAns; (repeat' split) <;> omega))).symm) | exact rI (mA_n (k := kAns σ z) (by first | omega | (unfold kAns; (repeat' split) <;> omega))).symm), rfl, (by first | rfl | exact congrArg (fun v9 => jG Y τ (up σ 40 0 0 v9) ρ ad) (show (0 : Int) = kAns σ z from (by first | omega | (unfold kAns; (repeat' split) <;> omega))) | exact jG_up (show (0 : Int) = kAns σ z from (by first | omega | (unfold kAns; (repeat' split) <;> omega))) | exact congrArg (fun v9 => jG Y τ (up σ 40 0 0 v9) ρ ad) (show (1 : Int) = kAns σ z from (by first | omega | (unfold kAns; (repeat' split) <;> omega))) | exact jG_up (show (1 : Int) = kAns σ z from (by first | omega | (unfold kAns; (repeat' split) <;> omega))) | exact congrArg (fun v9 => jG Y τ (up σ 40 0 0 v9) ρ ad) (show (2 : Int) = kAns σ z from (by first | omega | (unfold kAns; (repeat' split) <;> omega))) | exact jG_up (show (2 : Int) = kAns σ z from (by first | omega | (unfold kAns; (repeat' split) <;> omega))) | exact congrArg (fun v9 => jG Y τ (up σ 40 0 0 v9) ρ ad) (show (3 : Int) = kAns σ z from (by first | omega | (unfold kAns; (repeat' split) <;> omega))) | exact jG_up (show (3 : Int) = kAns σ z from (by first | omega | (unfold kAns; (repeat' split) <;> omega))) | exact congrArg (fun v9 => jG Y τ (up σ 40 0 0 v9) ρ ad) (show (4 : Int) = kAns σ z from (by first | omega | (unfold kAns; (repeat' split) <;> omega))) | exact jG_up (show (4 : Int) = kAns σ z from (by first | omega | (unfold kAns; (repeat' split) <;> omega))) | exact congrArg (fun v9 => jG Y τ (up σ 40 0 0 v9) ρ ad) (show (5 : Int) = kAns σ z from (by first | omega | (unfold kAns; (repeat' split) <;> omega))) | exact jG_up (show (5 : Int) = kAns σ z from (by first | omega | (unfold kAns; (repeat' split) <;> omega))))⟩
    · refine X_iconst C dX9_spanFrom_22 ?_
      refine X_goto C (tgt := 27) dX9_spanFrom_23 (by decide) ?_
      refine Xp_X9_thrown C fw_X9_78 dX9_spanFrom_27 ?_
      refine X_aload_n C rfl dX9_spanFrom_30 ?_
      refine Xg_X9_thrown C up_s fl_X9_78 dX9_spanFrom_31 ?_
      refine X_if_ne C (tgt := 46) dX9_spanFrom_34 (by decide) ⟨by omega, by omega⟩ (fun c_34 => ?_) (fun c_34 => ?_)
      rotate_left
      · exfalso; omega
      refine X_iconst C dX9_spanFrom_46 ?_
      exact X_ireturn C M rfl (by decide) (by decide) dX9_spanFrom_47 ⟨(by first | exact rI (Eq.trans (by rfl) (mA_0 (k := kAns σ z) (by first | omega | (unfold kAns; (repeat' split) <;> omega))).symm) | exact rI (mA_n (k := kAns σ z) (by first | omega | (unfold kAns; (repeat' split) <;> omega))).symm), rfl, (by first | rfl | exact congrArg (fun v9 => jG Y τ (up σ 40 0 0 v9) ρ ad) (show (0 : Int) = kAns σ z from (by first | omega | (unfold kAns; (repeat' split) <;> omega))) | exact jG_up (show (0 : Int) = kAns σ z from (by first | omega | (unfold kAns; (repeat' split) <;> omega))) | exact congrArg (fun v9 => jG Y τ (up σ 40 0 0 v9) ρ ad) (show (1 : Int) = kAns σ z from (by first | omega | (unfold kAns; (repeat' split) <;> omega))) | exact jG_up (show (1 : Int) = kAns σ z from (by first | omega | (unfold kAns; (repeat' split) <;> omega))) | exact congrArg (fun v9 => jG Y τ (up σ 40 0 0 v9) ρ ad) (show (2 : Int) = kAns σ z from (by first | omega | (unfold kAns; (repeat' split) <;> omega))) | exact jG_up (show (2 : Int) = kAns σ z from (by first | omega | (unfold kAns; (repeat' split) <;> omega))) | exact congrArg (fun v9 => jG Y τ (up σ 40 0 0 v9) ρ ad) (show (3 : Int) = kAns σ z from (by first | omega | (unfold kAns; (repeat' split) <;> omega))) | exact jG_up (show (3 : Int) = kAns σ z from (by first | omega | (unfold kAns; (repeat' split) <;> omega))) | exact congrArg (fun v9 => jG Y τ (up σ 40 0 0 v9) ρ ad) (show (4 : Int) = kAns σ z from (by first | omega | (unfold kAns; (repeat' split) <;> omega))) | exact jG_up (show (4 : Int) = kAns σ z from (by first | omega | (unfold kAns; (repeat' split) <;> omega))) | exact congrArg (fun v9 => jG Y τ (up σ 40 0 0 v9) ρ ad) (show (5 : Int) = kAns σ z from (by first | omega | (unfold kAns; (repeat' split) <;> omega))) | exact jG_up (show (5 : Int) = kAns σ z from (by first | omega | (unfold kAns; (repeat' split) <;> omega))))⟩
  · refine X_iconst C dX9_spanFrom_9 ?_
    refine X_goto C (tgt := 27) dX9_spanFrom_10 (by decide) ?_
    refine Xp_X9_thrown C fw_X9_78 dX9_spanFrom_27 ?_
    refine X_aload_n C rfl dX9_spanFrom_30 ?_
    refine Xg_X9_thrown C up_s fl_X9_78 dX9_spanFrom_31 ?_
    refine X_if_ne C (tgt := 46) dX9_spanFrom_34 (by decide) ⟨by omega, by omega⟩ (fun c_34 => ?_) (fun c_34 => ?_)
    rotate_left
    · exfalso; omega
    refine X_iconst C dX9_spanFrom_46 ?_
    exact X_ireturn C M rfl (by decide) (by decide) dX9_spanFrom_47 ⟨(by first | exact rI (Eq.trans (by rfl) (mA_0 (k := kAns σ z) (by first | omega | (unfold kAns; (repeat' split) <;> omega))).symm) | exact rI (mA_n (k := kAns σ z) (by first | omega | (unfold kAns; (repeat' split) <;> omega))).symm), rfl, (by first | rfl | exact congrArg (fun v9 => jG Y τ (up σ 40 0 0 v9) ρ ad) (show (0 : Int) = kAns σ z from (by first | omega | (unfold kAns; (repeat' split) <;> omega))) | exact jG_up (show (0 : Int) = kAns σ z from (by first | omega | (unfold kAns; (repeat' split) <;> omega))) | exact congrArg (fun v9 => jG Y τ (up σ 40 0 0 v9) ρ ad) (show (1 : Int) = kAns σ z from (by first | omega | (unfold kAns; (repeat' split) <;> omega))) | exact jG_up (show (1 : Int) = kAns σ z from (by first | omega | (unfold kAns; (repeat' split) <;> omega))) | exact congrArg (fun v9 => jG Y τ (up σ 40 0 0 v9) ρ ad) (show (2 : Int) = kAns σ z from (by first | omega | (unfold kAns; (repeat' split) <;> omega))) | exact jG_up (show (2 : Int) = kAns σ z from (by first | omega | (unfold kAns; (repeat' split) <;> omega))) | exact congrArg (fun v9 => jG Y τ (up σ 40 0 0 v9) ρ ad) (show (3 : Int) = kAns σ z from (by first | omega | (unfold kAns; (repeat' split) <;> omega))) | exact jG_up (show (3 : Int) = kAns σ z from (by first | omega | (unfold kAns; (repeat' split) <;> omega))) | exact congrArg (fun v9 => jG Y τ (up σ 40 0 0 v9) ρ ad) (show (4 : Int) = kAns σ z from (by first | omega | (unfold kAns; (repeat' split) <;> omega))) | exact jG_up (show (4 : Int) = kAns σ z from (by first | omega | (unfold kAns; (repeat' split) <;> omega))) | exact congrArg (fun v9 => jG Y τ (up σ 40 0 0 v9) ρ ad) (show (5 : Int) = kAns σ z from (by first | omega | (unfold kAns; (repeat' split) <;> omega))) | exact jG_up (show (5 : Int) = kAns σ z from (by first | omega | (unfold kAns; (repeat' split) <;> omega))))⟩
set_option maxRecDepth 100000 in
set_option maxHeartbeats 4000000 in
theorem c_X9_spanTo {lc : Launch} (hlc : lc.stackTraces = false) {D : va_G} {Y : Nat → ClassId} {A : Nat → Prop} {τ σ : xS} {ρ : xG} {ad : xL} {n z : Int} (I : xI n σ) (hz0 : rg z) : Ct lc yX9_spanTo cX9_spanTo 2 (some .int) (rmL 2 0 0) D Y A ad (jG Y τ σ ρ ad) [.ref (ad 20 0), .int (iI z)] (pE (some (.int (iI (mA (kAns σ z) (σ 7 z 0) (-1))))) ad (jG Y τ (up σ 40 0 0 (kAns σ z)) ρ ad)) (pF) := by
  refine Ct_of hlc (by decide +kernel) rfl rfl (own := RX9) (nm := "spanTo") (l0 := [some (.ref (ad 20 0)), some (.int (iI z))]) rfl (Nat.le_of_ble_eq_true rfl) (fun κ C M => ?_)
  have Ind := I.nd
  have Inc := I.nc
  have Ino := I.no
  have In := I.n0
  refine X_aload_n C rfl dX9_spanTo_0 ?_
  refine X_aload_n C rfl dX9_spanTo_1 ?_
  refine X_iload_n C rfl dX9_spanTo_2 ?_
  refine X_callVE_1 C (c_X9_isComment C.hlc (by assumption) (by omega)) cv_X9_125 jG_20 ⟨_, _, rfl⟩ rfl rfl dX9_spanTo_3 ?_
  refine X_if_neB C (tgt := 13) dX9_spanTo_6 (by decide) (fun c_6 => ?_) (fun c_6 => ?_)
  · refine X_aload_n C rfl dX9_spanTo_13 ?_
    refine Xg_X9_isOpen C fl_X9_40 dX9_spanTo_14 ?_
    refine X_iload_n C rfl dX9_spanTo_17 ?_
    have k1 := I.op z 0
    refine Xm_isOpen_ld C (by omega) (by omega) rfl dX9_spanTo_18 ?_
    refine X_if_ne C (tgt := 26) dX9_spanTo_19 (by decide) ⟨by omega, by omega⟩ (fun c_19 => ?_) (fun c_19 => ?_)
    · refine X_iconst C dX9_spanTo_26 ?_
      refine Xp_X9_thrown C fw_X9_78 dX9_spanTo_27 ?_
      refine X_aload_n C rfl dX9_spanTo_30 ?_
      refine Xg_X9_thrown C up_s fl_X9_78 dX9_spanTo_31 ?_
      refine X_if_ne C (tgt := 46) dX9_spanTo_34 (by decide) ⟨by omega, by omega⟩ (fun c_34 => ?_) (fun c_34 => ?_)
      · exfalso; omega
      refine X_aload_n C rfl dX9_spanTo_37 ?_
      refine Xg_X9_spanTo C fl_X9_37 dX9_spanTo_38 ?_
      refine X_iload_n C rfl dX9_spanTo_41 ?_
      refine Xm_spanTo_ld C (by omega) (by omega) (up_q (by decide)) dX9_spanTo_42 ?_
      refine X_goto C (tgt := 47) dX9_spanTo_43 (by decide) ?_
      exact X_ireturn C M rfl (by decide) (by decide) dX9_spanTo_47 ⟨(by first | exact rI (Eq.trans (by rfl) (mA_0 (k := kAns σ z) (by first | omega | (unfold kAns; (repeat' split) <;> omega))).symm) | exact rI (mA_n (k := kAns σ z) (by first | omega | (unfold kAns; (repeat' split) <;> omega))).symm), rfl, (by first | rfl | exact congrArg (fun v9 => jG Y τ (up σ 40 0 0 v9) ρ ad) (show (0 : Int) = kAns σ z from (by first | omega | (unfold kAns; (repeat' split) <;> omega))) | exact jG_up (show (0 : Int) = kAns σ z from (by first | omega | (unfold kAns; (repeat' split) <;> omega))) | exact congrArg (fun v9 => jG Y τ (up σ 40 0 0 v9) ρ ad) (show (1 : Int) = kAns σ z from (by first | omega | (unfold kAns; (repeat' split) <;> omega))) | exact jG_up (show (1 : Int) = kAns σ z from (by first | omega | (unfold kAns; (repeat' split) <;> omega))) | exact congrArg (fun v9 => jG Y τ (up σ 40 0 0 v9) ρ ad) (show (2 : Int) = kAns σ z from (by first | omega | (unfold kAns; (repeat' split) <;> omega))) | exact jG_up (show (2 : Int) = kAns σ z from (by first | omega | (unfold kAns; (repeat' split) <;> omega))) | exact congrArg (fun v9 => jG Y τ (up σ 40 0 0 v9) ρ ad) (show (3 : Int) = kAns σ z from (by first | omega | (unfold kAns; (repeat' split) <;> omega))) | exact jG_up (show (3 : Int) = kAns σ z from (by first | omega | (unfold kAns; (repeat' split) <;> omega))) | exact congrArg (fun v9 => jG Y τ (up σ 40 0 0 v9) ρ ad) (show (4 : Int) = kAns σ z from (by first | omega | (unfold kAns; (repeat' split) <;> omega))) | exact jG_up (show (4 : Int) = kAns σ z from (by first | omega | (unfold kAns; (repeat' split) <;> omega))) | exact congrArg (fun v9 => jG Y τ (up σ 40 0 0 v9) ρ ad) (show (5 : Int) = kAns σ z from (by first | omega | (unfold kAns; (repeat' split) <;> omega))) | exact jG_up (show (5 : Int) = kAns σ z from (by first | omega | (unfold kAns; (repeat' split) <;> omega))))⟩
    · refine X_iconst C dX9_spanTo_22 ?_
      refine X_goto C (tgt := 27) dX9_spanTo_23 (by decide) ?_
      refine Xp_X9_thrown C fw_X9_78 dX9_spanTo_27 ?_
      refine X_aload_n C rfl dX9_spanTo_30 ?_
      refine Xg_X9_thrown C up_s fl_X9_78 dX9_spanTo_31 ?_
      refine X_if_ne C (tgt := 46) dX9_spanTo_34 (by decide) ⟨by omega, by omega⟩ (fun c_34 => ?_) (fun c_34 => ?_)
      rotate_left
      · exfalso; omega
      refine X_iconst C dX9_spanTo_46 ?_
      exact X_ireturn C M rfl (by decide) (by decide) dX9_spanTo_47 ⟨(by first | exact rI (Eq.trans (by rfl) (mA_0 (k := kAns σ z) (by first | omega | (unfold kAns; (repeat' split) <;> omega))).symm) | exact rI (mA_n (k := kAns σ z) (by first | omega | (unfold kAns; (repeat' split) <;> omega))).symm), rfl, (by first | rfl | exact congrArg (fun v9 => jG Y τ (up σ 40 0 0 v9) ρ ad) (show (0 : Int) = kAns σ z from (by first | omega | (unfold kAns; (repeat' split) <;> omega))) | exact jG_up (show (0 : Int) = kAns σ z from (by first | omega | (unfold kAns; (repeat' split) <;> omega))) | exact congrArg (fun v9 => jG Y τ (up σ 40 0 0 v9) ρ ad) (show (1 : Int) = kAns σ z from (by first | omega | (unfold kAns; (repeat' split) <;> omega))) | exact jG_up (show (1 : Int) = kAns σ z from (by first | omega | (unfold kAns; (repeat' split) <;> omega))) | exact congrArg (fun v9 => jG Y τ (up σ 40 0 0 v9) ρ ad) (show (2 : Int) = kAns σ z from (by first | omega | (unfold kAns; (repeat' split) <;> omega))) | exact jG_up (show (2 : Int) = kAns σ z from (by first | omega | (unfold kAns; (repeat' split) <;> omega))) | exact congrArg (fun v9 => jG Y τ (up σ 40 0 0 v9) ρ ad) (show (3 : Int) = kAns σ z from (by first | omega | (unfold kAns; (repeat' split) <;> omega))) | exact jG_up (show (3 : Int) = kAns σ z from (by first | omega | (unfold kAns; (repeat' split) <;> omega))) | exact congrArg (fun v9 => jG Y τ (up σ 40 0 0 v9) ρ ad) (show (4 : Int) = kAns σ z from (by first | omega | (unfold kAns; (repeat' split) <;> omega))) | exact jG_up (show (4 : Int) = kAns σ z from (by first | omega | (unfold kAns; (repeat' split) <;> omega))) | exact congrArg (fun v9 => jG Y τ (up σ 40 0 0 v9) ρ ad) (show (5 : Int) = kAns σ z from (by first | omega | (unfold kAns; (repeat' split) <;> omega))) | exact jG_up (show (5 : Int) = kAns σ z from (by first | omega | (unfold kAns; (repeat' split) <;> omega))))⟩
  · refine X_iconst C dX9_spanTo_9 ?_
    refine X_goto C (tgt := 27) dX9_spanTo_10 (by decide) ?_
    refine Xp_X9_thrown C fw_X9_78 dX9_spanTo_27 ?_
    refine X_aload_n C rfl dX9_spanTo_30 ?_
    refine Xg_X9_thrown C up_s fl_X9_78 dX9_spanTo_31 ?_
    refine X_if_ne C (tgt := 46) dX9_spanTo_34 (by decide) ⟨by omega, by omega⟩ (fun c_34 => ?_) (fun c_34 => ?_)
    rotate_left
    · exfalso; omega
    refine X_iconst C dX9_spanTo_46 ?_
    exact X_ireturn C M rfl (by decide) (by decide) dX9_spanTo_47 ⟨(by first | exact rI (Eq.trans (by rfl) (mA_0 (k := kAns σ z) (by first | omega | (unfold kAns; (repeat' split) <;> omega))).symm) | exact rI (mA_n (k := kAns σ z) (by first | omega | (unfold kAns; (repeat' split) <;> omega))).symm), rfl, (by first | rfl | exact congrArg (fun v9 => jG Y τ (up σ 40 0 0 v9) ρ ad) (show (0 : Int) = kAns σ z from (by first | omega | (unfold kAns; (repeat' split) <;> omega))) | exact jG_up (show (0 : Int) = kAns σ z from (by first | omega | (unfold kAns; (repeat' split) <;> omega))) | exact congrArg (fun v9 => jG Y τ (up σ 40 0 0 v9) ρ ad) (show (1 : Int) = kAns σ z from (by first | omega | (unfold kAns; (repeat' split) <;> omega))) | exact jG_up (show (1 : Int) = kAns σ z from (by first | omega | (unfold kAns; (repeat' split) <;> omega))) | exact congrArg (fun v9 => jG Y τ (up σ 40 0 0 v9) ρ ad) (show (2 : Int) = kAns σ z from (by first | omega | (unfold kAns; (repeat' split) <;> omega))) | exact jG_up (show (2 : Int) = kAns σ z from (by first | omega | (unfold kAns; (repeat' split) <;> omega))) | exact congrArg (fun v9 => jG Y τ (up σ 40 0 0 v9) ρ ad) (show (3 : Int) = kAns σ z from (by first | omega | (unfold kAns; (repeat' split) <;> omega))) | exact jG_up (show (3 : Int) = kAns σ z from (by first | omega | (unfold kAns; (repeat' split) <;> omega))) | exact congrArg (fun v9 => jG Y τ (up σ 40 0 0 v9) ρ ad) (show (4 : Int) = kAns σ z from (by first | omega | (unfold kAns; (repeat' split) <;> omega))) | exact jG_up (show (4 : Int) = kAns σ z from (by first | omega | (unfold kAns; (repeat' split) <;> omega))) | exact congrArg (fun v9 => jG Y τ (up σ 40 0 0 v9) ρ ad) (show (5 : Int) = kAns σ z from (by first | omega | (unfold kAns; (repeat' split) <;> omega))) | exact jG_up (show (5 : Int) = kAns σ z from (by first | omega | (unfold kAns; (repeat' split) <;> omega))))⟩
set_option maxRecDepth 100000 in
set_option maxHeartbeats 4000000 in
theorem c_X9_pageOn {lc : Launch} (hlc : lc.stackTraces = false) {D : va_G} {Y : Nat → ClassId} {A : Nat → Prop} {τ σ : xS} {ρ : xG} {ad : xL} {n z s q : Int} (I : xI n σ) (hz0 : rg z) (hz1 : rg s) (hz2 : rg q) : Ct lc yX9_pageOn cX9_pageOn 4 (some .int) (rmL 3 0 0) D Y A ad (jG Y τ σ ρ ad) [.ref (ad 20 0), .int (iI z), .int (iI s), .int (iI q)] (pE (some (.int (iI (mA (kPag σ z s q 4) (pgA (shT σ z) s q) (-1))))) ad (jG Y τ (up σ 40 0 0 (kPag σ z s q 4)) ρ ad)) (pF) := by
  refine Ct_of hlc (by decide +kernel) rfl rfl (own := RX9) (nm := "pageOn") (l0 := [some (.ref (ad 20 0)), some (.int (iI z)), some (.int (iI s)), some (.int (iI q))]) rfl (Nat.le_of_ble_eq_true rfl) (fun κ C M => ?_)
  have Ind := I.nd
  have Inc := I.nc
  have Ino := I.no
  have In := I.n0
  have kf := kPrf_f σ z
  have k5 := I.sb z
  refine X_aload_n C rfl dX9_pageOn_0 ?_
  refine X_iload_n C rfl dX9_pageOn_1 ?_
  refine X_callVE_1 C (c_X9_asksProof C.hlc (by assumption) (by omega)) cv_X9_135 jG_20 ⟨_, _, rfl⟩ rfl rfl dX9_pageOn_2 ?_
  refine X_if_neB C (tgt := 10) dX9_pageOn_5 (by decide) (fun c_5 => ?_) (fun c_5 => ?_)
  · refine X_aload_n C rfl dX9_pageOn_10 ?_
    refine X_iload_n C rfl dX9_pageOn_11 ?_
    refine X_i2l C ⟨by omega, by omega⟩ dX9_pageOn_12 ?_
    refine X_lconst C (v := 0) rfl dX9_pageOn_13 ?_
    refine X_aload_n C rfl dX9_pageOn_14 ?_
    refine X_iload_n C rfl dX9_pageOn_15 ?_
    refine X_callVE_1 C (c_X9_sheetsOf C.hlc (pr_thr I) (by omega)) cv_X9_132 jG_20 ⟨_, _, rfl⟩ rfl rfl dX9_pageOn_16 ?_
    rw [show shT (up σ 40 0 0 (kPrf σ z)) z = shT σ z from rfl]
    refine X_iconst C dX9_pageOn_19 ?_
    refine X_isub C dX9_pageOn_20 ?_
    refine X_i2l C ⟨by omega, by omega⟩ dX9_pageOn_21 ?_
    refine X_callSE_3 C (c_X9_in C.hlc (by omega) (by omega) (by omega)) cs_X9_84 rfl rfl dX9_pageOn_22 ?_
    refine X_if_eqB C (tgt := 44) dX9_pageOn_25 (by decide) (fun c_25 => ?_) (fun c_25 => ?_)
    · refine X_iconst C dX9_pageOn_44 ?_
      refine Xp_X9_thrown C fw_X9_78 dX9_pageOn_45 ?_
      refine X_aload_n C rfl dX9_pageOn_48 ?_
      refine Xg_X9_thrown C up_s fl_X9_78 dX9_pageOn_49 ?_
      refine X_if_ne C (tgt := 65) dX9_pageOn_52 (by decide) ⟨by omega, by omega⟩ (fun c_52 => ?_) (fun c_52 => ?_)
      rotate_left
      · exfalso; omega
      refine X_iconst C dX9_pageOn_65 ?_
      exact X_ireturn C M rfl (by decide) (by decide) dX9_pageOn_66 ⟨(by first | exact rI (Eq.trans (by rfl) (mA_0 (k := kPag σ z s q 4) (by first | omega | (unfold kPag; (repeat' split) <;> omega))).symm) | exact rI (mA_n (k := kPag σ z s q 4) (by first | omega | (unfold kPag; (repeat' split) <;> omega))).symm), rfl, (by first | rfl | exact congrArg (fun v9 => jG Y τ (up σ 40 0 0 v9) ρ ad) (show (0 : Int) = kPag σ z s q 4 from (by first | omega | (unfold kPag; (repeat' split) <;> omega))) | exact jG_up (show (0 : Int) = kPag σ z s q 4 from (by first | omega | (unfold kPag; (repeat' split) <;> omega))) | exact congrArg (fun v9 => jG Y τ (up σ 40 0 0 v9) ρ ad) (show (1 : Int) = kPag σ z s q 4 from (by first | omega | (unfold kPag; (repeat' split) <;> omega))) | exact jG_up (show (1 : Int) = kPag σ z s q 4 from (by first | omega | (unfold kPag; (repeat' split) <;> omega))) | exact congrArg (fun v9 => jG Y τ (up σ 40 0 0 v9) ρ ad) (show (2 : Int) = kPag σ z s q 4 from (by first | omega | (unfold kPag; (repeat' split) <;> omega))) | exact jG_up (show (2 : Int) = kPag σ z s q 4 from (by first | omega | (unfold kPag; (repeat' split) <;> omega))) | exact congrArg (fun v9 => jG Y τ (up σ 40 0 0 v9) ρ ad) (show (3 : Int) = kPag σ z s q 4 from (by first | omega | (unfold kPag; (repeat' split) <;> omega))) | exact jG_up (show (3 : Int) = kPag σ z s q 4 from (by first | omega | (unfold kPag; (repeat' split) <;> omega))) | exact congrArg (fun v9 => jG Y τ (up σ 40 0 0 v9) ρ ad) (show (4 : Int) = kPag σ z s q 4 from (by first | omega | (unfold kPag; (repeat' split) <;> omega))) | exact jG_up (show (4 : Int) = kPag σ z s q 4 from (by first | omega | (unfold kPag; (repeat' split) <;> omega))) | exact congrArg (fun v9 => jG Y τ (up σ 40 0 0 v9) ρ ad) (show (5 : Int) = kPag σ z s q 4 from (by first | omega | (unfold kPag; (repeat' split) <;> omega))) | exact jG_up (show (5 : Int) = kPag σ z s q 4 from (by first | omega | (unfold kPag; (repeat' split) <;> omega))) | exact congrArg (fun v9 => jG Y τ (up σ 40 0 0 v9) ρ ad) (show kPrf σ z = kPag σ z s q 4 from (by first | omega | (unfold kPag; (repeat' split) <;> omega))))⟩
    · refine X_iload_n C rfl dX9_pageOn_28 ?_
      refine X_i2l C ⟨by omega, by omega⟩ dX9_pageOn_29 ?_
      refine X_lconst C (v := 0) rfl dX9_pageOn_30 ?_
      refine X_ldc2 C (n := 3) (v := 3) (by decide +kernel) k_X9_138 dX9_pageOn_31 ?_
      refine X_callSE_3 C (c_X9_in C.hlc (by omega) (by omega) (by omega)) cs_X9_84 rfl rfl dX9_pageOn_34 ?_
      refine X_if_eqB C (tgt := 44) dX9_pageOn_37 (by decide) (fun c_37 => ?_) (fun c_37 => ?_)
      · refine X_iconst C dX9_pageOn_44 ?_
        refine Xp_X9_thrown C fw_X9_78 dX9_pageOn_45 ?_
        refine X_aload_n C rfl dX9_pageOn_48 ?_
        refine Xg_X9_thrown C up_s fl_X9_78 dX9_pageOn_49 ?_
        refine X_if_ne C (tgt := 65) dX9_pageOn_52 (by decide) ⟨by omega, by omega⟩ (fun c_52 => ?_) (fun c_52 => ?_)
        rotate_left
        · exfalso; omega
        refine X_iconst C dX9_pageOn_65 ?_
        exact X_ireturn C M rfl (by decide) (by decide) dX9_pageOn_66 ⟨(by first | exact rI (Eq.trans (by rfl) (mA_0 (k := kPag σ z s q 4) (by first | omega | (unfold kPag; (repeat' split) <;> omega))).symm) | exact rI (mA_n (k := kPag σ z s q 4) (by first | omega | (unfold kPag; (repeat' split) <;> omega))).symm), rfl, (by first | rfl | exact congrArg (fun v9 => jG Y τ (up σ 40 0 0 v9) ρ ad) (show (0 : Int) = kPag σ z s q 4 from (by first | omega | (unfold kPag; (repeat' split) <;> omega))) | exact jG_up (show (0 : Int) = kPag σ z s q 4 from (by first | omega | (unfold kPag; (repeat' split) <;> omega))) | exact congrArg (fun v9 => jG Y τ (up σ 40 0 0 v9) ρ ad) (show (1 : Int) = kPag σ z s q 4 from (by first | omega | (unfold kPag; (repeat' split) <;> omega))) | exact jG_up (show (1 : Int) = kPag σ z s q 4 from (by first | omega | (unfold kPag; (repeat' split) <;> omega))) | exact congrArg (fun v9 => jG Y τ (up σ 40 0 0 v9) ρ ad) (show (2 : Int) = kPag σ z s q 4 from (by first | omega | (unfold kPag; (repeat' split) <;> omega))) | exact jG_up (show (2 : Int) = kPag σ z s q 4 from (by first | omega | (unfold kPag; (repeat' split) <;> omega))) | exact congrArg (fun v9 => jG Y τ (up σ 40 0 0 v9) ρ ad) (show (3 : Int) = kPag σ z s q 4 from (by first | omega | (unfold kPag; (repeat' split) <;> omega))) | exact jG_up (show (3 : Int) = kPag σ z s q 4 from (by first | omega | (unfold kPag; (repeat' split) <;> omega))) | exact congrArg (fun v9 => jG Y τ (up σ 40 0 0 v9) ρ ad) (show (4 : Int) = kPag σ z s q 4 from (by first | omega | (unfold kPag; (repeat' split) <;> omega))) | exact jG_up (show (4 : Int) = kPag σ z s q 4 from (by first | omega | (unfold kPag; (repeat' split) <;> omega))) | exact congrArg (fun v9 => jG Y τ (up σ 40 0 0 v9) ρ ad) (show (5 : Int) = kPag σ z s q 4 from (by first | omega | (unfold kPag; (repeat' split) <;> omega))) | exact jG_up (show (5 : Int) = kPag σ z s q 4 from (by first | omega | (unfold kPag; (repeat' split) <;> omega))) | exact congrArg (fun v9 => jG Y τ (up σ 40 0 0 v9) ρ ad) (show kPrf σ z = kPag σ z s q 4 from (by first | omega | (unfold kPag; (repeat' split) <;> omega))))⟩
      · refine X_iconst C dX9_pageOn_40 ?_
        refine X_goto C (tgt := 45) dX9_pageOn_41 (by decide) ?_
        refine Xp_X9_thrown C fw_X9_78 dX9_pageOn_45 ?_
        refine X_aload_n C rfl dX9_pageOn_48 ?_
        refine Xg_X9_thrown C up_s fl_X9_78 dX9_pageOn_49 ?_
        refine X_if_ne C (tgt := 65) dX9_pageOn_52 (by decide) ⟨by omega, by omega⟩ (fun c_52 => ?_) (fun c_52 => ?_)
        · exfalso; omega
        refine X_aload_n C rfl dX9_pageOn_55 ?_
        refine X_iload_n C rfl dX9_pageOn_56 ?_
        refine X_iload_n C rfl dX9_pageOn_57 ?_
        refine X_iload_n C rfl dX9_pageOn_58 ?_
        refine X_callVE_3 C (c_X9_pageAt C.hlc (pr_thr (pr_thr I)) (by omega) (show 0 ≤ s ∧ s < 3 from by omega) (by omega)) cv_X9_140 jG_20 ⟨_, _, rfl⟩ rfl rfl dX9_pageOn_59 ?_
        refine X_goto C (tgt := 66) dX9_pageOn_62 (by decide) ?_
        exact X_ireturn C M rfl (by decide) (by decide) dX9_pageOn_66 ⟨(by first | exact rI (Eq.trans (by rfl) (mA_0 (k := kPag σ z s q 4) (by first | omega | (unfold kPag; (repeat' split) <;> omega))).symm) | exact rI (mA_n (k := kPag σ z s q 4) (by first | omega | (unfold kPag; (repeat' split) <;> omega))).symm), rfl, (by first | rfl | exact congrArg (fun v9 => jG Y τ (up σ 40 0 0 v9) ρ ad) (show (0 : Int) = kPag σ z s q 4 from (by first | omega | (unfold kPag; (repeat' split) <;> omega))) | exact jG_up (show (0 : Int) = kPag σ z s q 4 from (by first | omega | (unfold kPag; (repeat' split) <;> omega))) | exact congrArg (fun v9 => jG Y τ (up σ 40 0 0 v9) ρ ad) (show (1 : Int) = kPag σ z s q 4 from (by first | omega | (unfold kPag; (repeat' split) <;> omega))) | exact jG_up (show (1 : Int) = kPag σ z s q 4 from (by first | omega | (unfold kPag; (repeat' split) <;> omega))) | exact congrArg (fun v9 => jG Y τ (up σ 40 0 0 v9) ρ ad) (show (2 : Int) = kPag σ z s q 4 from (by first | omega | (unfold kPag; (repeat' split) <;> omega))) | exact jG_up (show (2 : Int) = kPag σ z s q 4 from (by first | omega | (unfold kPag; (repeat' split) <;> omega))) | exact congrArg (fun v9 => jG Y τ (up σ 40 0 0 v9) ρ ad) (show (3 : Int) = kPag σ z s q 4 from (by first | omega | (unfold kPag; (repeat' split) <;> omega))) | exact jG_up (show (3 : Int) = kPag σ z s q 4 from (by first | omega | (unfold kPag; (repeat' split) <;> omega))) | exact congrArg (fun v9 => jG Y τ (up σ 40 0 0 v9) ρ ad) (show (4 : Int) = kPag σ z s q 4 from (by first | omega | (unfold kPag; (repeat' split) <;> omega))) | exact jG_up (show (4 : Int) = kPag σ z s q 4 from (by first | omega | (unfold kPag; (repeat' split) <;> omega))) | exact congrArg (fun v9 => jG Y τ (up σ 40 0 0 v9) ρ ad) (show (5 : Int) = kPag σ z s q 4 from (by first | omega | (unfold kPag; (repeat' split) <;> omega))) | exact jG_up (show (5 : Int) = kPag σ z s q 4 from (by first | omega | (unfold kPag; (repeat' split) <;> omega))) | exact congrArg (fun v9 => jG Y τ (up σ 40 0 0 v9) ρ ad) (show kPrf σ z = kPag σ z s q 4 from (by first | omega | (unfold kPag; (repeat' split) <;> omega))))⟩
  · refine X_iconst C dX9_pageOn_8 ?_
    exact X_ireturn C M rfl (by decide) (by decide) dX9_pageOn_9 ⟨(by first | exact rI (Eq.trans (by rfl) (mA_0 (k := kPag σ z s q 4) (by first | omega | (unfold kPag; (repeat' split) <;> omega))).symm) | exact rI (mA_n (k := kPag σ z s q 4) (by first | omega | (unfold kPag; (repeat' split) <;> omega))).symm), rfl, (by first | rfl | exact congrArg (fun v9 => jG Y τ (up σ 40 0 0 v9) ρ ad) (show (0 : Int) = kPag σ z s q 4 from (by first | omega | (unfold kPag; (repeat' split) <;> omega))) | exact jG_up (show (0 : Int) = kPag σ z s q 4 from (by first | omega | (unfold kPag; (repeat' split) <;> omega))) | exact congrArg (fun v9 => jG Y τ (up σ 40 0 0 v9) ρ ad) (show (1 : Int) = kPag σ z s q 4 from (by first | omega | (unfold kPag; (repeat' split) <;> omega))) | exact jG_up (show (1 : Int) = kPag σ z s q 4 from (by first | omega | (unfold kPag; (repeat' split) <;> omega))) | exact congrArg (fun v9 => jG Y τ (up σ 40 0 0 v9) ρ ad) (show (2 : Int) = kPag σ z s q 4 from (by first | omega | (unfold kPag; (repeat' split) <;> omega))) | exact jG_up (show (2 : Int) = kPag σ z s q 4 from (by first | omega | (unfold kPag; (repeat' split) <;> omega))) | exact congrArg (fun v9 => jG Y τ (up σ 40 0 0 v9) ρ ad) (show (3 : Int) = kPag σ z s q 4 from (by first | omega | (unfold kPag; (repeat' split) <;> omega))) | exact jG_up (show (3 : Int) = kPag σ z s q 4 from (by first | omega | (unfold kPag; (repeat' split) <;> omega))) | exact congrArg (fun v9 => jG Y τ (up σ 40 0 0 v9) ρ ad) (show (4 : Int) = kPag σ z s q 4 from (by first | omega | (unfold kPag; (repeat' split) <;> omega))) | exact jG_up (show (4 : Int) = kPag σ z s q 4 from (by first | omega | (unfold kPag; (repeat' split) <;> omega))) | exact congrArg (fun v9 => jG Y τ (up σ 40 0 0 v9) ρ ad) (show (5 : Int) = kPag σ z s q 4 from (by first | omega | (unfold kPag; (repeat' split) <;> omega))) | exact jG_up (show (5 : Int) = kPag σ z s q 4 from (by first | omega | (unfold kPag; (repeat' split) <;> omega))) | exact congrArg (fun v9 => jG Y τ (up σ 40 0 0 v9) ρ ad) (show kPrf σ z = kPag σ z s q 4 from (by first | omega | (unfold kPag; (repeat' split) <;> omega))))⟩
set_option maxRecDepth 100000 in
set_option maxHeartbeats 4000000 in
theorem c_X9_shown {lc : Launch} (hlc : lc.stackTraces = false) {D : va_G} {Y : Nat → ClassId} {A : Nat → Prop} {τ σ : xS} {ρ : xG} {ad : xL} {n z s q : Int} (I : xI n σ) (hz0 : rg z) (hz1 : rg s) (hz2 : rg q) : Ct lc yX9_shown cX9_shown 4 (some .int) (rmL 3 0 0) D Y A ad (jG Y τ σ ρ ad) [.ref (ad 20 0), .int (iI z), .int (iI s), .int (iI q)] (pE (some (.int (iI (mA (kPag σ z s q 32) (cOn σ z s q) (-1))))) ad (jG Y τ (up σ 40 0 0 (kPag σ z s q 32)) ρ ad)) (pF) := by
  refine Ct_of hlc (by decide +kernel) rfl rfl (own := RX9) (nm := "shown") (l0 := [some (.ref (ad 20 0)), some (.int (iI z)), some (.int (iI s)), some (.int (iI q))]) rfl (Nat.le_of_ble_eq_true rfl) (fun κ C M => ?_)
  have Ind := I.nd
  have Inc := I.nc
  have Ino := I.no
  have In := I.n0
  have kf := kPrf_f σ z
  have k5 := I.sb z
  refine X_aload_n C rfl dX9_shown_0 ?_
  refine X_iload_n C rfl dX9_shown_1 ?_
  refine X_callVE_1 C (c_X9_asksProof C.hlc (by assumption) (by omega)) cv_X9_135 jG_20 ⟨_, _, rfl⟩ rfl rfl dX9_shown_2 ?_
  refine X_if_neB C (tgt := 10) dX9_shown_5 (by decide) (fun c_5 => ?_) (fun c_5 => ?_)
  · refine X_aload_n C rfl dX9_shown_10 ?_
    refine X_iload_n C rfl dX9_shown_11 ?_
    refine X_i2l C ⟨by omega, by omega⟩ dX9_shown_12 ?_
    refine X_lconst C (v := 0) rfl dX9_shown_13 ?_
    refine X_aload_n C rfl dX9_shown_14 ?_
    refine X_iload_n C rfl dX9_shown_15 ?_
    refine X_callVE_1 C (c_X9_sheetsOf C.hlc (pr_thr I) (by omega)) cv_X9_132 jG_20 ⟨_, _, rfl⟩ rfl rfl dX9_shown_16 ?_
    rw [show shT (up σ 40 0 0 (kPrf σ z)) z = shT σ z from rfl]
    refine X_iconst C dX9_shown_19 ?_
    refine X_isub C dX9_shown_20 ?_
    refine X_i2l C ⟨by omega, by omega⟩ dX9_shown_21 ?_
    refine X_callSE_3 C (c_X9_in C.hlc (by omega) (by omega) (by omega)) cs_X9_84 rfl rfl dX9_shown_22 ?_
    refine X_if_eqB C (tgt := 44) dX9_shown_25 (by decide) (fun c_25 => ?_) (fun c_25 => ?_)
    · refine X_iconst C dX9_shown_44 ?_
      refine Xp_X9_thrown C fw_X9_78 dX9_shown_45 ?_
      refine X_aload_n C rfl dX9_shown_48 ?_
      refine Xg_X9_thrown C up_s fl_X9_78 dX9_shown_49 ?_
      refine X_if_ne C (tgt := 65) dX9_shown_52 (by decide) ⟨by omega, by omega⟩ (fun c_52 => ?_) (fun c_52 => ?_)
      rotate_left
      · exfalso; omega
      refine X_iconst C dX9_shown_65 ?_
      exact X_ireturn C M rfl (by decide) (by decide) dX9_shown_66 ⟨(by first | exact rI (Eq.trans (by rfl) (mA_0 (k := kPag σ z s q 32) (by first | omega | (unfold kPag; (repeat' split) <;> omega))).symm) | exact rI (mA_n (k := kPag σ z s q 32) (by first | omega | (unfold kPag; (repeat' split) <;> omega))).symm), rfl, (by first | rfl | exact congrArg (fun v9 => jG Y τ (up σ 40 0 0 v9) ρ ad) (show (0 : Int) = kPag σ z s q 32 from (by first | omega | (unfold kPag; (repeat' split) <;> omega))) | exact jG_up (show (0 : Int) = kPag σ z s q 32 from (by first | omega | (unfold kPag; (repeat' split) <;> omega))) | exact congrArg (fun v9 => jG Y τ (up σ 40 0 0 v9) ρ ad) (show (1 : Int) = kPag σ z s q 32 from (by first | omega | (unfold kPag; (repeat' split) <;> omega))) | exact jG_up (show (1 : Int) = kPag σ z s q 32 from (by first | omega | (unfold kPag; (repeat' split) <;> omega))) | exact congrArg (fun v9 => jG Y τ (up σ 40 0 0 v9) ρ ad) (show (2 : Int) = kPag σ z s q 32 from (by first | omega | (unfold kPag; (repeat' split) <;> omega))) | exact jG_up (show (2 : Int) = kPag σ z s q 32 from (by first | omega | (unfold kPag; (repeat' split) <;> omega))) | exact congrArg (fun v9 => jG Y τ (up σ 40 0 0 v9) ρ ad) (show (3 : Int) = kPag σ z s q 32 from (by first | omega | (unfold kPag; (repeat' split) <;> omega))) | exact jG_up (show (3 : Int) = kPag σ z s q 32 from (by first | omega | (unfold kPag; (repeat' split) <;> omega))) | exact congrArg (fun v9 => jG Y τ (up σ 40 0 0 v9) ρ ad) (show (4 : Int) = kPag σ z s q 32 from (by first | omega | (unfold kPag; (repeat' split) <;> omega))) | exact jG_up (show (4 : Int) = kPag σ z s q 32 from (by first | omega | (unfold kPag; (repeat' split) <;> omega))) | exact congrArg (fun v9 => jG Y τ (up σ 40 0 0 v9) ρ ad) (show (5 : Int) = kPag σ z s q 32 from (by first | omega | (unfold kPag; (repeat' split) <;> omega))) | exact jG_up (show (5 : Int) = kPag σ z s q 32 from (by first | omega | (unfold kPag; (repeat' split) <;> omega))) | exact congrArg (fun v9 => jG Y τ (up σ 40 0 0 v9) ρ ad) (show kPrf σ z = kPag σ z s q 32 from (by first | omega | (unfold kPag; (repeat' split) <;> omega))))⟩
    · refine X_iload_n C rfl dX9_shown_28 ?_
      refine X_i2l C ⟨by omega, by omega⟩ dX9_shown_29 ?_
      refine X_lconst C (v := 0) rfl dX9_shown_30 ?_
      refine X_ldc2 C (n := 31) (v := 31) (by decide +kernel) k_X9_144 dX9_shown_31 ?_
      refine X_callSE_3 C (c_X9_in C.hlc (by omega) (by omega) (by omega)) cs_X9_84 rfl rfl dX9_shown_34 ?_
      refine X_if_eqB C (tgt := 44) dX9_shown_37 (by decide) (fun c_37 => ?_) (fun c_37 => ?_)
      · refine X_iconst C dX9_shown_44 ?_
        refine Xp_X9_thrown C fw_X9_78 dX9_shown_45 ?_
        refine X_aload_n C rfl dX9_shown_48 ?_
        refine Xg_X9_thrown C up_s fl_X9_78 dX9_shown_49 ?_
        refine X_if_ne C (tgt := 65) dX9_shown_52 (by decide) ⟨by omega, by omega⟩ (fun c_52 => ?_) (fun c_52 => ?_)
        rotate_left
        · exfalso; omega
        refine X_iconst C dX9_shown_65 ?_
        exact X_ireturn C M rfl (by decide) (by decide) dX9_shown_66 ⟨(by first | exact rI (Eq.trans (by rfl) (mA_0 (k := kPag σ z s q 32) (by first | omega | (unfold kPag; (repeat' split) <;> omega))).symm) | exact rI (mA_n (k := kPag σ z s q 32) (by first | omega | (unfold kPag; (repeat' split) <;> omega))).symm), rfl, (by first | rfl | exact congrArg (fun v9 => jG Y τ (up σ 40 0 0 v9) ρ ad) (show (0 : Int) = kPag σ z s q 32 from (by first | omega | (unfold kPag; (repeat' split) <;> omega))) | exact jG_up (show (0 : Int) = kPag σ z s q 32 from (by first | omega | (unfold kPag; (repeat' split) <;> omega))) | exact congrArg (fun v9 => jG Y τ (up σ 40 0 0 v9) ρ ad) (show (1 : Int) = kPag σ z s q 32 from (by first | omega | (unfold kPag; (repeat' split) <;> omega))) | exact jG_up (show (1 : Int) = kPag σ z s q 32 from (by first | omega | (unfold kPag; (repeat' split) <;> omega))) | exact congrArg (fun v9 => jG Y τ (up σ 40 0 0 v9) ρ ad) (show (2 : Int) = kPag σ z s q 32 from (by first | omega | (unfold kPag; (repeat' split) <;> omega))) | exact jG_up (show (2 : Int) = kPag σ z s q 32 from (by first | omega | (unfold kPag; (repeat' split) <;> omega))) | exact congrArg (fun v9 => jG Y τ (up σ 40 0 0 v9) ρ ad) (show (3 : Int) = kPag σ z s q 32 from (by first | omega | (unfold kPag; (repeat' split) <;> omega))) | exact jG_up (show (3 : Int) = kPag σ z s q 32 from (by first | omega | (unfold kPag; (repeat' split) <;> omega))) | exact congrArg (fun v9 => jG Y τ (up σ 40 0 0 v9) ρ ad) (show (4 : Int) = kPag σ z s q 32 from (by first | omega | (unfold kPag; (repeat' split) <;> omega))) | exact jG_up (show (4 : Int) = kPag σ z s q 32 from (by first | omega | (unfold kPag; (repeat' split) <;> omega))) | exact congrArg (fun v9 => jG Y τ (up σ 40 0 0 v9) ρ ad) (show (5 : Int) = kPag σ z s q 32 from (by first | omega | (unfold kPag; (repeat' split) <;> omega))) | exact jG_up (show (5 : Int) = kPag σ z s q 32 from (by first | omega | (unfold kPag; (repeat' split) <;> omega))) | exact congrArg (fun v9 => jG Y τ (up σ 40 0 0 v9) ρ ad) (show kPrf σ z = kPag σ z s q 32 from (by first | omega | (unfold kPag; (repeat' split) <;> omega))))⟩
      · refine X_iconst C dX9_shown_40 ?_
        refine X_goto C (tgt := 45) dX9_shown_41 (by decide) ?_
        refine Xp_X9_thrown C fw_X9_78 dX9_shown_45 ?_
        refine X_aload_n C rfl dX9_shown_48 ?_
        refine Xg_X9_thrown C up_s fl_X9_78 dX9_shown_49 ?_
        refine X_if_ne C (tgt := 65) dX9_shown_52 (by decide) ⟨by omega, by omega⟩ (fun c_52 => ?_) (fun c_52 => ?_)
        · exfalso; omega
        refine X_aload_n C rfl dX9_shown_55 ?_
        refine X_iload_n C rfl dX9_shown_56 ?_
        refine X_iload_n C rfl dX9_shown_57 ?_
        refine X_iload_n C rfl dX9_shown_58 ?_
        refine X_callVE_3 C (c_X9_codeOn C.hlc (pr_thr (pr_thr I)) (by omega) (show 0 ≤ s ∧ s < shT σ z from by omega) (by omega)) cv_X9_146 jG_20 ⟨_, _, rfl⟩ rfl rfl dX9_shown_59 ?_
        refine X_goto C (tgt := 66) dX9_shown_62 (by decide) ?_
        exact X_ireturn C M rfl (by decide) (by decide) dX9_shown_66 ⟨(by first | exact rI (Eq.trans (by rfl) (mA_0 (k := kPag σ z s q 32) (by first | omega | (unfold kPag; (repeat' split) <;> omega))).symm) | exact rI (mA_n (k := kPag σ z s q 32) (by first | omega | (unfold kPag; (repeat' split) <;> omega))).symm), rfl, (by first | rfl | exact congrArg (fun v9 => jG Y τ (up σ 40 0 0 v9) ρ ad) (show (0 : Int) = kPag σ z s q 32 from (by first | omega | (unfold kPag; (repeat' split) <;> omega))) | exact jG_up (show (0 : Int) = kPag σ z s q 32 from (by first | omega | (unfold kPag; (repeat' split) <;> omega))) | exact congrArg (fun v9 => jG Y τ (up σ 40 0 0 v9) ρ ad) (show (1 : Int) = kPag σ z s q 32 from (by first | omega | (unfold kPag; (repeat' split) <;> omega))) | exact jG_up (show (1 : Int) = kPag σ z s q 32 from (by first | omega | (unfold kPag; (repeat' split) <;> omega))) | exact congrArg (fun v9 => jG Y τ (up σ 40 0 0 v9) ρ ad) (show (2 : Int) = kPag σ z s q 32 from (by first | omega | (unfold kPag; (repeat' split) <;> omega))) | exact jG_up (show (2 : Int) = kPag σ z s q 32 from (by first | omega | (unfold kPag; (repeat' split) <;> omega))) | exact congrArg (fun v9 => jG Y τ (up σ 40 0 0 v9) ρ ad) (show (3 : Int) = kPag σ z s q 32 from (by first | omega | (unfold kPag; (repeat' split) <;> omega))) | exact jG_up (show (3 : Int) = kPag σ z s q 32 from (by first | omega | (unfold kPag; (repeat' split) <;> omega))) | exact congrArg (fun v9 => jG Y τ (up σ 40 0 0 v9) ρ ad) (show (4 : Int) = kPag σ z s q 32 from (by first | omega | (unfold kPag; (repeat' split) <;> omega))) | exact jG_up (show (4 : Int) = kPag σ z s q 32 from (by first | omega | (unfold kPag; (repeat' split) <;> omega))) | exact congrArg (fun v9 => jG Y τ (up σ 40 0 0 v9) ρ ad) (show (5 : Int) = kPag σ z s q 32 from (by first | omega | (unfold kPag; (repeat' split) <;> omega))) | exact jG_up (show (5 : Int) = kPag σ z s q 32 from (by first | omega | (unfold kPag; (repeat' split) <;> omega))) | exact congrArg (fun v9 => jG Y τ (up σ 40 0 0 v9) ρ ad) (show kPrf σ z = kPag σ z s q 32 from (by first | omega | (unfold kPag; (repeat' split) <;> omega))))⟩
  · refine X_iconst C dX9_shown_8 ?_
    exact X_ireturn C M rfl (by decide) (by decide) dX9_shown_9 ⟨(by first | exact rI (Eq.trans (by rfl) (mA_0 (k := kPag σ z s q 32) (by first | omega | (unfold kPag; (repeat' split) <;> omega))).symm) | exact rI (mA_n (k := kPag σ z s q 32) (by first | omega | (unfold kPag; (repeat' split) <;> omega))).symm), rfl, (by first | rfl | exact congrArg (fun v9 => jG Y τ (up σ 40 0 0 v9) ρ ad) (show (0 : Int) = kPag σ z s q 32 from (by first | omega | (unfold kPag; (repeat' split) <;> omega))) | exact jG_up (show (0 : Int) = kPag σ z s q 32 from (by first | omega | (unfold kPag; (repeat' split) <;> omega))) | exact congrArg (fun v9 => jG Y τ (up σ 40 0 0 v9) ρ ad) (show (1 : Int) = kPag σ z s q 32 from (by first | omega | (unfold kPag; (repeat' split) <;> omega))) | exact jG_up (show (1 : Int) = kPag σ z s q 32 from (by first | omega | (unfold kPag; (repeat' split) <;> omega))) | exact congrArg (fun v9 => jG Y τ (up σ 40 0 0 v9) ρ ad) (show (2 : Int) = kPag σ z s q 32 from (by first | omega | (unfold kPag; (repeat' split) <;> omega))) | exact jG_up (show (2 : Int) = kPag σ z s q 32 from (by first | omega | (unfold kPag; (repeat' split) <;> omega))) | exact congrArg (fun v9 => jG Y τ (up σ 40 0 0 v9) ρ ad) (show (3 : Int) = kPag σ z s q 32 from (by first | omega | (unfold kPag; (repeat' split) <;> omega))) | exact jG_up (show (3 : Int) = kPag σ z s q 32 from (by first | omega | (unfold kPag; (repeat' split) <;> omega))) | exact congrArg (fun v9 => jG Y τ (up σ 40 0 0 v9) ρ ad) (show (4 : Int) = kPag σ z s q 32 from (by first | omega | (unfold kPag; (repeat' split) <;> omega))) | exact jG_up (show (4 : Int) = kPag σ z s q 32 from (by first | omega | (unfold kPag; (repeat' split) <;> omega))) | exact congrArg (fun v9 => jG Y τ (up σ 40 0 0 v9) ρ ad) (show (5 : Int) = kPag σ z s q 32 from (by first | omega | (unfold kPag; (repeat' split) <;> omega))) | exact jG_up (show (5 : Int) = kPag σ z s q 32 from (by first | omega | (unfold kPag; (repeat' split) <;> omega))) | exact congrArg (fun v9 => jG Y τ (up σ 40 0 0 v9) ρ ad) (show kPrf σ z = kPag σ z s q 32 from (by first | omega | (unfold kPag; (repeat' split) <;> omega))))⟩
set_option maxRecDepth 100000 in
set_option maxHeartbeats 4000000 in
theorem c_X9_shownByLog {lc : Launch} (hlc : lc.stackTraces = false) {D : va_G} {Y : Nat → ClassId} {A : Nat → Prop} {τ σ : xS} {ρ : xG} {ad : xL} {n z s q : Int} (I : xI n σ) (hz0 : rg z) (hz1 : rg s) (hz2 : rg q) : Ct lc yX9_shownByLog cX9_shownByLog 4 (some .int) (rmL 4 0 0) D Y A ad (jG Y τ σ ρ ad) [.ref (ad 20 0), .int (iI z), .int (iI s), .int (iI q)] (pE (some (.int (iI (mA (kPag σ z s q 32) (cOn σ z s q) (-1))))) ad (jG Y τ (up σ 40 0 0 (kPag σ z s q 32)) ρ ad)) (pF) := by
  refine Ct_of hlc (by decide +kernel) rfl rfl (own := RX9) (nm := "shownByLog") (l0 := [some (.ref (ad 20 0)), some (.int (iI z)), some (.int (iI s)), some (.int (iI q))]) rfl (Nat.le_of_ble_eq_true rfl) (fun κ C M => ?_)
  have Ind := I.nd
  have Inc := I.nc
  have Ino := I.no
  have In := I.n0
  refine X_aload_n C rfl dX9_shownByLog_0 ?_
  refine X_iload_n C rfl dX9_shownByLog_1 ?_
  refine X_iload_n C rfl dX9_shownByLog_2 ?_
  refine X_iload_n C rfl dX9_shownByLog_3 ?_
  refine X_callVE_3 C (c_X9_shown C.hlc (by assumption) (by omega) (by omega) (by omega)) cv_X9_149 jG_20 ⟨_, _, rfl⟩ rfl rfl dX9_shownByLog_4 ?_
  exact X_ireturn C M rfl (by decide) (by decide) dX9_shownByLog_7 ⟨rfl, rfl, rfl⟩
