set_option maxRecDepth 100000 in
set_option maxHeartbeats 4000000 in
theorem c_X3_add {lc : Launch} (hlc : lc.stackTraces = false) {D : va_G} {Y : Nat → ClassId} {A : Nat → Prop} {τ σ : xS} {ρ : xG} {ad : xL} {k d p c : Int} (hl : 0 ≤ τ 41 0 0 ∧ τ 41 0 0 < 512) : Ct lc yX3_add cX3_add 5 none (rmL 0 0 0) D Y A ad (jG Y τ σ ρ ad) [.ref (ad 4 0), .int (iI k), .int (iI d), .int (iI p), .int (iI c)] (pE none ad (jG Y (lgA τ k d p c) σ ρ ad)) (pF) := by
  refine Ct_of hlc (by decide +kernel) rfl rfl (own := RX3) (nm := "add") (l0 := [some (.ref (ad 4 0)), some (.int (iI k)), some (.int (iI d)), some (.int (iI p)), some (.int (iI c))]) rfl (Nat.le_of_ble_eq_true rfl) (fun κ C M => ?_)
  refine X_aload_n C rfl dX3_add_0 ?_
  refine Xg_X3_size C rfl fl_X3_28 dX3_add_1 ?_
  refine X_sipush C ⟨by decide, by decide⟩ dX3_add_4 ?_
  refine X_icmp_lt C (tgt := 11) dX3_add_7 (by decide) ⟨by omega, by omega⟩ ⟨by omega, by omega⟩ (fun c_7 => ?_) (fun c_7 => ?_)
  rotate_left
  · exfalso; omega
  refine X_aload_n C rfl dX3_add_11 ?_
  refine Xg_X3_kinds C fl_X3_9 dX3_add_12 ?_
  refine X_aload_n C rfl dX3_add_15 ?_
  refine Xg_X3_size C rfl fl_X3_28 dX3_add_16 ?_
  refine X_iload_n C rfl dX3_add_19 ?_
  refine Xa_lkinds_st C (by omega) (by omega) dX3_add_20 ?_
  refine X_aload_n C rfl dX3_add_21 ?_
  refine Xg_X3_documents C fl_X3_15 dX3_add_22 ?_
  refine X_aload_n C rfl dX3_add_25 ?_
  refine Xg_X3_size C (v := τ 41 0 0) (by simp (discharger := decide) only [up_r]) fl_X3_28 dX3_add_26 ?_
  refine X_iload_n C rfl dX3_add_29 ?_
  refine Xa_ldocs_st C (by omega) (by omega) dX3_add_30 ?_
  refine X_aload_n C rfl dX3_add_31 ?_
  refine Xg_X3_places C fl_X3_18 dX3_add_32 ?_
  refine X_aload_n C rfl dX3_add_35 ?_
  refine Xg_X3_size C (v := τ 41 0 0) (by simp (discharger := decide) only [up_r]) fl_X3_28 dX3_add_36 ?_
  refine X_iload_n C rfl dX3_add_39 ?_
  refine Xa_lplaces_st C (by omega) (by omega) dX3_add_40 ?_
  refine X_aload_n C rfl dX3_add_41 ?_
  refine Xg_X3_codes C fl_X3_21 dX3_add_42 ?_
  refine X_aload_n C rfl dX3_add_45 ?_
  refine Xg_X3_size C (v := τ 41 0 0) (by simp (discharger := decide) only [up_r]) fl_X3_28 dX3_add_46 ?_
  refine X_iload C rfl dX3_add_49 ?_
  refine Xa_lcodes_st C (by omega) (by omega) dX3_add_51 ?_
  refine X_aload_n C rfl dX3_add_52 ?_
  refine X_dup C rfl dX3_add_53 ?_
  refine Xg_X3_size C (v := τ 41 0 0) (by simp (discharger := decide) only [up_r]) fl_X3_28 dX3_add_54 ?_
  refine X_iconst C dX3_add_57 ?_
  refine X_iadd C dX3_add_58 ?_
  refine Xp_X3_size C fw_X3_28 dX3_add_59 ?_
  exact X_return C M (by decide) (by decide) dX3_add_62 ⟨rfl, rfl, rfl⟩
set_option maxRecDepth 100000 in
set_option maxHeartbeats 4000000 in
theorem c_X3_addInsertion {lc : Launch} (hlc : lc.stackTraces = false) {D : va_G} {Y : Nat → ClassId} {A : Nat → Prop} {τ σ : xS} {ρ : xG} {ad : xL} {d p c : Int} (hl : 0 ≤ τ 41 0 0 ∧ τ 41 0 0 < 512) : Ct lc yX3_addInsertion cX3_addInsertion 4 none (rmL 1 0 0) D Y A ad (jG Y τ σ ρ ad) [.ref (ad 4 0), .int (iI d), .int (iI p), .int (iI c)] (pE none ad (jG Y (lgA τ 0 d p c) σ ρ ad)) (pF) := by
  refine Ct_of hlc (by decide +kernel) rfl rfl (own := RX3) (nm := "addInsertion") (l0 := [some (.ref (ad 4 0)), some (.int (iI d)), some (.int (iI p)), some (.int (iI c))]) rfl (Nat.le_of_ble_eq_true rfl) (fun κ C M => ?_)
  refine X_aload_n C rfl dX3_addInsertion_0 ?_
  refine X_iconst C dX3_addInsertion_1 ?_
  refine X_iload_n C rfl dX3_addInsertion_2 ?_
  refine X_iload_n C rfl dX3_addInsertion_3 ?_
  refine X_iload_n C rfl dX3_addInsertion_4 ?_
  refine X_callVE0_4 C (c_X3_add C.hlc (by omega)) cv_X3_24 (jG_4 rfl) ⟨_, _, rfl⟩ rfl rfl dX3_addInsertion_5 ?_
  exact X_return C M (by decide) (by decide) dX3_addInsertion_8 ⟨rfl, rfl, rfl⟩
set_option maxRecDepth 100000 in
set_option maxHeartbeats 4000000 in
theorem c_X3_addDeletion {lc : Launch} (hlc : lc.stackTraces = false) {D : va_G} {Y : Nat → ClassId} {A : Nat → Prop} {τ σ : xS} {ρ : xG} {ad : xL} {d p : Int} (hl : 0 ≤ τ 41 0 0 ∧ τ 41 0 0 < 512) : Ct lc yX3_addDeletion cX3_addDeletion 3 none (rmL 1 0 0) D Y A ad (jG Y τ σ ρ ad) [.ref (ad 4 0), .int (iI d), .int (iI p)] (pE none ad (jG Y (lgA τ 1 d p (-1)) σ ρ ad)) (pF) := by
  refine Ct_of hlc (by decide +kernel) rfl rfl (own := RX3) (nm := "addDeletion") (l0 := [some (.ref (ad 4 0)), some (.int (iI d)), some (.int (iI p))]) rfl (Nat.le_of_ble_eq_true rfl) (fun κ C M => ?_)
  refine X_aload_n C rfl dX3_addDeletion_0 ?_
  refine X_iconst C dX3_addDeletion_1 ?_
  refine X_iload_n C rfl dX3_addDeletion_2 ?_
  refine X_iload_n C rfl dX3_addDeletion_3 ?_
  refine X_iconst C dX3_addDeletion_4 ?_
  refine X_callVE0_4 C (c_X3_add C.hlc (by omega)) cv_X3_24 (jG_4 rfl) ⟨_, _, rfl⟩ rfl rfl dX3_addDeletion_5 ?_
  exact X_return C M (by decide) (by decide) dX3_addDeletion_8 ⟨rfl, rfl, rfl⟩
set_option maxRecDepth 100000 in
set_option maxHeartbeats 4000000 in
theorem c_X3_addSignature {lc : Launch} (hlc : lc.stackTraces = false) {D : va_G} {Y : Nat → ClassId} {A : Nat → Prop} {τ σ : xS} {ρ : xG} {ad : xL} {d : Int} (hl : 0 ≤ τ 41 0 0 ∧ τ 41 0 0 < 512) : Ct lc yX3_addSignature cX3_addSignature 2 none (rmL 1 0 0) D Y A ad (jG Y τ σ ρ ad) [.ref (ad 4 0), .int (iI d)] (pE none ad (jG Y (lgA τ 2 d 0 (-1)) σ ρ ad)) (pF) := by
  refine Ct_of hlc (by decide +kernel) rfl rfl (own := RX3) (nm := "addSignature") (l0 := [some (.ref (ad 4 0)), some (.int (iI d))]) rfl (Nat.le_of_ble_eq_true rfl) (fun κ C M => ?_)
  refine X_aload_n C rfl dX3_addSignature_0 ?_
  refine X_iconst C dX3_addSignature_1 ?_
  refine X_iload_n C rfl dX3_addSignature_2 ?_
  refine X_iconst C dX3_addSignature_3 ?_
  refine X_iconst C dX3_addSignature_4 ?_
  refine X_callVE0_4 C (c_X3_add C.hlc (by omega)) cv_X3_24 (jG_4 rfl) ⟨_, _, rfl⟩ rfl rfl dX3_addSignature_5 ?_
  exact X_return C M (by decide) (by decide) dX3_addSignature_8 ⟨rfl, rfl, rfl⟩
set_option maxRecDepth 100000 in
set_option maxHeartbeats 4000000 in
theorem c_X8_insert {lc : Launch} (hlc : lc.stackTraces = false) {D : va_G} {Y : Nat → ClassId} {A : Nat → Prop} {τ σ : xS} {ρ : xG} {ad : xL} {n z p c : Int} (I : xI n τ) (hz0 : rg z) (hz1 : rg p) (hz2 : rg c) (hn : n < 512) : Ct lc yX8_insert cX8_insert 5 (some .int) (rmL 4 3 18) D Y A ad (jG Y τ σ ρ ad) [.ref (ad 0 0), .int (iI z), .int (iI p), .int (iI c)] (pC (kIns τ z p c = 0) (some (.int (iI (τ 2 z 0 + 1)))) ad (jG Y (insS τ z p c) σ ρ ad)) (pT (fun E => exn [nX, eI, eA, eS, eU] (kIns τ z p c) = some E) ad (jG Y τ σ ρ ad)) := by
  refine Ct_of hlc (by decide +kernel) rfl rfl (own := RX8) (nm := "insert") (l0 := [some (.ref (ad 0 0)), some (.int (iI z)), some (.int (iI p)), some (.int (iI c)), none]) rfl (Nat.le_of_ble_eq_true rfl) (fun κ C M => ?_)
  have Ind := I.nd
  have Inc := I.nc
  have Ino := I.no
  have In := I.n0
  refine X_aload_n C rfl dX8_insert_0 ?_
  refine X_iload_n C rfl dX8_insert_1 ?_
  refine X_callVC_1 C M (c_X8_documentOf C.hlc (by assumption) (by omega)) cv_X8_55 (jG_0 rfl) ⟨_, _, rfl⟩ rfl rfl dX8_insert_2 (fun E h => ⟨by obtain ⟨rfl, h⟩ := h; rw [show kIns τ z p c = 1 from by unfold kIns; (repeat' split) <;> omega]; rfl, rfl, rfl⟩) (fun h_2 => ?_)
  refine X_astore_4 C (by decide) rfl dX8_insert_5 ?_
  refine X_aload C rfl dX8_insert_7 ?_
  refine X_iload_n C rfl dX8_insert_9 ?_
  refine X_iconst C dX8_insert_10 ?_
  refine X_callSC0_3 C M (c_X8_requirePlaceOfEdit C.hlc (by assumption) (by omega) (by omega) (by omega)) cs_X8_59 rfl rfl dX8_insert_11 (fun E h => ⟨by obtain ⟨rfl, h⟩ := h; rw [show kIns τ z p c = 2 from by unfold kIns; (repeat' split) <;> omega]; rfl, rfl, rfl⟩) (fun h_11 => ?_)
  have k1 := I.sz (2 * z) 0
  refine X_iload_n C rfl dX8_insert_14 ?_
  refine X_callSE_1 C (c_X8_isCode C.hlc (by omega)) cs_X8_63 rfl rfl dX8_insert_15 ?_
  refine X_if_neB C (tgt := 31) dX8_insert_18 (by decide) (fun c_18 => ?_) (fun c_18 => ?_)
  · refine X_aload C rfl dX8_insert_31 ?_
    refine Xg_X1_text C (by (try simp (discharger := decide) only [up_r, upR_r, up_s, pinS_r, pouS_r, mvS_r, lgA_r, mkpS_r, becS_r]); omega) fl_X8_72 dX8_insert_33 ?_
    refine Xg_X7_size C (by (try simp (discharger := decide) only [up_r, upR_r, up_s, pinS_r, pouS_r, mvS_r, lgA_r, mkpS_r, becS_r]); omega) (v := τ 1 (2 * z) 0) rfl fl_X8_76 dX8_insert_36 ?_
    refine X_bipush C ⟨by decide, by decide⟩ dX8_insert_39 ?_
    refine X_icmp_lt C (tgt := 54) dX8_insert_41 (by decide) ⟨by omega, by omega⟩ ⟨by omega, by omega⟩ (fun c_41 => ?_) (fun c_41 => ?_)
    · refine X_aload_n C rfl dX8_insert_54 ?_
      refine X_aload C rfl dX8_insert_55 ?_
      refine X_iload_n C rfl dX8_insert_57 ?_
      refine X_iconst C dX8_insert_58 ?_
      refine X_callVC0_3 C M (c_X8_requireNotBarred C.hlc (by assumption) (by omega) (by omega) (by omega)) cv_X8_83 (jG_0 rfl) ⟨_, _, rfl⟩ rfl rfl dX8_insert_59 (fun E h => ⟨by obtain ⟨rfl, h⟩ := h; rw [show kIns τ z p c = 5 from by unfold kIns; (repeat' split) <;> omega]; rfl, rfl, rfl⟩) (fun h_59 => ?_)
      refine X_aload C rfl dX8_insert_62 ?_
      refine Xg_X1_text C (by (try simp (discharger := decide) only [up_r, upR_r, up_s, pinS_r, pouS_r, mvS_r, lgA_r, mkpS_r, becS_r]); omega) fl_X8_72 dX8_insert_64 ?_
      refine X_iload_n C rfl dX8_insert_67 ?_
      refine X_iload_n C rfl dX8_insert_68 ?_
      refine X_callVE0_2 C (c_X7_putIn C.hlc (by omega) (by omega) (by omega) (by omega)) cv_X8_86 (jG_12 (by (try simp (discharger := decide) only [up_r, upR_r, up_s, pinS_r, pouS_r, mvS_r, lgA_r, mkpS_r, becS_r]); omega)) ⟨_, _, rfl⟩ rfl rfl dX8_insert_69 ?_
      refine X_aload C rfl dX8_insert_72 ?_
      refine X_dup C rfl dX8_insert_74 ?_
      refine Xg_X1_version C (by (try simp (discharger := decide) only [up_r, upR_r, up_s, pinS_r, pouS_r, mvS_r, lgA_r, mkpS_r, becS_r]); omega) (v := τ 2 z 0) (by simp (discharger := decide) only [up_r, upR_r, up_s, pinS_r, pouS_r, mvS_r, lgA_r, mkpS_r, becS_r]) fl_X8_90 dX8_insert_75 ?_
      refine X_iconst C dX8_insert_78 ?_
      refine X_iadd C dX8_insert_79 ?_
      refine Xp_X1_version C (by (try simp (discharger := decide) only [up_r, upR_r, up_s, pinS_r, pouS_r, mvS_r, lgA_r, mkpS_r, becS_r]); omega) fw_X8_90 dX8_insert_80 ?_
      have k2 := I.ver z 0
      refine X_aload_n C rfl dX8_insert_83 ?_
      refine X_aload C rfl dX8_insert_84 ?_
      refine X_iload_n C rfl dX8_insert_86 ?_
      refine X_callVE0_2 C (c_X8_moveSpansForInsertion C.hlc (by simp (discharger := decide) only [up_r, upR_r, up_s, pinS_r, pouS_r, mvS_r, lgA_r, mkpS_r, becS_r]; exact I.nc) (by simp (discharger := decide) only [up_r, upR_r, up_s, pinS_r, pouS_r, mvS_r, lgA_r, mkpS_r, becS_r]; exact ⟨h_2.1, h_2.2⟩) (by omega) (by simp (discharger := decide) only [up_r, upR_r, up_s, pinS_r, pouS_r, mvS_r, lgA_r, mkpS_r, becS_r]; exact I.on) (by simp (discharger := decide) only [up_r, upR_r, up_s, pinS_r, pouS_r, mvS_r, lgA_r, mkpS_r, becS_r]; exact I.op) (by simp (discharger := decide) only [up_r, upR_r, up_s, pinS_r, pouS_r, mvS_r, lgA_r, mkpS_r, becS_r]; exact I.fr)) cv_X8_93 (jG_0 rfl) ⟨_, _, rfl⟩ rfl rfl dX8_insert_87 ?_
      refine X_aload_n C rfl dX8_insert_90 ?_
      refine Xg_X8_log C fl_X8_30 dX8_insert_91 ?_
      refine X_iload_n C rfl dX8_insert_94 ?_
      refine X_iload_n C rfl dX8_insert_95 ?_
      refine X_iload_n C rfl dX8_insert_96 ?_
      refine X_callVE0_3 C (c_X3_addInsertion C.hlc (by simp (discharger := decide) only [up_r, upR_r, up_s, pinS_r, pouS_r, mvS_r, lgA_r, mkpS_r, becS_r]; have := I.lg; omega)) cv_X8_97 (jG_4 rfl) ⟨_, _, rfl⟩ rfl rfl dX8_insert_97 ?_
      refine X_aload C rfl dX8_insert_100 ?_
      refine Xg_X1_version C (by (try simp (discharger := decide) only [up_r, upR_r, up_s, pinS_r, pouS_r, mvS_r, lgA_r, mkpS_r, becS_r]); omega) (v := τ 2 z 0 + 1) (by simp (discharger := decide) only [up_r, upR_r, up_s, pinS_r, pouS_r, mvS_r, lgA_r, mkpS_r, becS_r]) fl_X8_90 dX8_insert_102 ?_
      exact X_ireturn C M rfl (by decide) (by decide) dX8_insert_105 ⟨by unfold kIns; (repeat' split) <;> omega, rfl, rfl, rfl⟩
    · exact X_throw C M tw_X8_45_49 xs_X8_81 dX8_insert_44 dX8_insert_47 dX8_insert_48 dX8_insert_50 dX8_insert_53 (by decide) (by decide) (by decide) (by decide) ⟨by rw [show kIns τ z p c = 4 from by unfold kIns; (repeat' split) <;> omega]; rfl, rfl, rfl⟩
  · exact X_throw C M tw_X8_67_71 xs_X8_69 dX8_insert_21 dX8_insert_24 dX8_insert_25 dX8_insert_27 dX8_insert_30 (by decide) (by decide) (by decide) (by decide) ⟨by rw [show kIns τ z p c = 3 from by unfold kIns; (repeat' split) <;> omega]; rfl, rfl, rfl⟩
set_option maxRecDepth 100000 in
set_option maxHeartbeats 4000000 in
theorem c_X8_delete {lc : Launch} (hlc : lc.stackTraces = false) {D : va_G} {Y : Nat → ClassId} {A : Nat → Prop} {τ σ : xS} {ρ : xG} {ad : xL} {n z p : Int} (I : xI n τ) (hz0 : rg z) (hz1 : rg p) (hn : n < 512) : Ct lc yX8_delete cX8_delete 5 (some .int) (rmL 4 3 18) D Y A ad (jG Y τ σ ρ ad) [.ref (ad 0 0), .int (iI z), .int (iI p)] (pC (kDel τ z p = 0) (some (.int (iI (tAt τ (2 * z) p)))) ad (jG Y (delS τ z p) σ ρ ad)) (pT (fun E => exn [nX, eI, eU] (kDel τ z p) = some E) ad (jG Y τ σ ρ ad)) := by
  refine Ct_of hlc (by decide +kernel) rfl rfl (own := RX8) (nm := "delete") (l0 := [some (.ref (ad 0 0)), some (.int (iI z)), some (.int (iI p)), none, none]) rfl (Nat.le_of_ble_eq_true rfl) (fun κ C M => ?_)
  have Ind := I.nd
  have Inc := I.nc
  have Ino := I.no
  have In := I.n0
  refine X_aload_n C rfl dX8_delete_0 ?_
  refine X_iload_n C rfl dX8_delete_1 ?_
  refine X_callVC_1 C M (c_X8_documentOf C.hlc (by assumption) (by omega)) cv_X8_55 (jG_0 rfl) ⟨_, _, rfl⟩ rfl rfl dX8_delete_2 (fun E h => ⟨by obtain ⟨rfl, h⟩ := h; rw [show kDel τ z p = 1 from by unfold kDel; (repeat' split) <;> omega]; rfl, rfl, rfl⟩) (fun h_2 => ?_)
  refine X_astore_3 C (by decide) rfl dX8_delete_5 ?_
  refine X_aload_n C rfl dX8_delete_6 ?_
  refine X_iload_n C rfl dX8_delete_7 ?_
  refine X_iconst C dX8_delete_8 ?_
  refine X_callSC0_3 C M (c_X8_requirePlaceOfEdit C.hlc (by assumption) (by omega) (by omega) (by omega)) cs_X8_59 rfl rfl dX8_delete_9 (fun E h => ⟨by obtain ⟨rfl, h⟩ := h; rw [show kDel τ z p = 2 from by unfold kDel; (repeat' split) <;> omega]; rfl, rfl, rfl⟩) (fun h_9 => ?_)
  have k1 := I.sz (2 * z) 0
  refine X_aload_n C rfl dX8_delete_12 ?_
  refine X_aload_n C rfl dX8_delete_13 ?_
  refine X_iload_n C rfl dX8_delete_14 ?_
  refine X_iconst C dX8_delete_15 ?_
  refine X_callVC0_3 C M (c_X8_requireNotBarred C.hlc (by assumption) (by omega) (by omega) (by omega)) cv_X8_83 (jG_0 rfl) ⟨_, _, rfl⟩ rfl rfl dX8_delete_16 (fun E h => ⟨by obtain ⟨rfl, h⟩ := h; rw [show kDel τ z p = 3 from by unfold kDel; (repeat' split) <;> omega]; rfl, rfl, rfl⟩) (fun h_16 => ?_)
  refine X_aload_n C rfl dX8_delete_19 ?_
  refine Xg_X1_text C (by (try simp (discharger := decide) only [up_r, upR_r, up_s, pinS_r, pouS_r, mvS_r, lgA_r, mkpS_r, becS_r]); omega) fl_X8_72 dX8_delete_20 ?_
  refine X_iload_n C rfl dX8_delete_23 ?_
  refine X_callVE_1 C (c_X7_at C.hlc (by omega) (by omega) (by omega) (by omega)) cv_X8_101 (jG_12 (by (try simp (discharger := decide) only [up_r, upR_r, up_s, pinS_r, pouS_r, mvS_r, lgA_r, mkpS_r, becS_r]); omega)) ⟨_, _, rfl⟩ rfl rfl dX8_delete_24 ?_
  refine X_istore_4 C (by decide) rfl dX8_delete_27 ?_
  refine X_aload_n C rfl dX8_delete_29 ?_
  refine Xg_X1_text C (by (try simp (discharger := decide) only [up_r, upR_r, up_s, pinS_r, pouS_r, mvS_r, lgA_r, mkpS_r, becS_r]); omega) fl_X8_72 dX8_delete_30 ?_
  refine X_iload_n C rfl dX8_delete_33 ?_
  refine X_callVE0_1 C (c_X7_takeOut C.hlc (by omega) (by omega) (by omega) (by omega)) cv_X8_105 (jG_12 (by (try simp (discharger := decide) only [up_r, upR_r, up_s, pinS_r, pouS_r, mvS_r, lgA_r, mkpS_r, becS_r]); omega)) ⟨_, _, rfl⟩ rfl rfl dX8_delete_34 ?_
  refine X_aload_n C rfl dX8_delete_37 ?_
  refine X_dup C rfl dX8_delete_38 ?_
  refine Xg_X1_version C (by (try simp (discharger := decide) only [up_r, upR_r, up_s, pinS_r, pouS_r, mvS_r, lgA_r, mkpS_r, becS_r]); omega) (v := τ 2 z 0) (by simp (discharger := decide) only [up_r, upR_r, up_s, pinS_r, pouS_r, mvS_r, lgA_r, mkpS_r, becS_r]) fl_X8_90 dX8_delete_39 ?_
  refine X_iconst C dX8_delete_42 ?_
  refine X_iadd C dX8_delete_43 ?_
  refine Xp_X1_version C (by (try simp (discharger := decide) only [up_r, upR_r, up_s, pinS_r, pouS_r, mvS_r, lgA_r, mkpS_r, becS_r]); omega) fw_X8_90 dX8_delete_44 ?_
  refine X_aload_n C rfl dX8_delete_47 ?_
  refine X_aload_n C rfl dX8_delete_48 ?_
  refine X_iload_n C rfl dX8_delete_49 ?_
  refine X_callVE0_2 C (c_X8_moveSpansForDeletion C.hlc (by simp (discharger := decide) only [up_r, upR_r, up_s, pinS_r, pouS_r, mvS_r, lgA_r, mkpS_r, becS_r]; exact I.nc) (by simp (discharger := decide) only [up_r, upR_r, up_s, pinS_r, pouS_r, mvS_r, lgA_r, mkpS_r, becS_r]; exact ⟨h_2.1, h_2.2⟩) (by omega) (by simp (discharger := decide) only [up_r, upR_r, up_s, pinS_r, pouS_r, mvS_r, lgA_r, mkpS_r, becS_r]; exact I.on) (by simp (discharger := decide) only [up_r, upR_r, up_s, pinS_r, pouS_r, mvS_r, lgA_r, mkpS_r, becS_r]; exact I.op) (by simp (discharger := decide) only [up_r, upR_r, up_s, pinS_r, pouS_r, mvS_r, lgA_r, mkpS_r, becS_r]; exact I.fr)) cv_X8_108 (jG_0 rfl) ⟨_, _, rfl⟩ rfl rfl dX8_delete_50 ?_
  refine X_aload_n C rfl dX8_delete_53 ?_
  refine Xg_X8_log C fl_X8_30 dX8_delete_54 ?_
  refine X_iload_n C rfl dX8_delete_57 ?_
  refine X_iload_n C rfl dX8_delete_58 ?_
  refine X_callVE0_2 C (c_X3_addDeletion C.hlc (by simp (discharger := decide) only [up_r, upR_r, up_s, pinS_r, pouS_r, mvS_r, lgA_r, mkpS_r, becS_r]; have := I.lg; omega)) cv_X8_111 (jG_4 rfl) ⟨_, _, rfl⟩ rfl rfl dX8_delete_59 ?_
  refine X_iload C rfl dX8_delete_62 ?_
  exact X_ireturn C M rfl (by decide) (by decide) dX8_delete_64 ⟨by unfold kDel; (repeat' split) <;> omega, rfl, rfl, rfl⟩
set_option maxRecDepth 100000 in
set_option maxHeartbeats 4000000 in
theorem c_X8_sign {lc : Launch} (hlc : lc.stackTraces = false) {D : va_G} {Y : Nat → ClassId} {A : Nat → Prop} {τ σ : xS} {ρ : xG} {ad : xL} {n z : Int} (I : xI n τ) (hz0 : rg z) (hn : n < 512) : Ct lc yX8_sign cX8_sign 3 (some .int) (rmL 2 2 12) D Y A ad (jG Y τ σ ρ ad) [.ref (ad 0 0), .int (iI z)] (pC (kSig τ z = 0) (some (.int (iI (shC (τ 1 (2 * z) 0))))) ad (jG Y (sgnS τ z) σ ρ ad)) (pT (fun E => exn [nX, eS] (kSig τ z) = some E) ad (jG Y τ σ ρ ad)) := by
  refine Ct_of hlc (by decide +kernel) rfl rfl (own := RX8) (nm := "sign") (l0 := [some (.ref (ad 0 0)), some (.int (iI z)), none]) rfl (Nat.le_of_ble_eq_true rfl) (fun κ C M => ?_)
  have Ind := I.nd
  have Inc := I.nc
  have Ino := I.no
  have In := I.n0
  refine X_aload_n C rfl dX8_sign_0 ?_
  refine X_iload_n C rfl dX8_sign_1 ?_
  refine X_callVC_1 C M (c_X8_documentOf C.hlc (by assumption) (by omega)) cv_X8_55 (jG_0 rfl) ⟨_, _, rfl⟩ rfl rfl dX8_sign_2 (fun E h => ⟨by obtain ⟨rfl, h⟩ := h; rw [show kSig τ z = 1 from by unfold kSig; (repeat' split) <;> omega]; rfl, rfl, rfl⟩) (fun h_2 => ?_)
  refine X_astore_2 C (by decide) rfl dX8_sign_5 ?_
  refine X_aload_n C rfl dX8_sign_6 ?_
  refine Xg_X1_text C (by (try simp (discharger := decide) only [up_r, upR_r, up_s, pinS_r, pouS_r, mvS_r, lgA_r, mkpS_r, becS_r]); omega) fl_X8_72 dX8_sign_7 ?_
  have k1 := I.sz (2 * z) 0
  have k2 := I.ver z 0
  have k3 := I.pv z 0
  have k4 := opA_b τ z Inc.1
  refine Xg_X7_size C (by (try simp (discharger := decide) only [up_r, upR_r, up_s, pinS_r, pouS_r, mvS_r, lgA_r, mkpS_r, becS_r]); omega) rfl fl_X8_76 dX8_sign_10 ?_
  refine X_if_ne C (tgt := 26) dX8_sign_13 (by decide) ⟨by omega, by omega⟩ (fun c_13 => ?_) (fun c_13 => ?_)
  · refine X_aload_n C rfl dX8_sign_26 ?_
    refine X_aload_n C rfl dX8_sign_27 ?_
    refine X_callVE_1 C (c_X8_openCommentsOn C.hlc (by assumption) (by omega)) cv_X8_187 (jG_0 rfl) ⟨_, _, rfl⟩ rfl rfl dX8_sign_28 ?_
    refine X_if_le C (tgt := 44) dX8_sign_31 (by decide) ⟨by omega, by omega⟩ (fun c_31 => ?_) (fun c_31 => ?_)
    · refine X_aload_n C rfl dX8_sign_44 ?_
      refine Xg_X1_version C (by (try simp (discharger := decide) only [up_r, upR_r, up_s, pinS_r, pouS_r, mvS_r, lgA_r, mkpS_r, becS_r]); omega) rfl fl_X8_90 dX8_sign_45 ?_
      refine X_aload_n C rfl dX8_sign_48 ?_
      refine Xg_X1_proofVersion C (by (try simp (discharger := decide) only [up_r, upR_r, up_s, pinS_r, pouS_r, mvS_r, lgA_r, mkpS_r, becS_r]); omega) rfl fl_X8_205 dX8_sign_49 ?_
      refine X_icmp_ne C (tgt := 65) dX8_sign_52 (by decide) ⟨by omega, by omega⟩ ⟨by omega, by omega⟩ (fun c_52 => ?_) (fun c_52 => ?_)
      · refine X_aload_n C rfl dX8_sign_65 ?_
        refine X_callVE0_0 C (c_X1_makeProof C.hlc (by omega) (by omega) (by omega)) cv_X8_210 (jG_11 (by (try simp (discharger := decide) only [up_r, upR_r, up_s, pinS_r, pouS_r, mvS_r, lgA_r, mkpS_r, becS_r]); omega)) ⟨_, _, rfl⟩ rfl rfl dX8_sign_66 ?_
        refine X_aload_n C rfl dX8_sign_69 ?_
        refine Xg_X8_log C fl_X8_30 dX8_sign_70 ?_
        refine X_iload_n C rfl dX8_sign_73 ?_
        refine X_callVE0_1 C (c_X3_addSignature C.hlc (by simp (discharger := decide) only [up_r, upR_r, up_s, pinS_r, pouS_r, mvS_r, lgA_r, mkpS_r, becS_r]; have := I.lg; omega)) cv_X8_213 (jG_4 rfl) ⟨_, _, rfl⟩ rfl rfl dX8_sign_74 ?_
        refine X_aload_n C rfl dX8_sign_77 ?_
        refine Xg_X1_proofSheets C (by (try simp (discharger := decide) only [up_r, upR_r, up_s, pinS_r, pouS_r, mvS_r, lgA_r, mkpS_r, becS_r]); omega) (v := shC (τ 1 (2 * z) 0)) (by simp (discharger := decide) only [up_r, upR_r, up_s, pinS_r, pouS_r, mvS_r, lgA_r, mkpS_r, becS_r]; unfold mkpS; rw [up_s]) fl_X8_216 dX8_sign_78 ?_
        exact X_ireturn C M rfl (by decide) (by decide) dX8_sign_81 ⟨by unfold kSig; (repeat' split) <;> omega, rfl, rfl, rfl⟩
      · exact X_throw C M tw_X8_45_49 xs_X8_208 dX8_sign_55 dX8_sign_58 dX8_sign_59 dX8_sign_61 dX8_sign_64 (by decide) (by decide) (by decide) (by decide) ⟨by rw [show kSig τ z = 2 from by unfold kSig; (repeat' split) <;> omega]; rfl, rfl, rfl⟩
    · exact X_throw C M tw_X8_45_49 xs_X8_203 dX8_sign_34 dX8_sign_37 dX8_sign_38 dX8_sign_40 dX8_sign_43 (by decide) (by decide) (by decide) (by decide) ⟨by rw [show kSig τ z = 2 from by unfold kSig; (repeat' split) <;> omega]; rfl, rfl, rfl⟩
  · exact X_throw C M tw_X8_45_49 xs_X8_201 dX8_sign_16 dX8_sign_19 dX8_sign_20 dX8_sign_22 dX8_sign_25 (by decide) (by decide) (by decide) (by decide) ⟨by rw [show kSig τ z = 2 from by unfold kSig; (repeat' split) <;> omega]; rfl, rfl, rfl⟩
