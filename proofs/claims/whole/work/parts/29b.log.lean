set_option maxRecDepth 100000 in
set_option maxHeartbeats 4000000 in
theorem c_X8_goodShare {lc : Launch} (hlc : lc.stackTraces = false) {D : va_G} {Y : Nat → ClassId} {A : Nat → Prop} {τ σ : xS} {ρ : xG} {ad : xL} {n : Int} (I : xI n τ) : Ct lc yX8_goodShare cX8_goodShare 4 (some .float) (rmL 5 1 6) D Y A ad (jG Y τ σ ρ ad) [.ref (ad 0 0)] (pC (kNon (τ 32 0 0) = 0) (some (.float (FP.fdiv (FP.i2f (iI (gsG τ (τ 32 0 0)))) (FP.i2f (iI (gsT τ (τ 32 0 0))))))) ad (jG Y τ σ ρ ad)) (pT (fun E => exn [eM] (kNon (τ 32 0 0)) = some E) ad (jG Y τ σ ρ ad)) := by
  refine Ct_of hlc (by decide +kernel) rfl rfl (own := RX8) (nm := "goodShare") (l0 := [some (.ref (ad 0 0)), none, none, none]) rfl (Nat.le_of_ble_eq_true rfl) (fun κ C M => ?_)
  have Ind := I.nd
  have Inc := I.nc
  have Ino := I.no
  have In := I.n0
  refine X_iconst C dX8_goodShare_0 ?_
  refine X_istore_1 C (by decide) rfl dX8_goodShare_1 ?_
  refine X_iconst C dX8_goodShare_2 ?_
  refine X_istore_2 C (by decide) rfl dX8_goodShare_3 ?_
  refine X_iconst C dX8_goodShare_4 ?_
  refine X_istore_3 C (by decide) rfl dX8_goodShare_5 ?_
  have L6 : ∀ (n9 : Nat) (a b o : Int), (0 ≤ o ∧ o ≤ τ 32 0 0) → (a = gsG τ o) → (b = gsT τ o) → τ 32 0 0 - o < (n9 : Int) → X κ D A 4 0 0 6 ([some (.ref (ad 0 0)), some (.int (iI a)), some (.int (iI b)), some (.int (iI o))]) ([]) ad (jG Y τ σ ρ ad) := by
    intro n9
    induction n9 with
    | zero => intro a b o  ho ha hb hm; exfalso; omega
    | succ n9 ih =>
      intro a b o  ho ha hb hm
      refine X_iload_n C rfl dX8_goodShare_6 ?_
      refine X_aload_n C rfl dX8_goodShare_7 ?_
      refine Xg_X8_orderCount C rfl fl_X8_263 dX8_goodShare_8 ?_
      refine X_icmp_ge C (tgt := 48) dX8_goodShare_11 (by decide) ⟨by omega, by omega⟩ ⟨by omega, by omega⟩ (fun c_11 => ?_) (fun c_11 => ?_)
      · obtain rfl : o = τ 32 0 0 := by omega
        have gb := gs_b I Ino.1 (Int.le_refl _)
        refine X_iload_n C rfl dX8_goodShare_48 ?_
        refine X_if_ne C (tgt := 63) dX8_goodShare_49 (by decide) ⟨by omega, by omega⟩ (fun c_49 => ?_) (fun c_49 => ?_)
        · refine X_iload_n C rfl dX8_goodShare_63 ?_
          refine X_i2f C dX8_goodShare_64 ?_
          refine X_iload_n C rfl dX8_goodShare_65 ?_
          refine X_i2f C dX8_goodShare_66 ?_
          refine X_fdiv C (by rw [ha, hb]; exact fsh_n (by omega) (by omega) (by omega) (by omega)) dX8_goodShare_67 ?_
          exact X_freturn C M (by decide) (by decide) dX8_goodShare_68 ⟨by unfold kNon; (repeat' split) <;> omega, by rw [ha, hb], rfl, rfl⟩
        · exact X_throwW C M tw_X8_392_396 xs_X8_394 dX8_goodShare_52 dX8_goodShare_55 dX8_goodShare_56 dX8_goodShare_59 dX8_goodShare_62 (by decide) (by decide) (by decide) (by decide) ⟨by rw [show kNon (τ 32 0 0) = 1 from by unfold kNon; (repeat' split) <;> omega]; rfl, rfl, rfl⟩
      · refine X_iload_n C rfl dX8_goodShare_14 ?_
        refine X_aload_n C rfl dX8_goodShare_15 ?_
        refine X_aload_n C rfl dX8_goodShare_16 ?_
        refine Xg_X8_orders C fl_X8_23 dX8_goodShare_17 ?_
        refine X_iload_n C rfl dX8_goodShare_20 ?_
        refine Xa_ords_ld C (by omega) (by omega) (by omega) dX8_goodShare_21 ?_
        have k3 := I.od o (by omega) (by omega)
        refine X_callVE_1 C (c_X8_goodSheetsOf C.hlc (by assumption) (by omega)) cv_X8_329 (jG_0 rfl) ⟨_, _, rfl⟩ rfl rfl dX8_goodShare_22 ?_
        refine X_iadd C dX8_goodShare_25 ?_
        refine X_istore_1 C (by decide) rfl dX8_goodShare_26 ?_
        refine X_iload_n C rfl dX8_goodShare_27 ?_
        refine X_aload_n C rfl dX8_goodShare_28 ?_
        refine Xg_X8_orders C fl_X8_23 dX8_goodShare_29 ?_
        refine X_iload_n C rfl dX8_goodShare_32 ?_
        refine Xa_ords_ld C (by omega) (by omega) (by omega) dX8_goodShare_33 ?_
        refine Xg_X4_document C (by omega) rfl fl_X8_285 dX8_goodShare_34 ?_
        refine Xg_X1_proofSheets C (by omega) (v := shT τ (τ 9 o 0)) (I.sh _) fl_X8_216 dX8_goodShare_37 ?_
        refine X_iadd C dX8_goodShare_40 ?_
        refine X_istore_2 C (by decide) rfl dX8_goodShare_41 ?_
        refine X_iinc_3 C (by decide) rfl dX8_goodShare_42 ?_
        refine X_goto C (tgt := 6) dX8_goodShare_45 (by decide) ?_
        exact ih _ _ (o + 1) (by omega) (by unfold gsG at ha ⊢; rw [sumZ_s ho.1, ← ha]) (by unfold gsT at hb ⊢; rw [sumZ_s ho.1, ← hb]) (by omega)
  exact L6 7 0 0 0 (by omega) rfl rfl (by omega)
set_option maxRecDepth 100000 in
set_option maxHeartbeats 4000000 in
theorem c_X8_meanLength {lc : Launch} (hlc : lc.stackTraces = false) {D : va_G} {Y : Nat → ClassId} {A : Nat → Prop} {τ σ : xS} {ρ : xG} {ad : xL} {n : Int} (I : xI n τ) : Ct lc yX8_meanLength cX8_meanLength 3 (some .double) (rmL 0 1 6) D Y A ad (jG Y τ σ ρ ad) [.ref (ad 0 0)] (pC (kNon (τ 30 0 0) = 0) (some (.double (FP.ddiv (FP.i2d (iI (mlT τ (τ 30 0 0)))) (FP.i2d (iI (τ 30 0 0)))))) ad (jG Y τ σ ρ ad)) (pT (fun E => exn [eM] (kNon (τ 30 0 0)) = some E) ad (jG Y τ σ ρ ad)) := by
  refine Ct_of hlc (by decide +kernel) rfl rfl (own := RX8) (nm := "meanLength") (l0 := [some (.ref (ad 0 0)), none, none]) rfl (Nat.le_of_ble_eq_true rfl) (fun κ C M => ?_)
  have Ind := I.nd
  have Inc := I.nc
  have Ino := I.no
  have In := I.n0
  refine X_aload_n C rfl dX8_meanLength_0 ?_
  refine Xg_X8_documentCount C rfl fl_X8_41 dX8_meanLength_1 ?_
  refine X_if_ne C (tgt := 18) dX8_meanLength_4 (by decide) ⟨by omega, by omega⟩ (fun c_4 => ?_) (fun c_4 => ?_)
  · refine X_iconst C dX8_meanLength_18 ?_
    refine X_istore_1 C (by decide) rfl dX8_meanLength_19 ?_
    refine X_iconst C dX8_meanLength_20 ?_
    refine X_istore_2 C (by decide) rfl dX8_meanLength_21 ?_
    have L22 : ∀ (n9 : Nat) (a d : Int), (0 ≤ d ∧ d ≤ τ 30 0 0) → (a = mlT τ d) → τ 30 0 0 - d < (n9 : Int) → X κ D A 3 0 0 22 ([some (.ref (ad 0 0)), some (.int (iI a)), some (.int (iI d))]) ([]) ad (jG Y τ σ ρ ad) := by
      intro n9
      induction n9 with
      | zero => intro a d  ho ha hm; exfalso; omega
      | succ n9 ih =>
        intro a d  ho ha hm
        refine X_iload_n C rfl dX8_meanLength_22 ?_
        refine X_aload_n C rfl dX8_meanLength_23 ?_
        refine Xg_X8_documentCount C rfl fl_X8_41 dX8_meanLength_24 ?_
        refine X_icmp_ge C (tgt := 51) dX8_meanLength_27 (by decide) ⟨by omega, by omega⟩ ⟨by omega, by omega⟩ (fun c_27 => ?_) (fun c_27 => ?_)
        · obtain rfl : d = τ 30 0 0 := by omega
          have gb := ml_b I Ind.1
          refine X_iload_n C rfl dX8_meanLength_51 ?_
          refine X_i2d C dX8_meanLength_52 ?_
          refine X_aload_n C rfl dX8_meanLength_53 ?_
          refine Xg_X8_documentCount C rfl fl_X8_41 dX8_meanLength_54 ?_
          refine X_i2d C dX8_meanLength_57 ?_
          refine X_ddiv C (by rw [ha]; exact dml_n (by omega) (by omega) (by omega) (by omega)) dX8_meanLength_58 ?_
          exact X_dreturn C M (by decide) (by decide) dX8_meanLength_59 ⟨by unfold kNon; (repeat' split) <;> omega, by rw [ha], rfl, rfl⟩
        · refine X_iload_n C rfl dX8_meanLength_30 ?_
          refine X_aload_n C rfl dX8_meanLength_31 ?_
          refine Xg_X8_documents C fl_X8_11 dX8_meanLength_32 ?_
          refine X_iload_n C rfl dX8_meanLength_35 ?_
          refine Xa_docs_ld C (by omega) (by omega) (by omega) dX8_meanLength_36 ?_
          refine Xg_X1_text C (by omega) fl_X8_72 dX8_meanLength_37 ?_
          refine Xg_X7_size C (by omega) rfl fl_X8_76 dX8_meanLength_40 ?_
          refine X_iadd C dX8_meanLength_43 ?_
          refine X_istore_1 C (by decide) rfl dX8_meanLength_44 ?_
          refine X_iinc_2 C (by decide) rfl dX8_meanLength_45 ?_
          refine X_goto C (tgt := 22) dX8_meanLength_48 (by decide) ?_
          exact ih _ (d + 1) (by omega) (by unfold mlT at ha ⊢; rw [sumZ_s ho.1, ← ha]) (by omega)
    exact L22 7 0 0 (by omega) rfl (by omega)
  · exact X_throwW C M tw_X8_392_396 xs_X8_397 dX8_meanLength_7 dX8_meanLength_10 dX8_meanLength_11 dX8_meanLength_14 dX8_meanLength_17 (by decide) (by decide) (by decide) (by decide) ⟨by rw [show kNon (τ 30 0 0) = 1 from by unfold kNon; (repeat' split) <;> omega]; rfl, rfl, rfl⟩
set_option maxRecDepth 100000 in
set_option maxHeartbeats 4000000 in
theorem c_X3_lastSignature {lc : Launch} (hlc : lc.stackTraces = false) {D : va_G} {Y : Nat → ClassId} {A : Nat → Prop} {τ σ : xS} {ρ : xG} {ad : xL} {d e : Int} (hb : ∀ j, 0 ≤ j → j < τ 41 0 0 → (0 ≤ τ 20 0 j ∧ τ 20 0 j ≤ 2) ∧ (0 ≤ τ 21 0 j ∧ τ 21 0 j ≤ 3) ∧ (0 ≤ τ 22 0 j ∧ τ 22 0 j ≤ 80) ∧ (-1 ≤ τ 23 0 j ∧ τ 23 0 j ≤ 128527)) (hl : 0 ≤ τ 41 0 0 ∧ τ 41 0 0 ≤ 512) (hd : 0 ≤ d ∧ d ≤ 3) (h0 : 0 ≤ e ∧ e < τ 41 0 0) (h1 : τ 21 0 e = d ∧ τ 20 0 e = 2) (h2 : ∀ j, e < j → j < τ 41 0 0 → ¬ (τ 21 0 j = d ∧ τ 20 0 j = 2)) : Ct lc yX3_lastSignature cX3_lastSignature 3 (some .int) (rmL 0 0 0) D Y A ad (jG Y τ σ ρ ad) [.ref (ad 4 0), .int (iI d)] (pE (some (.int (iI e))) ad (jG Y τ σ ρ ad)) (pF) := by
  refine Ct_of hlc (by decide +kernel) rfl rfl (own := RX3) (nm := "lastSignature") (l0 := [some (.ref (ad 4 0)), some (.int (iI d)), none]) rfl (Nat.le_of_ble_eq_true rfl) (fun κ C M => ?_)
  refine X_aload_n C rfl dX3_lastSignature_0 ?_
  refine Xg_X3_size C rfl fl_X3_28 dX3_lastSignature_1 ?_
  refine X_iconst C dX3_lastSignature_4 ?_
  refine X_isub C dX3_lastSignature_5 ?_
  refine X_istore_2 C (by decide) rfl dX3_lastSignature_6 ?_
  have L7 : ∀ (n9 : Nat) (i : Int), (e ≤ i ∧ i < τ 41 0 0) → i - e < (n9 : Int) → X κ D A 3 0 0 7 ([some (.ref (ad 4 0)), some (.int (iI d)), some (.int (iI i))]) ([]) ad (jG Y τ σ ρ ad) := by
    intro n9
    induction n9 with
    | zero => intro i  hi hm; exfalso; omega
    | succ n9 ih =>
      intro i  hi hm
      refine X_iload_n C rfl dX3_lastSignature_7 ?_
      refine X_if_lt C (tgt := 39) dX3_lastSignature_8 (by decide) ⟨by omega, by omega⟩ (fun c_8 => ?_) (fun c_8 => ?_)
      · exfalso; omega
      refine X_aload_n C rfl dX3_lastSignature_11 ?_
      refine Xg_X3_documents C fl_X3_15 dX3_lastSignature_12 ?_
      have kb := hb i (by omega) (by omega)
      refine X_iload_n C rfl dX3_lastSignature_15 ?_
      refine Xa_ldocs_ld C (by omega) (by omega) rfl dX3_lastSignature_16 ?_
      refine X_iload_n C rfl dX3_lastSignature_17 ?_
      refine X_icmp_ne C (tgt := 33) dX3_lastSignature_18 (by decide) ⟨by omega, by omega⟩ ⟨by omega, by omega⟩ (fun c_18 => ?_) (fun c_18 => ?_)
      · refine X_iinc_2 C (by decide) rfl dX3_lastSignature_33 ?_
        refine X_goto C (tgt := 7) dX3_lastSignature_36 (by decide) ?_
        have hne : i ≠ e := by rintro rfl; omega
        exact ih (i + -1) (by omega) (by omega)
      · refine X_aload_n C rfl dX3_lastSignature_21 ?_
        refine Xg_X3_kinds C fl_X3_9 dX3_lastSignature_22 ?_
        refine X_iload_n C rfl dX3_lastSignature_25 ?_
        refine Xa_lkinds_ld C (by omega) (by omega) rfl dX3_lastSignature_26 ?_
        refine X_iconst C dX3_lastSignature_27 ?_
        refine X_icmp_ne C (tgt := 33) dX3_lastSignature_28 (by decide) ⟨by omega, by omega⟩ ⟨by omega, by omega⟩ (fun c_28 => ?_) (fun c_28 => ?_)
        · refine X_iinc_2 C (by decide) rfl dX3_lastSignature_33 ?_
          refine X_goto C (tgt := 7) dX3_lastSignature_36 (by decide) ?_
          have hne : i ≠ e := by rintro rfl; omega
          exact ih (i + -1) (by omega) (by omega)
        · refine X_iload_n C rfl dX3_lastSignature_31 ?_
          exact X_ireturn C M rfl (by decide) (by decide) dX3_lastSignature_32 ⟨rI (Classical.byContradiction fun w => h2 i (by omega) (by omega) ⟨by omega, by omega⟩), rfl, rfl⟩
  exact L7 513 (τ 41 0 0 - 1) (by omega) (by omega)
set_option maxRecDepth 100000 in
set_option maxHeartbeats 4000000 in
theorem c_X3_charactersBefore {lc : Launch} (hlc : lc.stackTraces = false) {D : va_G} {Y : Nat → ClassId} {A : Nat → Prop} {τ σ : xS} {ρ : xG} {ad : xL} {d e : Int} (hb : ∀ j, 0 ≤ j → j < τ 41 0 0 → (0 ≤ τ 20 0 j ∧ τ 20 0 j ≤ 2) ∧ (0 ≤ τ 21 0 j ∧ τ 21 0 j ≤ 3) ∧ (0 ≤ τ 22 0 j ∧ τ 22 0 j ≤ 80) ∧ (-1 ≤ τ 23 0 j ∧ τ 23 0 j ≤ 128527)) (hl : 0 ≤ τ 41 0 0 ∧ τ 41 0 0 ≤ 512) (hd : 0 ≤ d ∧ d ≤ 3) (h0 : 0 ≤ e ∧ e ≤ τ 41 0 0) : Ct lc yX3_charactersBefore cX3_charactersBefore 5 (some .int) (rmL 0 0 0) D Y A ad (jG Y τ σ ρ ad) [.ref (ad 4 0), .int (iI e), .int (iI d)] (pE (some (.int (iI (lgC τ d e.toNat)))) ad (jG Y τ σ ρ ad)) (pF) := by
  refine Ct_of hlc (by decide +kernel) rfl rfl (own := RX3) (nm := "charactersBefore") (l0 := [some (.ref (ad 4 0)), some (.int (iI e)), some (.int (iI d)), none, none]) rfl (Nat.le_of_ble_eq_true rfl) (fun κ C M => ?_)
  refine X_iconst C dX3_charactersBefore_0 ?_
  refine X_istore_3 C (by decide) rfl dX3_charactersBefore_1 ?_
  refine X_iconst C dX3_charactersBefore_2 ?_
  refine X_istore_4 C (by decide) rfl dX3_charactersBefore_3 ?_
  have L5 : ∀ (n9 : Nat) (a i : Int), (0 ≤ i ∧ i ≤ e) → (a = lgC τ d i.toNat) → e - i < (n9 : Int) → X κ D A 5 0 0 5 ([some (.ref (ad 4 0)), some (.int (iI e)), some (.int (iI d)), some (.int (iI a)), some (.int (iI i))]) ([]) ad (jG Y τ σ ρ ad) := by
    intro n9
    induction n9 with
    | zero => intro a i  hi ha hm; exfalso; omega
    | succ n9 ih =>
      intro a i  hi ha hm
      refine X_iload C rfl dX3_charactersBefore_5 ?_
      refine X_iload_n C rfl dX3_charactersBefore_7 ?_
      refine X_icmp_ge C (tgt := 69) dX3_charactersBefore_8 (by decide) ⟨by omega, by omega⟩ ⟨by omega, by omega⟩ (fun c_8 => ?_) (fun c_8 => ?_)
      · obtain rfl : i = e := by omega
        refine X_iload_n C rfl dX3_charactersBefore_69 ?_
        exact X_ireturn C M rfl (by decide) (by decide) dX3_charactersBefore_70 ⟨rI ha, rfl, rfl⟩
      · refine X_aload_n C rfl dX3_charactersBefore_11 ?_
        refine Xg_X3_documents C fl_X3_15 dX3_charactersBefore_12 ?_
        refine X_iload C rfl dX3_charactersBefore_15 ?_
        have kb := hb i (by omega) (by omega)
        refine Xa_ldocs_ld C (by omega) (by omega) rfl dX3_charactersBefore_17 ?_
        refine X_iload_n C rfl dX3_charactersBefore_18 ?_
        refine X_icmp_ne C (tgt := 38) dX3_charactersBefore_19 (by decide) ⟨by omega, by omega⟩ ⟨by omega, by omega⟩ (fun c_19 => ?_) (fun c_19 => ?_)
        · refine X_aload_n C rfl dX3_charactersBefore_38 ?_
          refine Xg_X3_documents C fl_X3_15 dX3_charactersBefore_39 ?_
          refine X_iload C rfl dX3_charactersBefore_42 ?_
          refine Xa_ldocs_ld C (by omega) (by omega) rfl dX3_charactersBefore_44 ?_
          refine X_iload_n C rfl dX3_charactersBefore_45 ?_
          refine X_icmp_ne C (tgt := 63) dX3_charactersBefore_46 (by decide) ⟨by omega, by omega⟩ ⟨by omega, by omega⟩ (fun c_46 => ?_) (fun c_46 => ?_)
          · refine X_iinc_4 C (by decide) rfl dX3_charactersBefore_63 ?_
            refine X_goto C (tgt := 5) dX3_charactersBefore_66 (by decide) ?_
            exact ih _ (i + 1) (by omega) (by rw [lgC_s hi.1, ← ha]; (repeat' split) <;> omega) (by omega)
          · refine X_aload_n C rfl dX3_charactersBefore_49 ?_
            refine Xg_X3_kinds C fl_X3_9 dX3_charactersBefore_50 ?_
            refine X_iload C rfl dX3_charactersBefore_53 ?_
            refine Xa_lkinds_ld C (by omega) (by omega) rfl dX3_charactersBefore_55 ?_
            refine X_iconst C dX3_charactersBefore_56 ?_
            refine X_icmp_ne C (tgt := 63) dX3_charactersBefore_57 (by decide) ⟨by omega, by omega⟩ ⟨by omega, by omega⟩ (fun c_57 => ?_) (fun c_57 => ?_)
            · refine X_iinc_4 C (by decide) rfl dX3_charactersBefore_63 ?_
              refine X_goto C (tgt := 5) dX3_charactersBefore_66 (by decide) ?_
              exact ih _ (i + 1) (by omega) (by rw [lgC_s hi.1, ← ha]; (repeat' split) <;> omega) (by omega)
            · refine X_iinc_3 C (by decide) rfl dX3_charactersBefore_60 ?_
              refine X_iinc_4 C (by decide) rfl dX3_charactersBefore_63 ?_
              refine X_goto C (tgt := 5) dX3_charactersBefore_66 (by decide) ?_
              exact ih _ (i + 1) (by omega) (by rw [lgC_s hi.1, ← ha]; (repeat' split) <;> omega) (by omega)
        · refine X_aload_n C rfl dX3_charactersBefore_22 ?_
          refine Xg_X3_kinds C fl_X3_9 dX3_charactersBefore_23 ?_
          refine X_iload C rfl dX3_charactersBefore_26 ?_
          refine Xa_lkinds_ld C (by omega) (by omega) rfl dX3_charactersBefore_28 ?_
          refine X_if_ne C (tgt := 38) dX3_charactersBefore_29 (by decide) ⟨by omega, by omega⟩ (fun c_29 => ?_) (fun c_29 => ?_)
          · refine X_aload_n C rfl dX3_charactersBefore_38 ?_
            refine Xg_X3_documents C fl_X3_15 dX3_charactersBefore_39 ?_
            refine X_iload C rfl dX3_charactersBefore_42 ?_
            refine Xa_ldocs_ld C (by omega) (by omega) rfl dX3_charactersBefore_44 ?_
            refine X_iload_n C rfl dX3_charactersBefore_45 ?_
            refine X_icmp_ne C (tgt := 63) dX3_charactersBefore_46 (by decide) ⟨by omega, by omega⟩ ⟨by omega, by omega⟩ (fun c_46 => ?_) (fun c_46 => ?_)
            · refine X_iinc_4 C (by decide) rfl dX3_charactersBefore_63 ?_
              refine X_goto C (tgt := 5) dX3_charactersBefore_66 (by decide) ?_
              exact ih _ (i + 1) (by omega) (by rw [lgC_s hi.1, ← ha]; (repeat' split) <;> omega) (by omega)
            · refine X_aload_n C rfl dX3_charactersBefore_49 ?_
              refine Xg_X3_kinds C fl_X3_9 dX3_charactersBefore_50 ?_
              refine X_iload C rfl dX3_charactersBefore_53 ?_
              refine Xa_lkinds_ld C (by omega) (by omega) rfl dX3_charactersBefore_55 ?_
              refine X_iconst C dX3_charactersBefore_56 ?_
              refine X_icmp_ne C (tgt := 63) dX3_charactersBefore_57 (by decide) ⟨by omega, by omega⟩ ⟨by omega, by omega⟩ (fun c_57 => ?_) (fun c_57 => ?_)
              · refine X_iinc_4 C (by decide) rfl dX3_charactersBefore_63 ?_
                refine X_goto C (tgt := 5) dX3_charactersBefore_66 (by decide) ?_
                exact ih _ (i + 1) (by omega) (by rw [lgC_s hi.1, ← ha]; (repeat' split) <;> omega) (by omega)
              · refine X_iinc_3 C (by decide) rfl dX3_charactersBefore_60 ?_
                refine X_iinc_4 C (by decide) rfl dX3_charactersBefore_63 ?_
                refine X_goto C (tgt := 5) dX3_charactersBefore_66 (by decide) ?_
                exact ih _ (i + 1) (by omega) (by rw [lgC_s hi.1, ← ha]; (repeat' split) <;> omega) (by omega)
          · refine X_iinc_3 C (by decide) rfl dX3_charactersBefore_32 ?_
            refine X_goto C (tgt := 63) dX3_charactersBefore_35 (by decide) ?_
            refine X_iinc_4 C (by decide) rfl dX3_charactersBefore_63 ?_
            refine X_goto C (tgt := 5) dX3_charactersBefore_66 (by decide) ?_
            exact ih _ (i + 1) (by omega) (by rw [lgC_s hi.1, ← ha]; (repeat' split) <;> omega) (by omega)
  exact L5 513 0 0 (by omega) rfl (by omega)
set_option maxRecDepth 100000 in
set_option maxHeartbeats 4000000 in
theorem c_X3_codeBefore {lc : Launch} (hlc : lc.stackTraces = false) {D : va_G} {Y : Nat → ClassId} {A : Nat → Prop} {τ σ : xS} {ρ : xG} {ad : xL} {d e p : Int} (hb : ∀ j, 0 ≤ j → j < τ 41 0 0 → (0 ≤ τ 20 0 j ∧ τ 20 0 j ≤ 2) ∧ (0 ≤ τ 21 0 j ∧ τ 21 0 j ≤ 3) ∧ (0 ≤ τ 22 0 j ∧ τ 22 0 j ≤ 80) ∧ (-1 ≤ τ 23 0 j ∧ τ 23 0 j ≤ 128527)) (hl : 0 ≤ τ 41 0 0 ∧ τ 41 0 0 ≤ 512) (hd : 0 ≤ d ∧ d ≤ 3) (h0 : 0 ≤ e ∧ e ≤ τ 41 0 0) (hp : 0 ≤ p ∧ p ≤ 80) : Ct lc yX3_codeBefore cX3_codeBefore 6 (some .int) (rmL 0 0 0) D Y A ad (jG Y τ σ ρ ad) [.ref (ad 4 0), .int (iI e), .int (iI d), .int (iI p)] (pE (some (.int (iI (lgN τ d e.toNat p)))) ad (jG Y τ σ ρ ad)) (pF) := by
  refine Ct_of hlc (by decide +kernel) rfl rfl (own := RX3) (nm := "codeBefore") (l0 := [some (.ref (ad 4 0)), some (.int (iI e)), some (.int (iI d)), some (.int (iI p)), none, none]) rfl (Nat.le_of_ble_eq_true rfl) (fun κ C M => ?_)
  refine X_iload_n C rfl dX3_codeBefore_0 ?_
  refine X_istore_4 C (by decide) rfl dX3_codeBefore_1 ?_
  refine X_iload_n C rfl dX3_codeBefore_3 ?_
  refine X_iconst C dX3_codeBefore_4 ?_
  refine X_isub C dX3_codeBefore_5 ?_
  refine X_istore_5 C (by decide) rfl dX3_codeBefore_6 ?_
  have L8 : ∀ (n9 : Nat) (q i : Int), (-1 ≤ i ∧ i < e) → (p - (e - 1 - i) ≤ q ∧ q ≤ p + (e - 1 - i)) → (lgN τ d (i + 1).toNat q = lgN τ d e.toNat p) → i + 1 < (n9 : Int) → X κ D A 6 0 0 8 ([some (.ref (ad 4 0)), some (.int (iI e)), some (.int (iI d)), some (.int (iI p)), some (.int (iI q)), some (.int (iI i))]) ([]) ad (jG Y τ σ ρ ad) := by
    intro n9
    induction n9 with
    | zero => intro q i  hi hq ha hm; exfalso; omega
    | succ n9 ih =>
      intro q i  hi hq ha hm
      refine X_iload C rfl dX3_codeBefore_8 ?_
      refine X_if_lt C (tgt := 117) dX3_codeBefore_10 (by decide) ⟨by omega, by omega⟩ (fun c_10 => ?_) (fun c_10 => ?_)
      · refine X_iconst C dX3_codeBefore_117 ?_
        exact X_ireturn C M rfl (by decide) (by decide) dX3_codeBefore_118 ⟨rI (by rw [← ha, show (i + 1).toNat = 0 by omega]; rfl), rfl, rfl⟩
      · refine X_aload_n C rfl dX3_codeBefore_13 ?_
        refine Xg_X3_documents C fl_X3_15 dX3_codeBefore_14 ?_
        refine X_iload C rfl dX3_codeBefore_17 ?_
        have kb := hb i (by omega) (by omega)
        refine Xa_ldocs_ld C (by omega) (by omega) rfl dX3_codeBefore_19 ?_
        refine X_iload_n C rfl dX3_codeBefore_20 ?_
        refine X_icmp_eq C (tgt := 27) dX3_codeBefore_21 (by decide) ⟨by omega, by omega⟩ ⟨by omega, by omega⟩ (fun c_21 => ?_) (fun c_21 => ?_)
        · refine X_aload_n C rfl dX3_codeBefore_27 ?_
          refine Xg_X3_kinds C fl_X3_9 dX3_codeBefore_28 ?_
          refine X_iload C rfl dX3_codeBefore_31 ?_
          refine Xa_lkinds_ld C (by omega) (by omega) rfl dX3_codeBefore_33 ?_
          refine X_if_ne C (tgt := 57) dX3_codeBefore_34 (by decide) ⟨by omega, by omega⟩ (fun c_34 => ?_) (fun c_34 => ?_)
          · refine X_aload_n C rfl dX3_codeBefore_57 ?_
            refine Xg_X3_kinds C fl_X3_9 dX3_codeBefore_58 ?_
            refine X_iload C rfl dX3_codeBefore_61 ?_
            refine Xa_lkinds_ld C (by omega) (by omega) rfl dX3_codeBefore_63 ?_
            refine X_if_ne C (tgt := 85) dX3_codeBefore_64 (by decide) ⟨by omega, by omega⟩ (fun c_64 => ?_) (fun c_64 => ?_)
            · refine X_aload_n C rfl dX3_codeBefore_85 ?_
              refine Xg_X3_kinds C fl_X3_9 dX3_codeBefore_86 ?_
              refine X_iload C rfl dX3_codeBefore_89 ?_
              refine Xa_lkinds_ld C (by omega) (by omega) rfl dX3_codeBefore_91 ?_
              refine X_iconst C dX3_codeBefore_92 ?_
              refine X_icmp_ne C (tgt := 111) dX3_codeBefore_93 (by decide) ⟨by omega, by omega⟩ ⟨by omega, by omega⟩ (fun c_93 => ?_) (fun c_93 => ?_)
              · refine X_iinc_5 C (by decide) rfl dX3_codeBefore_111 ?_
                refine X_goto C (tgt := 8) dX3_codeBefore_114 (by decide) ?_
                exact ih _ (i + -1) (by omega) (by omega) (by rw [← ha, lgN_s (z := i) (by omega), show (i + -1 + 1 : Int) = i by omega]; (repeat' split) <;> first | rfl | omega | (congr 1; omega)) (by omega)
              · refine X_aload_n C rfl dX3_codeBefore_96 ?_
                refine Xg_X3_places C fl_X3_18 dX3_codeBefore_97 ?_
                refine X_iload C rfl dX3_codeBefore_100 ?_
                refine Xa_lplaces_ld C (by omega) (by omega) rfl dX3_codeBefore_102 ?_
                refine X_iload C rfl dX3_codeBefore_103 ?_
                refine X_icmp_gt C (tgt := 111) dX3_codeBefore_105 (by decide) ⟨by omega, by omega⟩ ⟨by omega, by omega⟩ (fun c_105 => ?_) (fun c_105 => ?_)
                · refine X_iinc_5 C (by decide) rfl dX3_codeBefore_111 ?_
                  refine X_goto C (tgt := 8) dX3_codeBefore_114 (by decide) ?_
                  exact ih _ (i + -1) (by omega) (by omega) (by rw [← ha, lgN_s (z := i) (by omega), show (i + -1 + 1 : Int) = i by omega]; (repeat' split) <;> first | rfl | omega | (congr 1; omega)) (by omega)
                · refine X_iinc_4 C (by decide) rfl dX3_codeBefore_108 ?_
                  refine X_iinc_5 C (by decide) rfl dX3_codeBefore_111 ?_
                  refine X_goto C (tgt := 8) dX3_codeBefore_114 (by decide) ?_
                  exact ih _ (i + -1) (by omega) (by omega) (by rw [← ha, lgN_s (z := i) (by omega), show (i + -1 + 1 : Int) = i by omega]; (repeat' split) <;> first | rfl | omega | (congr 1; omega)) (by omega)
            · refine X_aload_n C rfl dX3_codeBefore_67 ?_
              refine Xg_X3_places C fl_X3_18 dX3_codeBefore_68 ?_
              refine X_iload C rfl dX3_codeBefore_71 ?_
              refine Xa_lplaces_ld C (by omega) (by omega) rfl dX3_codeBefore_73 ?_
              refine X_iload C rfl dX3_codeBefore_74 ?_
              refine X_icmp_ge C (tgt := 85) dX3_codeBefore_76 (by decide) ⟨by omega, by omega⟩ ⟨by omega, by omega⟩ (fun c_76 => ?_) (fun c_76 => ?_)
              · refine X_aload_n C rfl dX3_codeBefore_85 ?_
                refine Xg_X3_kinds C fl_X3_9 dX3_codeBefore_86 ?_
                refine X_iload C rfl dX3_codeBefore_89 ?_
                refine Xa_lkinds_ld C (by omega) (by omega) rfl dX3_codeBefore_91 ?_
                refine X_iconst C dX3_codeBefore_92 ?_
                refine X_icmp_ne C (tgt := 111) dX3_codeBefore_93 (by decide) ⟨by omega, by omega⟩ ⟨by omega, by omega⟩ (fun c_93 => ?_) (fun c_93 => ?_)
                · refine X_iinc_5 C (by decide) rfl dX3_codeBefore_111 ?_
                  refine X_goto C (tgt := 8) dX3_codeBefore_114 (by decide) ?_
                  exact ih _ (i + -1) (by omega) (by omega) (by rw [← ha, lgN_s (z := i) (by omega), show (i + -1 + 1 : Int) = i by omega]; (repeat' split) <;> first | rfl | omega | (congr 1; omega)) (by omega)
                · refine X_aload_n C rfl dX3_codeBefore_96 ?_
                  refine Xg_X3_places C fl_X3_18 dX3_codeBefore_97 ?_
                  refine X_iload C rfl dX3_codeBefore_100 ?_
                  refine Xa_lplaces_ld C (by omega) (by omega) rfl dX3_codeBefore_102 ?_
                  refine X_iload C rfl dX3_codeBefore_103 ?_
                  refine X_icmp_gt C (tgt := 111) dX3_codeBefore_105 (by decide) ⟨by omega, by omega⟩ ⟨by omega, by omega⟩ (fun c_105 => ?_) (fun c_105 => ?_)
                  · refine X_iinc_5 C (by decide) rfl dX3_codeBefore_111 ?_
                    refine X_goto C (tgt := 8) dX3_codeBefore_114 (by decide) ?_
                    exact ih _ (i + -1) (by omega) (by omega) (by rw [← ha, lgN_s (z := i) (by omega), show (i + -1 + 1 : Int) = i by omega]; (repeat' split) <;> first | rfl | omega | (congr 1; omega)) (by omega)
                  · refine X_iinc_4 C (by decide) rfl dX3_codeBefore_108 ?_
                    refine X_iinc_5 C (by decide) rfl dX3_codeBefore_111 ?_
                    refine X_goto C (tgt := 8) dX3_codeBefore_114 (by decide) ?_
                    exact ih _ (i + -1) (by omega) (by omega) (by rw [← ha, lgN_s (z := i) (by omega), show (i + -1 + 1 : Int) = i by omega]; (repeat' split) <;> first | rfl | omega | (congr 1; omega)) (by omega)
              · refine X_iinc_4 C (by decide) rfl dX3_codeBefore_79 ?_
                refine X_goto C (tgt := 111) dX3_codeBefore_82 (by decide) ?_
                refine X_iinc_5 C (by decide) rfl dX3_codeBefore_111 ?_
                refine X_goto C (tgt := 8) dX3_codeBefore_114 (by decide) ?_
                exact ih _ (i + -1) (by omega) (by omega) (by rw [← ha, lgN_s (z := i) (by omega), show (i + -1 + 1 : Int) = i by omega]; (repeat' split) <;> first | rfl | omega | (congr 1; omega)) (by omega)
          · refine X_aload_n C rfl dX3_codeBefore_37 ?_
            refine Xg_X3_places C fl_X3_18 dX3_codeBefore_38 ?_
            refine X_iload C rfl dX3_codeBefore_41 ?_
            refine Xa_lplaces_ld C (by omega) (by omega) rfl dX3_codeBefore_43 ?_
            refine X_iload C rfl dX3_codeBefore_44 ?_
            refine X_icmp_ne C (tgt := 57) dX3_codeBefore_46 (by decide) ⟨by omega, by omega⟩ ⟨by omega, by omega⟩ (fun c_46 => ?_) (fun c_46 => ?_)
            · refine X_aload_n C rfl dX3_codeBefore_57 ?_
              refine Xg_X3_kinds C fl_X3_9 dX3_codeBefore_58 ?_
              refine X_iload C rfl dX3_codeBefore_61 ?_
              refine Xa_lkinds_ld C (by omega) (by omega) rfl dX3_codeBefore_63 ?_
              refine X_if_ne C (tgt := 85) dX3_codeBefore_64 (by decide) ⟨by omega, by omega⟩ (fun c_64 => ?_) (fun c_64 => ?_)
              · refine X_aload_n C rfl dX3_codeBefore_85 ?_
                refine Xg_X3_kinds C fl_X3_9 dX3_codeBefore_86 ?_
                refine X_iload C rfl dX3_codeBefore_89 ?_
                refine Xa_lkinds_ld C (by omega) (by omega) rfl dX3_codeBefore_91 ?_
                refine X_iconst C dX3_codeBefore_92 ?_
                refine X_icmp_ne C (tgt := 111) dX3_codeBefore_93 (by decide) ⟨by omega, by omega⟩ ⟨by omega, by omega⟩ (fun c_93 => ?_) (fun c_93 => ?_)
                · refine X_iinc_5 C (by decide) rfl dX3_codeBefore_111 ?_
                  refine X_goto C (tgt := 8) dX3_codeBefore_114 (by decide) ?_
                  exact ih _ (i + -1) (by omega) (by omega) (by rw [← ha, lgN_s (z := i) (by omega), show (i + -1 + 1 : Int) = i by omega]; (repeat' split) <;> first | rfl | omega | (congr 1; omega)) (by omega)
                · refine X_aload_n C rfl dX3_codeBefore_96 ?_
                  refine Xg_X3_places C fl_X3_18 dX3_codeBefore_97 ?_
                  refine X_iload C rfl dX3_codeBefore_100 ?_
                  refine Xa_lplaces_ld C (by omega) (by omega) rfl dX3_codeBefore_102 ?_
                  refine X_iload C rfl dX3_codeBefore_103 ?_
                  refine X_icmp_gt C (tgt := 111) dX3_codeBefore_105 (by decide) ⟨by omega, by omega⟩ ⟨by omega, by omega⟩ (fun c_105 => ?_) (fun c_105 => ?_)
                  · refine X_iinc_5 C (by decide) rfl dX3_codeBefore_111 ?_
                    refine X_goto C (tgt := 8) dX3_codeBefore_114 (by decide) ?_
                    exact ih _ (i + -1) (by omega) (by omega) (by rw [← ha, lgN_s (z := i) (by omega), show (i + -1 + 1 : Int) = i by omega]; (repeat' split) <;> first | rfl | omega | (congr 1; omega)) (by omega)
                  · refine X_iinc_4 C (by decide) rfl dX3_codeBefore_108 ?_
                    refine X_iinc_5 C (by decide) rfl dX3_codeBefore_111 ?_
                    refine X_goto C (tgt := 8) dX3_codeBefore_114 (by decide) ?_
                    exact ih _ (i + -1) (by omega) (by omega) (by rw [← ha, lgN_s (z := i) (by omega), show (i + -1 + 1 : Int) = i by omega]; (repeat' split) <;> first | rfl | omega | (congr 1; omega)) (by omega)
              · refine X_aload_n C rfl dX3_codeBefore_67 ?_
                refine Xg_X3_places C fl_X3_18 dX3_codeBefore_68 ?_
                refine X_iload C rfl dX3_codeBefore_71 ?_
                refine Xa_lplaces_ld C (by omega) (by omega) rfl dX3_codeBefore_73 ?_
                refine X_iload C rfl dX3_codeBefore_74 ?_
                refine X_icmp_ge C (tgt := 85) dX3_codeBefore_76 (by decide) ⟨by omega, by omega⟩ ⟨by omega, by omega⟩ (fun c_76 => ?_) (fun c_76 => ?_)
                · refine X_aload_n C rfl dX3_codeBefore_85 ?_
                  refine Xg_X3_kinds C fl_X3_9 dX3_codeBefore_86 ?_
                  refine X_iload C rfl dX3_codeBefore_89 ?_
                  refine Xa_lkinds_ld C (by omega) (by omega) rfl dX3_codeBefore_91 ?_
                  refine X_iconst C dX3_codeBefore_92 ?_
                  refine X_icmp_ne C (tgt := 111) dX3_codeBefore_93 (by decide) ⟨by omega, by omega⟩ ⟨by omega, by omega⟩ (fun c_93 => ?_) (fun c_93 => ?_)
                  · refine X_iinc_5 C (by decide) rfl dX3_codeBefore_111 ?_
                    refine X_goto C (tgt := 8) dX3_codeBefore_114 (by decide) ?_
                    exact ih _ (i + -1) (by omega) (by omega) (by rw [← ha, lgN_s (z := i) (by omega), show (i + -1 + 1 : Int) = i by omega]; (repeat' split) <;> first | rfl | omega | (congr 1; omega)) (by omega)
                  · refine X_aload_n C rfl dX3_codeBefore_96 ?_
                    refine Xg_X3_places C fl_X3_18 dX3_codeBefore_97 ?_
                    refine X_iload C rfl dX3_codeBefore_100 ?_
                    refine Xa_lplaces_ld C (by omega) (by omega) rfl dX3_codeBefore_102 ?_
                    refine X_iload C rfl dX3_codeBefore_103 ?_
                    refine X_icmp_gt C (tgt := 111) dX3_codeBefore_105 (by decide) ⟨by omega, by omega⟩ ⟨by omega, by omega⟩ (fun c_105 => ?_) (fun c_105 => ?_)
                    · refine X_iinc_5 C (by decide) rfl dX3_codeBefore_111 ?_
                      refine X_goto C (tgt := 8) dX3_codeBefore_114 (by decide) ?_
                      exact ih _ (i + -1) (by omega) (by omega) (by rw [← ha, lgN_s (z := i) (by omega), show (i + -1 + 1 : Int) = i by omega]; (repeat' split) <;> first | rfl | omega | (congr 1; omega)) (by omega)
                    · refine X_iinc_4 C (by decide) rfl dX3_codeBefore_108 ?_
                      refine X_iinc_5 C (by decide) rfl dX3_codeBefore_111 ?_
                      refine X_goto C (tgt := 8) dX3_codeBefore_114 (by decide) ?_
                      exact ih _ (i + -1) (by omega) (by omega) (by rw [← ha, lgN_s (z := i) (by omega), show (i + -1 + 1 : Int) = i by omega]; (repeat' split) <;> first | rfl | omega | (congr 1; omega)) (by omega)
                · refine X_iinc_4 C (by decide) rfl dX3_codeBefore_79 ?_
                  refine X_goto C (tgt := 111) dX3_codeBefore_82 (by decide) ?_
                  refine X_iinc_5 C (by decide) rfl dX3_codeBefore_111 ?_
                  refine X_goto C (tgt := 8) dX3_codeBefore_114 (by decide) ?_
                  exact ih _ (i + -1) (by omega) (by omega) (by rw [← ha, lgN_s (z := i) (by omega), show (i + -1 + 1 : Int) = i by omega]; (repeat' split) <;> first | rfl | omega | (congr 1; omega)) (by omega)
            · refine X_aload_n C rfl dX3_codeBefore_49 ?_
              refine Xg_X3_codes C fl_X3_21 dX3_codeBefore_50 ?_
              refine X_iload C rfl dX3_codeBefore_53 ?_
              refine Xa_lcodes_ld C (by omega) (by omega) rfl dX3_codeBefore_55 ?_
              exact X_ireturn C M rfl (by decide) (by decide) dX3_codeBefore_56 ⟨rI (by rw [← ha, lgN_s (z := i) (by omega)]; (repeat' split) <;> first | rfl | omega), rfl, rfl⟩
        · refine X_goto C (tgt := 111) dX3_codeBefore_24 (by decide) ?_
          refine X_iinc_5 C (by decide) rfl dX3_codeBefore_111 ?_
          refine X_goto C (tgt := 8) dX3_codeBefore_114 (by decide) ?_
          exact ih _ (i + -1) (by omega) (by omega) (by rw [← ha, lgN_s (z := i) (by omega), show (i + -1 + 1 : Int) = i by omega]; (repeat' split) <;> first | rfl | omega | (congr 1; omega)) (by omega)
  exact L8 513 p (e - 1) (by omega) (by omega) (by rw [show e - 1 + 1 = e by omega]) (by omega)
set_option maxRecDepth 100000 in
set_option maxHeartbeats 4000000 in
theorem c_X3_codeOnSheet {lc : Launch} (hlc : lc.stackTraces = false) {D : va_G} {Y : Nat → ClassId} {A : Nat → Prop} {τ σ : xS} {ρ : xG} {ad : xL} {n d s k : Int} (I : xI n τ) (hd : 0 ≤ d ∧ d < τ 30 0 0) (hpv : τ 3 d 0 ≠ -1) (hs : 0 ≤ s ∧ s < shT τ d) (hk : 0 ≤ k ∧ k < 32) : Ct lc yX3_codeOnSheet cX3_codeOnSheet 8 (some .int) (rmL 1 0 0) D Y A ad (jG Y τ σ ρ ad) [.ref (ad 4 0), .int (iI d), .int (iI s), .int (iI k)] (pE (some (.int (iI (cOn τ d s k)))) ad (jG Y τ σ ρ ad)) (pF) := by
  refine Ct_of hlc (by decide +kernel) rfl rfl (own := RX3) (nm := "codeOnSheet") (l0 := [some (.ref (ad 4 0)), some (.int (iI d)), some (.int (iI s)), some (.int (iI k)), none, none, none, none]) rfl (Nat.le_of_ble_eq_true rfl) (fun κ C M => ?_)
  have In := I.n0
  have Ind := I.nd
  have k1 := I.lg
  have k2 := I.sz (2 * d + 1) 0
  have k5 := I.sb d
  obtain ⟨hb, l2, l3, l4⟩ := I.li
  obtain ⟨e, e0, e1, e2, e3, e4, e5, e6⟩ := l3 d hd.1 hd.2 hpv
  have kp := pg_b (S := shT τ d) (s := s) (q := k / 8) (by omega) (by omega) (by omega) (by omega)
  refine X_aload_n C rfl dX3_codeOnSheet_0 ?_
  refine X_iload_n C rfl dX3_codeOnSheet_1 ?_
  refine X_callVE_1 C (c_X3_lastSignature C.hlc hb (by omega) (by omega) ⟨e0, e1⟩ ⟨e2, e3⟩ e4) cv_X3_32 (jG_4 rfl) ⟨_, _, rfl⟩ rfl rfl dX3_codeOnSheet_2 ?_
  refine X_istore_4 C (by decide) rfl dX3_codeOnSheet_5 ?_
  refine X_aload_n C rfl dX3_codeOnSheet_7 ?_
  refine X_iload C rfl dX3_codeOnSheet_8 ?_
  refine X_iload_n C rfl dX3_codeOnSheet_10 ?_
  refine X_callVE_2 C (c_X3_charactersBefore C.hlc hb (by omega) (by omega) (by omega)) cv_X3_36 (jG_4 rfl) ⟨_, _, rfl⟩ rfl rfl dX3_codeOnSheet_11 ?_
  rw [e5]
  refine X_istore_5 C (by decide) rfl dX3_codeOnSheet_14 ?_
  refine X_iload C rfl dX3_codeOnSheet_16 ?_
  refine X_callSE_1 C (c_X2_sheetCount C.hlc (by omega) (by omega)) cs_X3_40 rfl rfl dX3_codeOnSheet_18 ?_
  rw [show shC (τ 1 (2 * d + 1) 0) = shT τ d from rfl]
  refine X_iload_n C rfl dX3_codeOnSheet_21 ?_
  refine X_iload_n C rfl dX3_codeOnSheet_22 ?_
  refine X_bipush C ⟨by decide, by decide⟩ dX3_codeOnSheet_23 ?_
  refine X_idiv C ⟨by omega, by omega⟩ (by omega) ⟨by omega, by omega⟩ (by omega) dX3_codeOnSheet_25 ?_
  refine X_callSE_3 C (c_X2_pageAt C.hlc (by omega) (by omega) (by omega)) cs_X3_45 rfl rfl dX3_codeOnSheet_26 ?_
  refine X_istore_6 C (by decide) rfl dX3_codeOnSheet_29 ?_
  refine X_bipush C ⟨by decide, by decide⟩ dX3_codeOnSheet_31 ?_
  refine X_iload C rfl dX3_codeOnSheet_33 ?_
  refine X_imul C dX3_codeOnSheet_35 ?_
  refine X_iload_n C rfl dX3_codeOnSheet_36 ?_
  refine X_bipush C ⟨by decide, by decide⟩ dX3_codeOnSheet_37 ?_
  refine X_irem C ⟨by omega, by omega⟩ (by omega) ⟨by omega, by omega⟩ (by omega) dX3_codeOnSheet_39 ?_
  refine X_iadd C dX3_codeOnSheet_40 ?_
  refine X_istore_7 C (by decide) rfl dX3_codeOnSheet_41 ?_
  refine X_iload C rfl dX3_codeOnSheet_43 ?_
  refine X_if_lt C (tgt := 55) dX3_codeOnSheet_45 (by decide) ⟨by omega, by omega⟩ (fun c_45 => ?_) (fun c_45 => ?_)
  · refine X_iconst C dX3_codeOnSheet_55 ?_
    exact X_ireturn C M rfl (by decide) (by decide) dX3_codeOnSheet_56 ⟨rI (by unfold cOn tAt; rw [if_neg (by omega)]), rfl, rfl⟩
  · refine X_iload C rfl dX3_codeOnSheet_48 ?_
    refine X_iload C rfl dX3_codeOnSheet_50 ?_
    refine X_icmp_lt C (tgt := 57) dX3_codeOnSheet_52 (by decide) ⟨by omega, by omega⟩ ⟨by omega, by omega⟩ (fun c_52 => ?_) (fun c_52 => ?_)
    · refine X_aload_n C rfl dX3_codeOnSheet_57 ?_
      refine X_iload C rfl dX3_codeOnSheet_58 ?_
      refine X_iload_n C rfl dX3_codeOnSheet_60 ?_
      refine X_iload C rfl dX3_codeOnSheet_61 ?_
      refine X_callVE_3 C (c_X3_codeBefore C.hlc hb (by omega) (by omega) (by omega) (by omega)) cv_X3_49 (jG_4 rfl) ⟨_, _, rfl⟩ rfl rfl dX3_codeOnSheet_63 ?_
      exact X_ireturn C M rfl (by decide) (by decide) dX3_codeOnSheet_66 ⟨rI (by rw [e6 _ (by omega) (by omega)]; unfold cOn tAt; rw [if_pos (by omega)]), rfl, rfl⟩
    · refine X_iconst C dX3_codeOnSheet_55 ?_
      exact X_ireturn C M rfl (by decide) (by decide) dX3_codeOnSheet_56 ⟨rI (by unfold cOn tAt; rw [if_neg (by omega)]), rfl, rfl⟩
set_option maxRecDepth 100000 in
set_option maxHeartbeats 4000000 in
theorem c_X8_shownByLog {lc : Launch} (hlc : lc.stackTraces = false) {D : va_G} {Y : Nat → ClassId} {A : Nat → Prop} {τ σ : xS} {ρ : xG} {ad : xL} {n z s k : Int} (I : xI n τ) (hz0 : rg z) (hz1 : rg s) (hz2 : rg k) : Ct lc yX8_shownByLog cX8_shownByLog 5 (some .int) (rmL 2 4 24) D Y A ad (jG Y τ σ ρ ad) [.ref (ad 0 0), .int (iI z), .int (iI s), .int (iI k)] (pC (kPag τ z s k 32 = 0) (some (.int (iI (cOn τ z s k)))) ad (jG Y τ σ ρ ad)) (pT (fun E => exn [nX, eS, eI] (kPag τ z s k 32) = some E) ad (jG Y τ σ ρ ad)) := by
  refine Ct_of hlc (by decide +kernel) rfl rfl (own := RX8) (nm := "shownByLog") (l0 := [some (.ref (ad 0 0)), some (.int (iI z)), some (.int (iI s)), some (.int (iI k)), none]) rfl (Nat.le_of_ble_eq_true rfl) (fun κ C M => ?_)
  have Ind := I.nd
  have Inc := I.nc
  have Ino := I.no
  have In := I.n0
  refine X_aload_n C rfl dX8_shownByLog_0 ?_
  refine X_iload_n C rfl dX8_shownByLog_1 ?_
  refine X_callVC_1 C M (c_X8_proofedDocumentOf C.hlc (by assumption) (by omega)) cv_X8_219 (jG_0 rfl) ⟨_, _, rfl⟩ rfl rfl dX8_shownByLog_2 (fun E h => ⟨(h.elim (fun h => by obtain ⟨rfl, h⟩ := h; rw [show kPag τ z s k 32 = 1 from by unfold kPag; (repeat' split) <;> omega]; rfl) (fun h => by obtain ⟨rfl, h, h2⟩ := h; rw [show kPag τ z s k 32 = 2 from by unfold kPag; (repeat' split) <;> omega]; rfl)), rfl, rfl⟩) (fun h_2 => ?_)
  refine X_astore_4 C (by decide) rfl dX8_shownByLog_5 ?_
  refine X_aload C rfl dX8_shownByLog_7 ?_
  refine X_iload_n C rfl dX8_shownByLog_9 ?_
  refine X_callSC0_2 C M (c_X8_requireSheet C.hlc (by assumption) (by omega) (by omega)) cs_X8_222 rfl rfl dX8_shownByLog_10 (fun E h => ⟨by obtain ⟨rfl, h⟩ := h; rw [show kPag τ z s k 32 = 3 from by unfold kPag; (repeat' split) <;> omega]; rfl, rfl, rfl⟩) (fun h_10 => ?_)
  refine X_iload_n C rfl dX8_shownByLog_13 ?_
  refine X_callSC0_1 C M (c_X8_requireIndexOnSheet C.hlc (by omega)) cs_X8_233 rfl rfl dX8_shownByLog_14 (fun E h => ⟨by obtain ⟨rfl, h⟩ := h; rw [show kPag τ z s k 32 = 3 from by unfold kPag; (repeat' split) <;> omega]; rfl, rfl, rfl⟩) (fun h_14 => ?_)
  refine X_aload_n C rfl dX8_shownByLog_17 ?_
  refine Xg_X8_log C fl_X8_30 dX8_shownByLog_18 ?_
  refine X_iload_n C rfl dX8_shownByLog_21 ?_
  refine X_iload_n C rfl dX8_shownByLog_22 ?_
  refine X_iload_n C rfl dX8_shownByLog_23 ?_
  refine X_callVE_3 C (c_X3_codeOnSheet C.hlc (by assumption) (by omega) (by omega) (by omega) (by omega)) cv_X8_240 (jG_4 rfl) ⟨_, _, rfl⟩ rfl rfl dX8_shownByLog_24 ?_
  exact X_ireturn C M rfl (by decide) (by decide) dX8_shownByLog_27 ⟨by unfold kPag; (repeat' split) <;> omega, rfl, rfl, rfl⟩
