set_option maxRecDepth 100000 in
set_option maxHeartbeats 4000000 in
theorem c_X9_asks {lc : Launch} (hlc : lc.stackTraces = false) {D : va_G} {Y : Nat → ClassId} {A : Nat → Prop} {τ σ : xS} {ρ : xG} {ad : xL} {n z : Int} (I : xI n σ) (hz : rg z) : Ct lc yX9_asks cX9_asks 2 (some .boolean) (rmL 2 0 0) D Y A ad (jG Y τ σ ρ ad) [.ref (ad 20 0), .int (iI z)] (pE (some (.int (iI (bI (kDoc σ z = 0))))) ad (jG Y τ (up σ 40 0 0 (kDoc σ z)) ρ ad)) (pF) := by
  refine Ct_of hlc (by decide +kernel) rfl rfl (own := RX9) (nm := "asks") (l0 := [some (.ref (ad 20 0)), some (.int (iI z))]) rfl (Nat.le_of_ble_eq_true rfl) (fun κ C M => ?_)
  have Ind := I.nd
  have Inc := I.nc
  have Ino := I.no
  have In := I.n0
  refine X_aload_n C rfl dX9_asks_0 ?_
  refine X_aload_n C rfl dX9_asks_1 ?_
  refine X_iload_n C rfl dX9_asks_2 ?_
  refine X_callVE_1 C (c_X9_isDocument C.hlc (by assumption) (by omega)) cv_X9_105 jG_20 ⟨_, _, rfl⟩ rfl rfl dX9_asks_3 ?_
  refine X_if_eqB C (tgt := 13) dX9_asks_6 (by decide) (fun c_6 => ?_) (fun c_6 => ?_)
  · refine X_iconst C dX9_asks_13 ?_
    refine Xp_X9_thrown C fw_X9_78 dX9_asks_14 ?_
    refine X_aload_n C rfl dX9_asks_17 ?_
    refine Xg_X9_thrown C up_s fl_X9_78 dX9_asks_18 ?_
    refine X_if_ne C (tgt := 28) dX9_asks_21 (by decide) ⟨by omega, by omega⟩ (fun c_21 => ?_) (fun c_21 => ?_)
    rotate_left
    · exfalso; omega
    refine X_iconst C dX9_asks_28 ?_
    exact X_ireturn C M rfl (by decide) (by decide) dX9_asks_29 ⟨(by first | exact rB1 (by unfold kDoc; (repeat' split) <;> omega) | exact rB0 (by unfold kDoc; (repeat' split) <;> omega)), rfl, (by first | exact congrArg (fun v9 => jG Y τ (up σ 40 0 0 v9) ρ ad) (show (0 : Int) = kDoc σ z from by unfold kDoc; (repeat' split) <;> omega) | exact congrArg (fun v9 => jG Y τ (up σ 40 0 0 v9) ρ ad) (show (1 : Int) = kDoc σ z from by unfold kDoc; (repeat' split) <;> omega) | exact congrArg (fun v9 => jG Y τ (up σ 40 0 0 v9) ρ ad) (show (2 : Int) = kDoc σ z from by unfold kDoc; (repeat' split) <;> omega))⟩
  · refine X_iconst C dX9_asks_9 ?_
    refine X_goto C (tgt := 14) dX9_asks_10 (by decide) ?_
    refine Xp_X9_thrown C fw_X9_78 dX9_asks_14 ?_
    refine X_aload_n C rfl dX9_asks_17 ?_
    refine Xg_X9_thrown C up_s fl_X9_78 dX9_asks_18 ?_
    refine X_if_ne C (tgt := 28) dX9_asks_21 (by decide) ⟨by omega, by omega⟩ (fun c_21 => ?_) (fun c_21 => ?_)
    · exfalso; omega
    refine X_iconst C dX9_asks_24 ?_
    refine X_goto C (tgt := 29) dX9_asks_25 (by decide) ?_
    exact X_ireturn C M rfl (by decide) (by decide) dX9_asks_29 ⟨(by first | exact rB1 (by unfold kDoc; (repeat' split) <;> omega) | exact rB0 (by unfold kDoc; (repeat' split) <;> omega)), rfl, (by first | exact congrArg (fun v9 => jG Y τ (up σ 40 0 0 v9) ρ ad) (show (0 : Int) = kDoc σ z from by unfold kDoc; (repeat' split) <;> omega) | exact congrArg (fun v9 => jG Y τ (up σ 40 0 0 v9) ρ ad) (show (1 : Int) = kDoc σ z from by unfold kDoc; (repeat' split) <;> omega) | exact congrArg (fun v9 => jG Y τ (up σ 40 0 0 v9) ρ ad) (show (2 : Int) = kDoc σ z from by unfold kDoc; (repeat' split) <;> omega))⟩
set_option maxRecDepth 100000 in
set_option maxHeartbeats 4000000 in
theorem c_X9_asksOrder {lc : Launch} (hlc : lc.stackTraces = false) {D : va_G} {Y : Nat → ClassId} {A : Nat → Prop} {τ σ : xS} {ρ : xG} {ad : xL} {n z : Int} (I : xI n σ) (hz : rg z) : Ct lc yX9_asksOrder cX9_asksOrder 2 (some .boolean) (rmL 2 0 0) D Y A ad (jG Y τ σ ρ ad) [.ref (ad 20 0), .int (iI z)] (pE (some (.int (iI (bI (kOdr σ z = 0))))) ad (jG Y τ (up σ 40 0 0 (kOdr σ z)) ρ ad)) (pF) := by
  refine Ct_of hlc (by decide +kernel) rfl rfl (own := RX9) (nm := "asksOrder") (l0 := [some (.ref (ad 20 0)), some (.int (iI z))]) rfl (Nat.le_of_ble_eq_true rfl) (fun κ C M => ?_)
  have Ind := I.nd
  have Inc := I.nc
  have Ino := I.no
  have In := I.n0
  refine X_aload_n C rfl dX9_asksOrder_0 ?_
  refine X_aload_n C rfl dX9_asksOrder_1 ?_
  refine X_iload_n C rfl dX9_asksOrder_2 ?_
  refine X_callVE_1 C (c_X9_isOrder C.hlc (by assumption) (by omega)) cv_X9_189 jG_20 ⟨_, _, rfl⟩ rfl rfl dX9_asksOrder_3 ?_
  refine X_if_eqB C (tgt := 13) dX9_asksOrder_6 (by decide) (fun c_6 => ?_) (fun c_6 => ?_)
  · refine X_iconst C dX9_asksOrder_13 ?_
    refine Xp_X9_thrown C fw_X9_78 dX9_asksOrder_14 ?_
    refine X_aload_n C rfl dX9_asksOrder_17 ?_
    refine Xg_X9_thrown C up_s fl_X9_78 dX9_asksOrder_18 ?_
    refine X_if_ne C (tgt := 28) dX9_asksOrder_21 (by decide) ⟨by omega, by omega⟩ (fun c_21 => ?_) (fun c_21 => ?_)
    rotate_left
    · exfalso; omega
    refine X_iconst C dX9_asksOrder_28 ?_
    exact X_ireturn C M rfl (by decide) (by decide) dX9_asksOrder_29 ⟨(by first | exact rB1 (by unfold kOdr; (repeat' split) <;> omega) | exact rB0 (by unfold kOdr; (repeat' split) <;> omega)), rfl, (by first | exact congrArg (fun v9 => jG Y τ (up σ 40 0 0 v9) ρ ad) (show (0 : Int) = kOdr σ z from by unfold kOdr; (repeat' split) <;> omega) | exact congrArg (fun v9 => jG Y τ (up σ 40 0 0 v9) ρ ad) (show (1 : Int) = kOdr σ z from by unfold kOdr; (repeat' split) <;> omega) | exact congrArg (fun v9 => jG Y τ (up σ 40 0 0 v9) ρ ad) (show (2 : Int) = kOdr σ z from by unfold kOdr; (repeat' split) <;> omega))⟩
  · refine X_iconst C dX9_asksOrder_9 ?_
    refine X_goto C (tgt := 14) dX9_asksOrder_10 (by decide) ?_
    refine Xp_X9_thrown C fw_X9_78 dX9_asksOrder_14 ?_
    refine X_aload_n C rfl dX9_asksOrder_17 ?_
    refine Xg_X9_thrown C up_s fl_X9_78 dX9_asksOrder_18 ?_
    refine X_if_ne C (tgt := 28) dX9_asksOrder_21 (by decide) ⟨by omega, by omega⟩ (fun c_21 => ?_) (fun c_21 => ?_)
    · exfalso; omega
    refine X_iconst C dX9_asksOrder_24 ?_
    refine X_goto C (tgt := 29) dX9_asksOrder_25 (by decide) ?_
    exact X_ireturn C M rfl (by decide) (by decide) dX9_asksOrder_29 ⟨(by first | exact rB1 (by unfold kOdr; (repeat' split) <;> omega) | exact rB0 (by unfold kOdr; (repeat' split) <;> omega)), rfl, (by first | exact congrArg (fun v9 => jG Y τ (up σ 40 0 0 v9) ρ ad) (show (0 : Int) = kOdr σ z from by unfold kOdr; (repeat' split) <;> omega) | exact congrArg (fun v9 => jG Y τ (up σ 40 0 0 v9) ρ ad) (show (1 : Int) = kOdr σ z from by unfold kOdr; (repeat' split) <;> omega) | exact congrArg (fun v9 => jG Y τ (up σ 40 0 0 v9) ρ ad) (show (2 : Int) = kOdr σ z from by unfold kOdr; (repeat' split) <;> omega))⟩
set_option maxRecDepth 100000 in
set_option maxHeartbeats 4000000 in
theorem c_X9_asksProof {lc : Launch} (hlc : lc.stackTraces = false) {D : va_G} {Y : Nat → ClassId} {A : Nat → Prop} {τ σ : xS} {ρ : xG} {ad : xL} {n z : Int} (I : xI n σ) (hz : rg z) : Ct lc yX9_asksProof cX9_asksProof 2 (some .boolean) (rmL 2 0 0) D Y A ad (jG Y τ σ ρ ad) [.ref (ad 20 0), .int (iI z)] (pE (some (.int (iI (bI (kPrf σ z = 0))))) ad (jG Y τ (up σ 40 0 0 (kPrf σ z)) ρ ad)) (pF) := by
  refine Ct_of hlc (by decide +kernel) rfl rfl (own := RX9) (nm := "asksProof") (l0 := [some (.ref (ad 20 0)), some (.int (iI z))]) rfl (Nat.le_of_ble_eq_true rfl) (fun κ C M => ?_)
  have Ind := I.nd
  have Inc := I.nc
  have Ino := I.no
  have In := I.n0
  have k1 := I.pv z 0
  refine X_aload_n C rfl dX9_asksProof_0 ?_
  refine X_aload_n C rfl dX9_asksProof_1 ?_
  refine X_iload_n C rfl dX9_asksProof_2 ?_
  refine X_callVE_1 C (c_X9_isDocument C.hlc (by assumption) (by omega)) cv_X9_105 jG_20 ⟨_, _, rfl⟩ rfl rfl dX9_asksProof_3 ?_
  refine X_if_neB C (tgt := 13) dX9_asksProof_6 (by decide) (fun c_6 => ?_) (fun c_6 => ?_)
  · refine X_aload_n C rfl dX9_asksProof_13 ?_
    refine Xg_X9_proofVersions C fl_X9_28 dX9_asksProof_14 ?_
    refine X_iload_n C rfl dX9_asksProof_17 ?_
    refine Xm_proofVersions_ld C (by omega) (by omega) rfl dX9_asksProof_18 ?_
    refine X_iconst C dX9_asksProof_19 ?_
    refine X_icmp_ne C (tgt := 27) dX9_asksProof_20 (by decide) ⟨by omega, by omega⟩ ⟨by omega, by omega⟩ (fun c_20 => ?_) (fun c_20 => ?_)
    · refine X_iconst C dX9_asksProof_27 ?_
      refine Xp_X9_thrown C fw_X9_78 dX9_asksProof_28 ?_
      refine X_aload_n C rfl dX9_asksProof_31 ?_
      refine Xg_X9_thrown C up_s fl_X9_78 dX9_asksProof_32 ?_
      refine X_if_ne C (tgt := 42) dX9_asksProof_35 (by decide) ⟨by omega, by omega⟩ (fun c_35 => ?_) (fun c_35 => ?_)
      · exfalso; omega
      refine X_iconst C dX9_asksProof_38 ?_
      refine X_goto C (tgt := 43) dX9_asksProof_39 (by decide) ?_
      exact X_ireturn C M rfl (by decide) (by decide) dX9_asksProof_43 ⟨(by first | exact rB1 (by unfold kPrf; (repeat' split) <;> omega) | exact rB0 (by unfold kPrf; (repeat' split) <;> omega)), rfl, (by first | exact congrArg (fun v9 => jG Y τ (up σ 40 0 0 v9) ρ ad) (show (0 : Int) = kPrf σ z from by unfold kPrf; (repeat' split) <;> omega) | exact congrArg (fun v9 => jG Y τ (up σ 40 0 0 v9) ρ ad) (show (1 : Int) = kPrf σ z from by unfold kPrf; (repeat' split) <;> omega) | exact congrArg (fun v9 => jG Y τ (up σ 40 0 0 v9) ρ ad) (show (2 : Int) = kPrf σ z from by unfold kPrf; (repeat' split) <;> omega))⟩
    · refine X_iconst C dX9_asksProof_23 ?_
      refine X_goto C (tgt := 28) dX9_asksProof_24 (by decide) ?_
      refine Xp_X9_thrown C fw_X9_78 dX9_asksProof_28 ?_
      refine X_aload_n C rfl dX9_asksProof_31 ?_
      refine Xg_X9_thrown C up_s fl_X9_78 dX9_asksProof_32 ?_
      refine X_if_ne C (tgt := 42) dX9_asksProof_35 (by decide) ⟨by omega, by omega⟩ (fun c_35 => ?_) (fun c_35 => ?_)
      rotate_left
      · exfalso; omega
      refine X_iconst C dX9_asksProof_42 ?_
      exact X_ireturn C M rfl (by decide) (by decide) dX9_asksProof_43 ⟨(by first | exact rB1 (by unfold kPrf; (repeat' split) <;> omega) | exact rB0 (by unfold kPrf; (repeat' split) <;> omega)), rfl, (by first | exact congrArg (fun v9 => jG Y τ (up σ 40 0 0 v9) ρ ad) (show (0 : Int) = kPrf σ z from by unfold kPrf; (repeat' split) <;> omega) | exact congrArg (fun v9 => jG Y τ (up σ 40 0 0 v9) ρ ad) (show (1 : Int) = kPrf σ z from by unfold kPrf; (repeat' split) <;> omega) | exact congrArg (fun v9 => jG Y τ (up σ 40 0 0 v9) ρ ad) (show (2 : Int) = kPrf σ z from by unfold kPrf; (repeat' split) <;> omega))⟩
  · refine X_iconst C dX9_asksProof_9 ?_
    refine X_goto C (tgt := 28) dX9_asksProof_10 (by decide) ?_
    refine Xp_X9_thrown C fw_X9_78 dX9_asksProof_28 ?_
    refine X_aload_n C rfl dX9_asksProof_31 ?_
    refine Xg_X9_thrown C up_s fl_X9_78 dX9_asksProof_32 ?_
    refine X_if_ne C (tgt := 42) dX9_asksProof_35 (by decide) ⟨by omega, by omega⟩ (fun c_35 => ?_) (fun c_35 => ?_)
    rotate_left
    · exfalso; omega
    refine X_iconst C dX9_asksProof_42 ?_
    exact X_ireturn C M rfl (by decide) (by decide) dX9_asksProof_43 ⟨(by first | exact rB1 (by unfold kPrf; (repeat' split) <;> omega) | exact rB0 (by unfold kPrf; (repeat' split) <;> omega)), rfl, (by first | exact congrArg (fun v9 => jG Y τ (up σ 40 0 0 v9) ρ ad) (show (0 : Int) = kPrf σ z from by unfold kPrf; (repeat' split) <;> omega) | exact congrArg (fun v9 => jG Y τ (up σ 40 0 0 v9) ρ ad) (show (1 : Int) = kPrf σ z from by unfold kPrf; (repeat' split) <;> omega) | exact congrArg (fun v9 => jG Y τ (up σ 40 0 0 v9) ρ ad) (show (2 : Int) = kPrf σ z from by unfold kPrf; (repeat' split) <;> omega))⟩
set_option maxRecDepth 100000 in
set_option maxHeartbeats 4000000 in
theorem c_X9_stateNow {lc : Launch} (hlc : lc.stackTraces = false) {D : va_G} {Y : Nat → ClassId} {A : Nat → Prop} {τ σ : xS} {ρ : xG} {ad : xL} {n o s : Int} (I : xI n σ) (ho : 0 ≤ o ∧ o < σ 32 0 0) (hs : 0 ≤ s ∧ s < shT σ (σ 9 o 0)) : Ct lc yX9_stateNow cX9_stateNow 5 (some .char) (rmL 3 0 0) D Y A ad (jG Y τ σ ρ ad) [.ref (ad 20 0), .int (iI o), .int (iI s)] (pE (some (.int (iI (stA σ o s)))) ad (jG Y τ σ ρ ad)) (pF) := by
  refine Ct_of hlc (by decide +kernel) rfl rfl (own := RX9) (nm := "stateNow") (l0 := [some (.ref (ad 20 0)), some (.int (iI o)), some (.int (iI s)), none, none]) rfl (Nat.le_of_ble_eq_true rfl) (fun κ C M => ?_)
  have Ind := I.nd
  have Inc := I.nc
  have Ino := I.no
  have In := I.n0
  have k3 := I.od o (by omega) (by omega)
  have k5 := I.sb (σ 9 o 0)
  have k1 := I.po
  have k2 := I.ps
  have k6 := I.pr (3 * o + s) 0
  refine X_aload_n C rfl dX9_stateNow_0 ?_
  refine Xg_X9_pressOrder C rfl fl_X9_71 dX9_stateNow_1 ?_
  refine X_iload_n C rfl dX9_stateNow_4 ?_
  refine X_icmp_ne C (tgt := 19) dX9_stateNow_5 (by decide) ⟨by omega, by omega⟩ ⟨by omega, by omega⟩ (fun c_5 => ?_) (fun c_5 => ?_)
  · refine X_aload_n C rfl dX9_stateNow_19 ?_
    refine Xg_X9_printings C fl_X9_59 dX9_stateNow_20 ?_
    refine X_iconst C dX9_stateNow_23 ?_
    refine X_iload_n C rfl dX9_stateNow_24 ?_
    refine X_imul C dX9_stateNow_25 ?_
    refine X_iload_n C rfl dX9_stateNow_26 ?_
    refine X_iadd C dX9_stateNow_27 ?_
    refine Xm_printings_ld C (by omega) (by omega) rfl dX9_stateNow_28 ?_
    refine X_if_ne C (tgt := 35) dX9_stateNow_29 (by decide) ⟨by omega, by omega⟩ (fun c_29 => ?_) (fun c_29 => ?_)
    · refine X_iconst C dX9_stateNow_35 ?_
      refine X_istore_3 C (by decide) rfl dX9_stateNow_36 ?_
      refine X_iconst C dX9_stateNow_37 ?_
      refine X_istore_4 C (by decide) rfl dX9_stateNow_38 ?_
      have L40 : ∀ (n9 : Nat) (f x : Int), (0 ≤ x ∧ x ≤ 32) → (f = 0 ∨ f = 1) → (f = 1 ↔ (∀ k, 0 ≤ k → k < x → σ 16 (3 * o + s) k = cOn σ (σ 9 o 0) s k)) → 32 - x < (n9 : Int) → X κ D A 5 0 0 40 ([some (.ref (ad 20 0)), some (.int (iI o)), some (.int (iI s)), some (.int (iI f)), some (.int (iI x))]) ([]) ad (jG Y τ σ ρ ad) := by
        intro n9
        induction n9 with
        | zero => intro f x  hx hf hq hm; exfalso; omega
        | succ n9 ih =>
          intro f x  hx hf hq hm
          refine X_iload C rfl dX9_stateNow_40 ?_
          refine X_bipush C ⟨by decide, by decide⟩ dX9_stateNow_42 ?_
          refine X_icmp_ge C (tgt := 95) dX9_stateNow_44 (by decide) ⟨by omega, by omega⟩ ⟨by omega, by omega⟩ (fun c_44 => ?_) (fun c_44 => ?_)
          · obtain rfl : x = 32 := by omega
            refine X_iload_n C rfl dX9_stateNow_95 ?_
            refine X_if_eq C (tgt := 104) dX9_stateNow_96 (by decide) ⟨by omega, by omega⟩ (fun c_96 => ?_) (fun c_96 => ?_)
            · refine X_bipush C ⟨by decide, by decide⟩ dX9_stateNow_104 ?_
              exact X_ireturn C M (narC (by omega) (by omega)) (by decide) (by decide) dX9_stateNow_106 ⟨rI (by unfold stA smA; rw [if_neg (by omega), if_neg c_29, pk_f (fun w => absurd (hq.mpr (fun k a b => w k a (by omega))) (by omega))]), rfl, rfl⟩
            · refine X_bipush C ⟨by decide, by decide⟩ dX9_stateNow_99 ?_
              refine X_goto C (tgt := 106) dX9_stateNow_101 (by decide) ?_
              exact X_ireturn C M (narC (by omega) (by omega)) (by decide) (by decide) dX9_stateNow_106 ⟨rI (by unfold stA smA; rw [if_neg (by omega), if_neg c_29, pk_t (fun k a b => hq.mp (by omega) k a (by omega))]), rfl, rfl⟩
          · refine X_iload_n C rfl dX9_stateNow_47 ?_
            refine X_if_eq C (tgt := 87) dX9_stateNow_48 (by decide) ⟨by omega, by omega⟩ (fun c_48 => ?_) (fun c_48 => ?_)
            · refine X_iconst C dX9_stateNow_87 ?_
              refine X_istore_3 C (by decide) rfl dX9_stateNow_88 ?_
              refine X_iinc_4 C (by decide) rfl dX9_stateNow_89 ?_
              refine X_goto C (tgt := 40) dX9_stateNow_92 (by decide) ?_
              exact ih 0 (x + 1) (by omega) (Or.inl rfl) ⟨fun w => absurd w (by omega), fun w => absurd (hq.mpr (fun k a b => w k a (by omega))) (by omega)⟩ (by omega)
            · refine X_aload_n C rfl dX9_stateNow_51 ?_
              refine Xg_X9_printed C fl_X9_65 dX9_stateNow_52 ?_
              refine X_bipush C ⟨by decide, by decide⟩ dX9_stateNow_55 ?_
              refine X_iconst C dX9_stateNow_57 ?_
              refine X_iload_n C rfl dX9_stateNow_58 ?_
              refine X_imul C dX9_stateNow_59 ?_
              refine X_iload_n C rfl dX9_stateNow_60 ?_
              refine X_iadd C dX9_stateNow_61 ?_
              refine X_imul C dX9_stateNow_62 ?_
              refine X_iload C rfl dX9_stateNow_63 ?_
              refine X_iadd C dX9_stateNow_65 ?_
              have k7 := I.pd (3 * o + s) x
              refine Xm_printed_ld C (3 * o + s) x (by omega) (by omega) ⟨by omega, by omega⟩ (by omega) rfl dX9_stateNow_66 ?_
              refine X_aload_n C rfl dX9_stateNow_67 ?_
              refine X_aload_n C rfl dX9_stateNow_68 ?_
              refine Xg_X9_orderOf C fl_X9_44 dX9_stateNow_69 ?_
              refine X_iload_n C rfl dX9_stateNow_72 ?_
              refine Xm_orderOf_ld C (by omega) (by omega) rfl dX9_stateNow_73 ?_
              refine X_iload_n C rfl dX9_stateNow_74 ?_
              refine X_iload C rfl dX9_stateNow_75 ?_
              refine X_callVE_3 C (c_X9_codeOn C.hlc (by assumption) (by omega) (by omega) (by omega)) cv_X9_146 jG_20 ⟨_, _, rfl⟩ rfl rfl dX9_stateNow_77 ?_
              have k8 := cOn_b I.cd (σ 9 o 0) s x
              refine X_icmp_ne C (tgt := 87) dX9_stateNow_80 (by decide) ⟨by omega, by omega⟩ ⟨by omega, by omega⟩ (fun c_80 => ?_) (fun c_80 => ?_)
              · refine X_iconst C dX9_stateNow_87 ?_
                refine X_istore_3 C (by decide) rfl dX9_stateNow_88 ?_
                refine X_iinc_4 C (by decide) rfl dX9_stateNow_89 ?_
                refine X_goto C (tgt := 40) dX9_stateNow_92 (by decide) ?_
                exact ih 0 (x + 1) (by omega) (Or.inl rfl) ⟨fun w => absurd w (by omega), fun w => absurd (w x (by omega) (by omega)) c_80⟩ (by omega)
              · refine X_iconst C dX9_stateNow_83 ?_
                refine X_goto C (tgt := 88) dX9_stateNow_84 (by decide) ?_
                refine X_istore_3 C (by decide) rfl dX9_stateNow_88 ?_
                refine X_iinc_4 C (by decide) rfl dX9_stateNow_89 ?_
                refine X_goto C (tgt := 40) dX9_stateNow_92 (by decide) ?_
                exact ih 1 (x + 1) (by omega) (Or.inr rfl) ⟨fun _ k a b => (by by_cases e : k = x; subst e; exact c_80; exact hq.mp (by omega) k a (by omega)), fun _ => rfl⟩ (by omega)
      exact L40 33 1 0 (by omega) (Or.inr rfl) ⟨fun _ k a b => absurd b (by omega), fun _ => rfl⟩ (by omega)
    · refine X_bipush C ⟨by decide, by decide⟩ dX9_stateNow_32 ?_
      exact X_ireturn C M (narC (by omega) (by omega)) (by decide) (by decide) dX9_stateNow_34 ⟨rI (by unfold stA; rw [if_neg (by omega), if_pos (by omega)]), rfl, rfl⟩
  · refine X_aload_n C rfl dX9_stateNow_8 ?_
    refine Xg_X9_pressSheet C rfl fl_X9_172 dX9_stateNow_9 ?_
    refine X_iload_n C rfl dX9_stateNow_12 ?_
    refine X_icmp_ne C (tgt := 19) dX9_stateNow_13 (by decide) ⟨by omega, by omega⟩ ⟨by omega, by omega⟩ (fun c_13 => ?_) (fun c_13 => ?_)
    · refine X_aload_n C rfl dX9_stateNow_19 ?_
      refine Xg_X9_printings C fl_X9_59 dX9_stateNow_20 ?_
      refine X_iconst C dX9_stateNow_23 ?_
      refine X_iload_n C rfl dX9_stateNow_24 ?_
      refine X_imul C dX9_stateNow_25 ?_
      refine X_iload_n C rfl dX9_stateNow_26 ?_
      refine X_iadd C dX9_stateNow_27 ?_
      refine Xm_printings_ld C (by omega) (by omega) rfl dX9_stateNow_28 ?_
      refine X_if_ne C (tgt := 35) dX9_stateNow_29 (by decide) ⟨by omega, by omega⟩ (fun c_29 => ?_) (fun c_29 => ?_)
      · refine X_iconst C dX9_stateNow_35 ?_
        refine X_istore_3 C (by decide) rfl dX9_stateNow_36 ?_
        refine X_iconst C dX9_stateNow_37 ?_
        refine X_istore_4 C (by decide) rfl dX9_stateNow_38 ?_
        have L40 : ∀ (n9 : Nat) (f x : Int), (0 ≤ x ∧ x ≤ 32) → (f = 0 ∨ f = 1) → (f = 1 ↔ (∀ k, 0 ≤ k → k < x → σ 16 (3 * o + s) k = cOn σ (σ 9 o 0) s k)) → 32 - x < (n9 : Int) → X κ D A 5 0 0 40 ([some (.ref (ad 20 0)), some (.int (iI o)), some (.int (iI s)), some (.int (iI f)), some (.int (iI x))]) ([]) ad (jG Y τ σ ρ ad) := by
          intro n9
          induction n9 with
          | zero => intro f x  hx hf hq hm; exfalso; omega
          | succ n9 ih =>
            intro f x  hx hf hq hm
            refine X_iload C rfl dX9_stateNow_40 ?_
            refine X_bipush C ⟨by decide, by decide⟩ dX9_stateNow_42 ?_
            refine X_icmp_ge C (tgt := 95) dX9_stateNow_44 (by decide) ⟨by omega, by omega⟩ ⟨by omega, by omega⟩ (fun c_44 => ?_) (fun c_44 => ?_)
            · obtain rfl : x = 32 := by omega
              refine X_iload_n C rfl dX9_stateNow_95 ?_
              refine X_if_eq C (tgt := 104) dX9_stateNow_96 (by decide) ⟨by omega, by omega⟩ (fun c_96 => ?_) (fun c_96 => ?_)
              · refine X_bipush C ⟨by decide, by decide⟩ dX9_stateNow_104 ?_
                exact X_ireturn C M (narC (by omega) (by omega)) (by decide) (by decide) dX9_stateNow_106 ⟨rI (by unfold stA smA; rw [if_neg (by omega), if_neg c_29, pk_f (fun w => absurd (hq.mpr (fun k a b => w k a (by omega))) (by omega))]), rfl, rfl⟩
              · refine X_bipush C ⟨by decide, by decide⟩ dX9_stateNow_99 ?_
                refine X_goto C (tgt := 106) dX9_stateNow_101 (by decide) ?_
                exact X_ireturn C M (narC (by omega) (by omega)) (by decide) (by decide) dX9_stateNow_106 ⟨rI (by unfold stA smA; rw [if_neg (by omega), if_neg c_29, pk_t (fun k a b => hq.mp (by omega) k a (by omega))]), rfl, rfl⟩
            · refine X_iload_n C rfl dX9_stateNow_47 ?_
              refine X_if_eq C (tgt := 87) dX9_stateNow_48 (by decide) ⟨by omega, by omega⟩ (fun c_48 => ?_) (fun c_48 => ?_)
              · refine X_iconst C dX9_stateNow_87 ?_
                refine X_istore_3 C (by decide) rfl dX9_stateNow_88 ?_
                refine X_iinc_4 C (by decide) rfl dX9_stateNow_89 ?_
                refine X_goto C (tgt := 40) dX9_stateNow_92 (by decide) ?_
                exact ih 0 (x + 1) (by omega) (Or.inl rfl) ⟨fun w => absurd w (by omega), fun w => absurd (hq.mpr (fun k a b => w k a (by omega))) (by omega)⟩ (by omega)
              · refine X_aload_n C rfl dX9_stateNow_51 ?_
                refine Xg_X9_printed C fl_X9_65 dX9_stateNow_52 ?_
                refine X_bipush C ⟨by decide, by decide⟩ dX9_stateNow_55 ?_
                refine X_iconst C dX9_stateNow_57 ?_
                refine X_iload_n C rfl dX9_stateNow_58 ?_
                refine X_imul C dX9_stateNow_59 ?_
                refine X_iload_n C rfl dX9_stateNow_60 ?_
                refine X_iadd C dX9_stateNow_61 ?_
                refine X_imul C dX9_stateNow_62 ?_
                refine X_iload C rfl dX9_stateNow_63 ?_
                refine X_iadd C dX9_stateNow_65 ?_
                have k7 := I.pd (3 * o + s) x
                refine Xm_printed_ld C (3 * o + s) x (by omega) (by omega) ⟨by omega, by omega⟩ (by omega) rfl dX9_stateNow_66 ?_
                refine X_aload_n C rfl dX9_stateNow_67 ?_
                refine X_aload_n C rfl dX9_stateNow_68 ?_
                refine Xg_X9_orderOf C fl_X9_44 dX9_stateNow_69 ?_
                refine X_iload_n C rfl dX9_stateNow_72 ?_
                refine Xm_orderOf_ld C (by omega) (by omega) rfl dX9_stateNow_73 ?_
                refine X_iload_n C rfl dX9_stateNow_74 ?_
                refine X_iload C rfl dX9_stateNow_75 ?_
                refine X_callVE_3 C (c_X9_codeOn C.hlc (by assumption) (by omega) (by omega) (by omega)) cv_X9_146 jG_20 ⟨_, _, rfl⟩ rfl rfl dX9_stateNow_77 ?_
                have k8 := cOn_b I.cd (σ 9 o 0) s x
                refine X_icmp_ne C (tgt := 87) dX9_stateNow_80 (by decide) ⟨by omega, by omega⟩ ⟨by omega, by omega⟩ (fun c_80 => ?_) (fun c_80 => ?_)
                · refine X_iconst C dX9_stateNow_87 ?_
                  refine X_istore_3 C (by decide) rfl dX9_stateNow_88 ?_
                  refine X_iinc_4 C (by decide) rfl dX9_stateNow_89 ?_
                  refine X_goto C (tgt := 40) dX9_stateNow_92 (by decide) ?_
                  exact ih 0 (x + 1) (by omega) (Or.inl rfl) ⟨fun w => absurd w (by omega), fun w => absurd (w x (by omega) (by omega)) c_80⟩ (by omega)
                · refine X_iconst C dX9_stateNow_83 ?_
                  refine X_goto C (tgt := 88) dX9_stateNow_84 (by decide) ?_
                  refine X_istore_3 C (by decide) rfl dX9_stateNow_88 ?_
                  refine X_iinc_4 C (by decide) rfl dX9_stateNow_89 ?_
                  refine X_goto C (tgt := 40) dX9_stateNow_92 (by decide) ?_
                  exact ih 1 (x + 1) (by omega) (Or.inr rfl) ⟨fun _ k a b => (by by_cases e : k = x; subst e; exact c_80; exact hq.mp (by omega) k a (by omega)), fun _ => rfl⟩ (by omega)
        exact L40 33 1 0 (by omega) (Or.inr rfl) ⟨fun _ k a b => absurd b (by omega), fun _ => rfl⟩ (by omega)
      · refine X_bipush C ⟨by decide, by decide⟩ dX9_stateNow_32 ?_
        exact X_ireturn C M (narC (by omega) (by omega)) (by decide) (by decide) dX9_stateNow_34 ⟨rI (by unfold stA; rw [if_neg (by omega), if_pos (by omega)]), rfl, rfl⟩
    · refine X_bipush C ⟨by decide, by decide⟩ dX9_stateNow_16 ?_
      exact X_ireturn C M (narC (by omega) (by omega)) (by decide) (by decide) dX9_stateNow_18 ⟨rI (by unfold stA; rw [if_pos (by omega)]), rfl, rfl⟩
set_option maxRecDepth 100000 in
set_option maxHeartbeats 4000000 in
theorem c_X9_count {lc : Launch} (hlc : lc.stackTraces = false) {D : va_G} {Y : Nat → ClassId} {A : Nat → Prop} {τ σ : xS} {ρ : xG} {ad : xL} {n o c : Int} (I : xI n σ) (ho : 0 ≤ o ∧ o < σ 32 0 0) (hc : 0 ≤ c ∧ c ≤ 65535) : Ct lc yX9_count cX9_count 5 (some .int) (rmL 4 0 0) D Y A ad (jG Y τ σ ρ ad) [.ref (ad 20 0), .int (iI o), .int (iI c)] (pE (some (.int (iI (sumZ (fun s => bI (stA σ o s = c)) (shT σ (σ 9 o 0)))))) ad (jG Y τ σ ρ ad)) (pF) := by
  refine Ct_of hlc (by decide +kernel) rfl rfl (own := RX9) (nm := "count") (l0 := [some (.ref (ad 20 0)), some (.int (iI o)), some (.int (iI c)), none, none]) rfl (Nat.le_of_ble_eq_true rfl) (fun κ C M => ?_)
  have Ind := I.nd
  have Inc := I.nc
  have Ino := I.no
  have In := I.n0
  have k3 := I.od o (by omega) (by omega)
  have k5 := I.sb (σ 9 o 0)
  have k1 := I.po
  have k2 := I.ps
  refine X_iconst C dX9_count_0 ?_
  refine X_istore_3 C (by decide) rfl dX9_count_1 ?_
  refine X_iconst C dX9_count_2 ?_
  refine X_istore_4 C (by decide) rfl dX9_count_3 ?_
  have L5 : ∀ (n9 : Nat) (a s : Int), (0 ≤ s ∧ s ≤ shT σ (σ 9 o 0)) → (a = sumZ (fun s => bI (stA σ o s = c)) s) → shT σ (σ 9 o 0) - s < (n9 : Int) → X κ D A 5 0 0 5 ([some (.ref (ad 20 0)), some (.int (iI o)), some (.int (iI c)), some (.int (iI a)), some (.int (iI s))]) ([]) ad (jG Y τ σ ρ ad) := by
    intro n9
    induction n9 with
    | zero => intro a s  hs0 ha hm; exfalso; omega
    | succ n9 ih =>
      intro a s  hs0 ha hm
      refine X_iload C rfl dX9_count_5 ?_
      refine X_aload_n C rfl dX9_count_7 ?_
      refine X_iload_n C rfl dX9_count_8 ?_
      refine X_callVE_1 C (c_X9_sheetsIn C.hlc (by assumption) (by omega)) cv_X9_175 jG_20 ⟨_, _, rfl⟩ rfl rfl dX9_count_9 ?_
      refine X_icmp_ge C (tgt := 40) dX9_count_12 (by decide) ⟨by omega, by omega⟩ ⟨by omega, by omega⟩ (fun c_12 => ?_) (fun c_12 => ?_)
      · obtain rfl : s = shT σ (σ 9 o 0) := by omega
        refine X_iload_n C rfl dX9_count_40 ?_
        exact X_ireturn C M rfl (by decide) (by decide) dX9_count_41 ⟨rI ha, rfl, rfl⟩
      · refine X_iload_n C rfl dX9_count_15 ?_
        refine X_aload_n C rfl dX9_count_16 ?_
        refine X_iload_n C rfl dX9_count_17 ?_
        refine X_iload C rfl dX9_count_18 ?_
        refine X_callVE_2 C (c_X9_stateNow C.hlc (by assumption) (by omega) (by omega)) cv_X9_178 jG_20 ⟨_, _, rfl⟩ rfl rfl dX9_count_20 ?_
        have hv := stA_v σ o s
        refine X_iload_n C rfl dX9_count_23 ?_
        refine X_icmp_ne C (tgt := 31) dX9_count_24 (by decide) ⟨by omega, by omega⟩ ⟨by omega, by omega⟩ (fun c_24 => ?_) (fun c_24 => ?_)
        · refine X_iconst C dX9_count_31 ?_
          refine X_iadd C dX9_count_32 ?_
          refine X_istore_3 C (by decide) rfl dX9_count_33 ?_
          refine X_iinc_4 C (by decide) rfl dX9_count_34 ?_
          refine X_goto C (tgt := 5) dX9_count_37 (by decide) ?_
          exact ih _ (s + 1) (by omega) (by rw [sumZ_s hs0.1, ← ha, bI_f c_24]) (by omega)
        · refine X_iconst C dX9_count_27 ?_
          refine X_goto C (tgt := 32) dX9_count_28 (by decide) ?_
          refine X_iadd C dX9_count_32 ?_
          refine X_istore_3 C (by decide) rfl dX9_count_33 ?_
          refine X_iinc_4 C (by decide) rfl dX9_count_34 ?_
          refine X_goto C (tgt := 5) dX9_count_37 (by decide) ?_
          exact ih _ (s + 1) (by omega) (by rw [sumZ_s hs0.1, ← ha, bI_t c_24]) (by omega)
  exact L5 9 0 0 (by omega) (by rw [sumZ_0]) (by omega)
set_option maxRecDepth 100000 in
set_option maxHeartbeats 4000000 in
theorem c_X9_needed {lc : Launch} (hlc : lc.stackTraces = false) {D : va_G} {Y : Nat → ClassId} {A : Nat → Prop} {τ σ : xS} {ρ : xG} {ad : xL} {n o : Int} (I : xI n σ) (ho : 0 ≤ o ∧ o < σ 32 0 0) : Ct lc yX9_needed cX9_needed 2 (some .int) (rmL 5 0 0) D Y A ad (jG Y τ σ ρ ad) [.ref (ad 20 0), .int (iI o)] (pE (some (.int (iI (ndA σ o)))) ad (jG Y τ σ ρ ad)) (pF) := by
  refine Ct_of hlc (by decide +kernel) rfl rfl (own := RX9) (nm := "needed") (l0 := [some (.ref (ad 20 0)), some (.int (iI o))]) rfl (Nat.le_of_ble_eq_true rfl) (fun κ C M => ?_)
  have Ind := I.nd
  have Inc := I.nc
  have Ino := I.no
  have In := I.n0
  refine X_aload_n C rfl dX9_needed_0 ?_
  refine Xg_X9_copies C fl_X9_47 dX9_needed_1 ?_
  refine X_iload_n C rfl dX9_needed_4 ?_
  refine Xm_copies_ld C (by omega) (by omega) rfl dX9_needed_5 ?_
  refine X_aload_n C rfl dX9_needed_6 ?_
  refine X_iload_n C rfl dX9_needed_7 ?_
  refine X_bipush C ⟨by decide, by decide⟩ dX9_needed_8 ?_
  refine X_callVE_2 C (c_X9_count C.hlc (by assumption) (by omega) (by omega)) cv_X9_182 jG_20 ⟨_, _, rfl⟩ rfl rfl dX9_needed_10 ?_
  refine X_aload_n C rfl dX9_needed_13 ?_
  refine X_iload_n C rfl dX9_needed_14 ?_
  refine X_bipush C ⟨by decide, by decide⟩ dX9_needed_15 ?_
  refine X_callVE_2 C (c_X9_count C.hlc (by assumption) (by omega) (by omega)) cv_X9_182 jG_20 ⟨_, _, rfl⟩ rfl rfl dX9_needed_17 ?_
  refine X_iadd C dX9_needed_20 ?_
  refine X_imul C dX9_needed_21 ?_
  exact X_ireturn C M rfl (by decide) (by decide) dX9_needed_22 ⟨rI (by unfold ndA; rw [toA_2 (I.sb _).1]), rfl, rfl⟩
set_option maxRecDepth 100000 in
set_option maxHeartbeats 4000000 in
theorem c_X9_free {lc : Launch} (hlc : lc.stackTraces = false) {D : va_G} {Y : Nat → ClassId} {A : Nat → Prop} {τ σ : xS} {ρ : xG} {ad : xL} {n : Int} (I : xI n σ) : Ct lc yX9_free cX9_free 3 (some .int) (rmL 6 0 0) D Y A ad (jG Y τ σ ρ ad) [.ref (ad 20 0)] (pE (some (.int (iI (frA σ (σ 32 0 0))))) ad (jG Y τ σ ρ ad)) (pF) := by
  refine Ct_of hlc (by decide +kernel) rfl rfl (own := RX9) (nm := "free") (l0 := [some (.ref (ad 20 0)), none, none]) rfl (Nat.le_of_ble_eq_true rfl) (fun κ C M => ?_)
  have Ind := I.nd
  have Inc := I.nc
  have Ino := I.no
  have In := I.n0
  refine X_aload_n C rfl dX9_free_0 ?_
  refine Xg_X9_paper C rfl fl_X9_156 dX9_free_1 ?_
  refine X_istore_1 C (by decide) rfl dX9_free_4 ?_
  refine X_iconst C dX9_free_5 ?_
  refine X_istore_2 C (by decide) rfl dX9_free_6 ?_
  have L7 : ∀ (n9 : Nat) (a o : Int), (0 ≤ o ∧ o ≤ σ 32 0 0) → (a = frA σ o) → σ 32 0 0 - o < (n9 : Int) → X κ D A 3 0 0 7 ([some (.ref (ad 20 0)), some (.int (iI a)), some (.int (iI o))]) ([]) ad (jG Y τ σ ρ ad) := by
    intro n9
    induction n9 with
    | zero => intro a o  ho ha hm; exfalso; omega
    | succ n9 ih =>
      intro a o  ho ha hm
      refine X_iload_n C rfl dX9_free_7 ?_
      refine X_aload_n C rfl dX9_free_8 ?_
      refine Xg_X9_orders C rfl fl_X9_165 dX9_free_9 ?_
      refine X_icmp_ge C (tgt := 29) dX9_free_12 (by decide) ⟨by omega, by omega⟩ ⟨by omega, by omega⟩ (fun c_12 => ?_) (fun c_12 => ?_)
      · obtain rfl : o = σ 32 0 0 := by omega
        refine X_iload_n C rfl dX9_free_29 ?_
        exact X_ireturn C M rfl (by decide) (by decide) dX9_free_30 ⟨rI ha, rfl, rfl⟩
      · refine X_iload_n C rfl dX9_free_15 ?_
        refine X_aload_n C rfl dX9_free_16 ?_
        refine X_iload_n C rfl dX9_free_17 ?_
        refine X_callVE_1 C (c_X9_needed C.hlc (by assumption) (by omega)) cv_X9_186 jG_20 ⟨_, _, rfl⟩ rfl rfl dX9_free_18 ?_
        refine X_isub C dX9_free_21 ?_
        refine X_istore_1 C (by decide) rfl dX9_free_22 ?_
        refine X_iinc_2 C (by decide) rfl dX9_free_23 ?_
        refine X_goto C (tgt := 7) dX9_free_26 (by decide) ?_
        exact ih _ (o + 1) (by omega) (by unfold frA at ha ⊢; rw [sumZ_s ho.1]; omega) (by omega)
  exact L7 7 (σ 33 0 0) 0 (by omega) (by unfold frA; rw [sumZ_0]; omega) (by omega)
set_option maxRecDepth 100000 in
set_option maxHeartbeats 4000000 in
theorem c_X9_isAll {lc : Launch} (hlc : lc.stackTraces = false) {D : va_G} {Y : Nat → ClassId} {A : Nat → Prop} {τ σ : xS} {ρ : xG} {ad : xL} {n o : Int} (I : xI n σ) (ho : 0 ≤ o ∧ o < σ 32 0 0) : Ct lc yX9_isAll cX9_isAll 2 (some .boolean) (rmL 5 0 0) D Y A ad (jG Y τ σ ρ ad) [.ref (ad 20 0), .int (iI o)] (pE (some (.int (iI (bI (alA σ o))))) ad (jG Y τ σ ρ ad)) (pF) := by
  refine Ct_of hlc (by decide +kernel) rfl rfl (own := RX9) (nm := "isAll") (l0 := [some (.ref (ad 20 0)), some (.int (iI o))]) rfl (Nat.le_of_ble_eq_true rfl) (fun κ C M => ?_)
  have Ind := I.nd
  have Inc := I.nc
  have Ino := I.no
  have In := I.n0
  have k3 := I.od o (by omega) (by omega)
  have k5 := I.sb (σ 9 o 0)
  have k1 := I.po
  have k2 := I.ps
  have k9 := gdA_b σ o k5.1
  unfold gdA at k9
  refine X_aload_n C rfl dX9_isAll_0 ?_
  refine X_iload_n C rfl dX9_isAll_1 ?_
  refine X_bipush C ⟨by decide, by decide⟩ dX9_isAll_2 ?_
  refine X_callVE_2 C (c_X9_count C.hlc (by assumption) (by omega) (by omega)) cv_X9_182 jG_20 ⟨_, _, rfl⟩ rfl rfl dX9_isAll_4 ?_
  refine X_aload_n C rfl dX9_isAll_7 ?_
  refine X_iload_n C rfl dX9_isAll_8 ?_
  refine X_callVE_1 C (c_X9_sheetsIn C.hlc (by assumption) (by omega)) cv_X9_175 jG_20 ⟨_, _, rfl⟩ rfl rfl dX9_isAll_9 ?_
  refine X_icmp_ne C (tgt := 19) dX9_isAll_12 (by decide) ⟨by omega, by omega⟩ ⟨by omega, by omega⟩ (fun c_12 => ?_) (fun c_12 => ?_)
  · refine X_iconst C dX9_isAll_19 ?_
    exact X_ireturn C M rfl (by decide) (by decide) dX9_isAll_20 ⟨rB0 c_12, rfl, rfl⟩
  · refine X_iconst C dX9_isAll_15 ?_
    refine X_goto C (tgt := 20) dX9_isAll_16 (by decide) ?_
    exact X_ireturn C M rfl (by decide) (by decide) dX9_isAll_20 ⟨rB1 c_12, rfl, rfl⟩
