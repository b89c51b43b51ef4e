set_option maxRecDepth 100000 in
set_option maxHeartbeats 4000000 in
theorem c_X9_in {lc : Launch} (hlc : lc.stackTraces = false) {D : va_G} {Y : Nat → ClassId} {A : Nat → Prop} {τ σ : xS} {ρ : xG} {ad : xL} {v a b : Int} (h0 : rg v) (h1 : rg a) (h2 : rg b) : Ct lc yX9_in cX9_in 6 (some .boolean) (rmL 0 0 0) D Y A ad (jG Y τ σ ρ ad) [.long (lI v), .long (lI a), .long (lI b)] (pE (some (.int (iI (bI (a ≤ v ∧ v ≤ b))))) ad (jG Y τ σ ρ ad)) (pF) := by
  refine Ct_of hlc (by decide +kernel) rfl rfl (own := RX9) (nm := "in") (l0 := [some (.long (lI v)), none, some (.long (lI a)), none, some (.long (lI b)), none]) rfl (Nat.le_of_ble_eq_true rfl) (fun κ C M => ?_)
  refine X_lload_n C rfl dX9_in_0 ?_
  refine X_lload_n C rfl dX9_in_1 ?_
  refine X_lcmp C ⟨by omega, by omega⟩ ⟨by omega, by omega⟩ dX9_in_2 ?_
  refine X_if_lt C (tgt := 17) dX9_in_3 (by decide) ⟨by (repeat' split) <;> omega, by (repeat' split) <;> omega⟩ (fun c_3 => ?_) (fun c_3 => ?_)
  · refine X_iconst C dX9_in_17 ?_
    exact X_ireturn C M rfl (by decide) (by decide) dX9_in_18 ⟨by first | exact rB1 (by omega) | exact rB0 (by omega), rfl, rfl⟩
  · refine X_lload_n C rfl dX9_in_6 ?_
    refine X_lload C rfl dX9_in_7 ?_
    refine X_lcmp C ⟨by omega, by omega⟩ ⟨by omega, by omega⟩ dX9_in_9 ?_
    refine X_if_gt C (tgt := 17) dX9_in_10 (by decide) ⟨by (repeat' split) <;> omega, by (repeat' split) <;> omega⟩ (fun c_10 => ?_) (fun c_10 => ?_)
    · refine X_iconst C dX9_in_17 ?_
      exact X_ireturn C M rfl (by decide) (by decide) dX9_in_18 ⟨by first | exact rB1 (by omega) | exact rB0 (by omega), rfl, rfl⟩
    · refine X_iconst C dX9_in_13 ?_
      refine X_goto C (tgt := 18) dX9_in_14 (by decide) ?_
      exact X_ireturn C M rfl (by decide) (by decide) dX9_in_18 ⟨by first | exact rB1 (by omega) | exact rB0 (by omega), rfl, rfl⟩
set_option maxRecDepth 100000 in
set_option maxHeartbeats 4000000 in
theorem c_X9_isDocument {lc : Launch} (hlc : lc.stackTraces = false) {D : va_G} {Y : Nat → ClassId} {A : Nat → Prop} {τ σ : xS} {ρ : xG} {ad : xL} {n z : Int} (I : xI n σ) (hz : rg z) : Ct lc yX9_isDocument cX9_isDocument 2 (some .boolean) (rmL 1 0 0) D Y A ad (jG Y τ σ ρ ad) [.ref (ad 20 0), .int (iI z)] (pE (some (.int (iI (bI (0 ≤ z ∧ z ≤ σ 30 0 0 - 1))))) ad (jG Y τ σ ρ ad)) (pF) := by
  refine Ct_of hlc (by decide +kernel) rfl rfl (own := RX9) (nm := "isDocument") (l0 := [some (.ref (ad 20 0)), some (.int (iI z))]) rfl (Nat.le_of_ble_eq_true rfl) (fun κ C M => ?_)
  have Ind := I.nd
  have Inc := I.nc
  have Ino := I.no
  have In := I.n0
  refine X_iload_n C rfl dX9_isDocument_0 ?_
  refine X_i2l C ⟨by omega, by omega⟩ dX9_isDocument_1 ?_
  refine X_lconst C (v := 0) rfl dX9_isDocument_2 ?_
  refine X_aload_n C rfl dX9_isDocument_3 ?_
  refine Xg_X9_documents C rfl fl_X9_81 dX9_isDocument_4 ?_
  refine X_iconst C dX9_isDocument_7 ?_
  refine X_isub C dX9_isDocument_8 ?_
  refine X_i2l C ⟨by omega, by omega⟩ dX9_isDocument_9 ?_
  refine X_callSE_3 C (c_X9_in C.hlc (by omega) (by omega) (by omega)) cs_X9_84 rfl rfl dX9_isDocument_10 ?_
  exact X_ireturn C M (narB _) (by decide) (by decide) dX9_isDocument_13 ⟨rfl, rfl, rfl⟩
set_option maxRecDepth 100000 in
set_option maxHeartbeats 4000000 in
theorem c_X9_isComment {lc : Launch} (hlc : lc.stackTraces = false) {D : va_G} {Y : Nat → ClassId} {A : Nat → Prop} {τ σ : xS} {ρ : xG} {ad : xL} {n z : Int} (I : xI n σ) (hz : rg z) : Ct lc yX9_isComment cX9_isComment 2 (some .boolean) (rmL 1 0 0) D Y A ad (jG Y τ σ ρ ad) [.ref (ad 20 0), .int (iI z)] (pE (some (.int (iI (bI (0 ≤ z ∧ z ≤ σ 31 0 0 - 1))))) ad (jG Y τ σ ρ ad)) (pF) := by
  refine Ct_of hlc (by decide +kernel) rfl rfl (own := RX9) (nm := "isComment") (l0 := [some (.ref (ad 20 0)), some (.int (iI z))]) rfl (Nat.le_of_ble_eq_true rfl) (fun κ C M => ?_)
  have Ind := I.nd
  have Inc := I.nc
  have Ino := I.no
  have In := I.n0
  refine X_iload_n C rfl dX9_isComment_0 ?_
  refine X_i2l C ⟨by omega, by omega⟩ dX9_isComment_1 ?_
  refine X_lconst C (v := 0) rfl dX9_isComment_2 ?_
  refine X_aload_n C rfl dX9_isComment_3 ?_
  refine Xg_X9_comments C rfl fl_X9_91 dX9_isComment_4 ?_
  refine X_iconst C dX9_isComment_7 ?_
  refine X_isub C dX9_isComment_8 ?_
  refine X_i2l C ⟨by omega, by omega⟩ dX9_isComment_9 ?_
  refine X_callSE_3 C (c_X9_in C.hlc (by omega) (by omega) (by omega)) cs_X9_84 rfl rfl dX9_isComment_10 ?_
  exact X_ireturn C M (narB _) (by decide) (by decide) dX9_isComment_13 ⟨rfl, rfl, rfl⟩
set_option maxRecDepth 100000 in
set_option maxHeartbeats 4000000 in
theorem c_X9_isOrder {lc : Launch} (hlc : lc.stackTraces = false) {D : va_G} {Y : Nat → ClassId} {A : Nat → Prop} {τ σ : xS} {ρ : xG} {ad : xL} {n z : Int} (I : xI n σ) (hz : rg z) : Ct lc yX9_isOrder cX9_isOrder 2 (some .boolean) (rmL 1 0 0) D Y A ad (jG Y τ σ ρ ad) [.ref (ad 20 0), .int (iI z)] (pE (some (.int (iI (bI (0 ≤ z ∧ z ≤ σ 32 0 0 - 1))))) ad (jG Y τ σ ρ ad)) (pF) := by
  refine Ct_of hlc (by decide +kernel) rfl rfl (own := RX9) (nm := "isOrder") (l0 := [some (.ref (ad 20 0)), some (.int (iI z))]) rfl (Nat.le_of_ble_eq_true rfl) (fun κ C M => ?_)
  have Ind := I.nd
  have Inc := I.nc
  have Ino := I.no
  have In := I.n0
  refine X_iload_n C rfl dX9_isOrder_0 ?_
  refine X_i2l C ⟨by omega, by omega⟩ dX9_isOrder_1 ?_
  refine X_lconst C (v := 0) rfl dX9_isOrder_2 ?_
  refine X_aload_n C rfl dX9_isOrder_3 ?_
  refine Xg_X9_orders C rfl fl_X9_165 dX9_isOrder_4 ?_
  refine X_iconst C dX9_isOrder_7 ?_
  refine X_isub C dX9_isOrder_8 ?_
  refine X_i2l C ⟨by omega, by omega⟩ dX9_isOrder_9 ?_
  refine X_callSE_3 C (c_X9_in C.hlc (by omega) (by omega) (by omega)) cs_X9_84 rfl rfl dX9_isOrder_10 ?_
  exact X_ireturn C M (narB _) (by decide) (by decide) dX9_isOrder_13 ⟨rfl, rfl, rfl⟩
set_option maxRecDepth 100000 in
set_option maxHeartbeats 4000000 in
theorem c_X9_isCode {lc : Launch} (hlc : lc.stackTraces = false) {D : va_G} {Y : Nat → ClassId} {A : Nat → Prop} {τ σ : xS} {ρ : xG} {ad : xL} {c : Int} (hc : rg c) : Ct lc yX9_isCode cX9_isCode 1 (some .boolean) (rmL 1 0 0) D Y A ad (jG Y τ σ ρ ad) [.int (iI c)] (pE (some (.int (iI (bI (c = 32 ∨ 97 ≤ c ∧ c ≤ 122 ∨ 128512 ≤ c ∧ c ≤ 128527))))) ad (jG Y τ σ ρ ad)) (pF) := by
  refine Ct_of hlc (by decide +kernel) rfl rfl (own := RX9) (nm := "isCode") (l0 := [some (.int (iI c))]) rfl (Nat.le_of_ble_eq_true rfl) (fun κ C M => ?_)
  refine X_iload_n C rfl dX9_isCode_0 ?_
  refine X_i2l C ⟨by omega, by omega⟩ dX9_isCode_1 ?_
  refine X_ldc2 C (n := 97) (v := 97) (by decide +kernel) k_X9_97 dX9_isCode_2 ?_
  refine X_ldc2 C (n := 122) (v := 122) (by decide +kernel) k_X9_99 dX9_isCode_5 ?_
  refine X_callSE_3 C (c_X9_in C.hlc (by omega) (by omega) (by omega)) cs_X9_84 rfl rfl dX9_isCode_8 ?_
  refine X_if_neB C (tgt := 34) dX9_isCode_11 (by decide) (fun c_11 => ?_) (fun c_11 => ?_)
  · refine X_iconst C dX9_isCode_34 ?_
    refine X_goto C (tgt := 39) dX9_isCode_35 (by decide) ?_
    exact X_ireturn C M rfl (by decide) (by decide) dX9_isCode_39 ⟨by first | exact rB1 (by omega) | exact rB0 (by omega), rfl, rfl⟩
  · refine X_iload_n C rfl dX9_isCode_14 ?_
    refine X_bipush C ⟨by decide, by decide⟩ dX9_isCode_15 ?_
    refine X_icmp_eq C (tgt := 34) dX9_isCode_17 (by decide) ⟨by omega, by omega⟩ ⟨by omega, by omega⟩ (fun c_17 => ?_) (fun c_17 => ?_)
    · refine X_iconst C dX9_isCode_34 ?_
      refine X_goto C (tgt := 39) dX9_isCode_35 (by decide) ?_
      exact X_ireturn C M rfl (by decide) (by decide) dX9_isCode_39 ⟨by first | exact rB1 (by omega) | exact rB0 (by omega), rfl, rfl⟩
    · refine X_iload_n C rfl dX9_isCode_20 ?_
      refine X_i2l C ⟨by omega, by omega⟩ dX9_isCode_21 ?_
      refine X_ldc2 C (n := 128512) (v := 128512) (by decide +kernel) k_X9_101 dX9_isCode_22 ?_
      refine X_ldc2 C (n := 128527) (v := 128527) (by decide +kernel) k_X9_103 dX9_isCode_25 ?_
      refine X_callSE_3 C (c_X9_in C.hlc (by omega) (by omega) (by omega)) cs_X9_84 rfl rfl dX9_isCode_28 ?_
      refine X_if_eqB C (tgt := 38) dX9_isCode_31 (by decide) (fun c_31 => ?_) (fun c_31 => ?_)
      · refine X_iconst C dX9_isCode_38 ?_
        exact X_ireturn C M rfl (by decide) (by decide) dX9_isCode_39 ⟨by first | exact rB1 (by omega) | exact rB0 (by omega), rfl, rfl⟩
      · refine X_iconst C dX9_isCode_34 ?_
        refine X_goto C (tgt := 39) dX9_isCode_35 (by decide) ?_
        exact X_ireturn C M rfl (by decide) (by decide) dX9_isCode_39 ⟨by first | exact rB1 (by omega) | exact rB0 (by omega), rfl, rfl⟩
set_option maxRecDepth 100000 in
set_option maxHeartbeats 4000000 in
theorem c_X9_sheetsOf {lc : Launch} (hlc : lc.stackTraces = false) {D : va_G} {Y : Nat → ClassId} {A : Nat → Prop} {τ σ : xS} {ρ : xG} {ad : xL} {n d : Int} (I : xI n σ) (hd : 0 ≤ d ∧ d < 3) : Ct lc yX9_sheetsOf cX9_sheetsOf 3 (some .int) (rmL 0 0 0) D Y A ad (jG Y τ σ ρ ad) [.ref (ad 20 0), .int (iI d)] (pE (some (.int (iI (shT σ d)))) ad (jG Y τ σ ρ ad)) (pF) := by
  refine Ct_of hlc (by decide +kernel) rfl rfl (own := RX9) (nm := "sheetsOf") (l0 := [some (.ref (ad 20 0)), some (.int (iI d)), none]) rfl (Nat.le_of_ble_eq_true rfl) (fun κ C M => ?_)
  have k1 := I.sz (2 * d + 1) 0
  refine X_aload_n C rfl dX9_sheetsOf_0 ?_
  refine Xg_X9_proofLengths C fl_X9_25 dX9_sheetsOf_1 ?_
  refine X_iload_n C rfl dX9_sheetsOf_4 ?_
  refine Xm_proofLengths_ld C (by omega) (by omega) rfl dX9_sheetsOf_5 ?_
  refine X_bipush C ⟨by decide, by decide⟩ dX9_sheetsOf_6 ?_
  refine X_iadd C dX9_sheetsOf_8 ?_
  refine X_bipush C ⟨by decide, by decide⟩ dX9_sheetsOf_9 ?_
  refine X_idiv C ⟨by omega, by omega⟩ (by omega) ⟨by omega, by omega⟩ (by omega) dX9_sheetsOf_11 ?_
  refine X_istore_2 C (by decide) rfl dX9_sheetsOf_12 ?_
  refine X_iload_n C rfl dX9_sheetsOf_13 ?_
  refine X_iconst C dX9_sheetsOf_14 ?_
  refine X_iadd C dX9_sheetsOf_15 ?_
  refine X_iconst C dX9_sheetsOf_16 ?_
  refine X_idiv C ⟨by omega, by omega⟩ (by omega) ⟨by omega, by omega⟩ (by omega) dX9_sheetsOf_17 ?_
  exact X_ireturn C M rfl (by decide) (by decide) dX9_sheetsOf_18 ⟨rI (by unfold shT shC; omega), rfl, rfl⟩
set_option maxRecDepth 100000 in
set_option maxHeartbeats 4000000 in
theorem c_X9_pageAt {lc : Launch} (hlc : lc.stackTraces = false) {D : va_G} {Y : Nat → ClassId} {A : Nat → Prop} {τ σ : xS} {ρ : xG} {ad : xL} {n d s q : Int} (I : xI n σ) (hd : 0 ≤ d ∧ d < 3) (hs : 0 ≤ s ∧ s < 3) (hq : 0 ≤ q ∧ q < 4) : Ct lc yX9_pageAt cX9_pageAt 5 (some .int) (rmL 1 0 0) D Y A ad (jG Y τ σ ρ ad) [.ref (ad 20 0), .int (iI d), .int (iI s), .int (iI q)] (pE (some (.int (iI (pgA (shT σ d) s q)))) ad (jG Y τ σ ρ ad)) (pF) := by
  refine Ct_of hlc (by decide +kernel) rfl rfl (own := RX9) (nm := "pageAt") (l0 := [some (.ref (ad 20 0)), some (.int (iI d)), some (.int (iI s)), some (.int (iI q)), none]) rfl (Nat.le_of_ble_eq_true rfl) (fun κ C M => ?_)
  have k1 := I.sb d
  refine X_iconst C dX9_pageAt_0 ?_
  refine X_aload_n C rfl dX9_pageAt_1 ?_
  refine X_iload_n C rfl dX9_pageAt_2 ?_
  refine X_callVE_1 C (c_X9_sheetsOf C.hlc (by assumption) (by omega)) cv_X9_132 jG_20 ⟨_, _, rfl⟩ rfl rfl dX9_pageAt_3 ?_
  refine X_imul C dX9_pageAt_6 ?_
  refine X_istore_4 C (by decide) rfl dX9_pageAt_7 ?_
  refine X_iload_n C rfl dX9_pageAt_9 ?_
  refine X_if_ne C (tgt := 24) dX9_pageAt_10 (by decide) ⟨by omega, by omega⟩ (fun c_10 => ?_) (fun c_10 => ?_)
  · refine X_iload_n C rfl dX9_pageAt_24 ?_
    refine X_iconst C dX9_pageAt_25 ?_
    refine X_icmp_ne C (tgt := 35) dX9_pageAt_26 (by decide) ⟨by omega, by omega⟩ ⟨by omega, by omega⟩ (fun c_26 => ?_) (fun c_26 => ?_)
    · refine X_iload_n C rfl dX9_pageAt_35 ?_
      refine X_iconst C dX9_pageAt_36 ?_
      refine X_icmp_ne C (tgt := 48) dX9_pageAt_37 (by decide) ⟨by omega, by omega⟩ ⟨by omega, by omega⟩ (fun c_37 => ?_) (fun c_37 => ?_)
      · refine X_iload C rfl dX9_pageAt_48 ?_
        refine X_iconst C dX9_pageAt_50 ?_
        refine X_isub C dX9_pageAt_51 ?_
        refine X_iconst C dX9_pageAt_52 ?_
        refine X_iload_n C rfl dX9_pageAt_53 ?_
        refine X_imul C dX9_pageAt_54 ?_
        refine X_isub C dX9_pageAt_55 ?_
        exact X_ireturn C M rfl (by decide) (by decide) dX9_pageAt_56 ⟨rI (by unfold pgA; (repeat' split) <;> omega), rfl, rfl⟩
      · refine X_iconst C dX9_pageAt_40 ?_
        refine X_iload_n C rfl dX9_pageAt_41 ?_
        refine X_imul C dX9_pageAt_42 ?_
        refine X_iconst C dX9_pageAt_43 ?_
        refine X_iadd C dX9_pageAt_44 ?_
        refine X_goto C (tgt := 56) dX9_pageAt_45 (by decide) ?_
        exact X_ireturn C M rfl (by decide) (by decide) dX9_pageAt_56 ⟨rI (by unfold pgA; (repeat' split) <;> omega), rfl, rfl⟩
    · refine X_iconst C dX9_pageAt_29 ?_
      refine X_iload_n C rfl dX9_pageAt_30 ?_
      refine X_imul C dX9_pageAt_31 ?_
      refine X_goto C (tgt := 56) dX9_pageAt_32 (by decide) ?_
      exact X_ireturn C M rfl (by decide) (by decide) dX9_pageAt_56 ⟨rI (by unfold pgA; (repeat' split) <;> omega), rfl, rfl⟩
  · refine X_iload C rfl dX9_pageAt_13 ?_
    refine X_iconst C dX9_pageAt_15 ?_
    refine X_isub C dX9_pageAt_16 ?_
    refine X_iconst C dX9_pageAt_17 ?_
    refine X_iload_n C rfl dX9_pageAt_18 ?_
    refine X_imul C dX9_pageAt_19 ?_
    refine X_isub C dX9_pageAt_20 ?_
    refine X_goto C (tgt := 56) dX9_pageAt_21 (by decide) ?_
    exact X_ireturn C M rfl (by decide) (by decide) dX9_pageAt_56 ⟨rI (by unfold pgA; (repeat' split) <;> omega), rfl, rfl⟩
set_option maxRecDepth 100000 in
set_option maxHeartbeats 4000000 in
theorem c_X9_sheetsIn {lc : Launch} (hlc : lc.stackTraces = false) {D : va_G} {Y : Nat → ClassId} {A : Nat → Prop} {τ σ : xS} {ρ : xG} {ad : xL} {n o : Int} (I : xI n σ) (ho : 0 ≤ o ∧ o < σ 32 0 0) : Ct lc yX9_sheetsIn cX9_sheetsIn 2 (some .int) (rmL 1 0 0) D Y A ad (jG Y τ σ ρ ad) [.ref (ad 20 0), .int (iI o)] (pE (some (.int (iI (shT σ (σ 9 o 0))))) ad (jG Y τ σ ρ ad)) (pF) := by
  refine Ct_of hlc (by decide +kernel) rfl rfl (own := RX9) (nm := "sheetsIn") (l0 := [some (.ref (ad 20 0)), some (.int (iI o))]) rfl (Nat.le_of_ble_eq_true rfl) (fun κ C M => ?_)
  have Ind := I.nd
  have Inc := I.nc
  have Ino := I.no
  have In := I.n0
  have k1 := I.od o (by omega) (by omega)
  refine X_aload_n C rfl dX9_sheetsIn_0 ?_
  refine X_aload_n C rfl dX9_sheetsIn_1 ?_
  refine Xg_X9_orderOf C fl_X9_44 dX9_sheetsIn_2 ?_
  refine X_iload_n C rfl dX9_sheetsIn_5 ?_
  refine Xm_orderOf_ld C (by omega) (by omega) rfl dX9_sheetsIn_6 ?_
  refine X_callVE_1 C (c_X9_sheetsOf C.hlc (by assumption) (by omega)) cv_X9_132 jG_20 ⟨_, _, rfl⟩ rfl rfl dX9_sheetsIn_7 ?_
  exact X_ireturn C M rfl (by decide) (by decide) dX9_sheetsIn_10 ⟨rfl, rfl, rfl⟩
set_option maxRecDepth 100000 in
set_option maxHeartbeats 4000000 in
theorem c_X9_codeOn {lc : Launch} (hlc : lc.stackTraces = false) {D : va_G} {Y : Nat → ClassId} {A : Nat → Prop} {τ σ : xS} {ρ : xG} {ad : xL} {n d s k : Int} (I : xI n σ) (hd : 0 ≤ d ∧ d < 3) (hs : 0 ≤ s ∧ s < shT σ d) (hk : 0 ≤ k ∧ k < 32) : Ct lc yX9_codeOn cX9_codeOn 5 (some .int) (rmL 2 0 0) D Y A ad (jG Y τ σ ρ ad) [.ref (ad 20 0), .int (iI d), .int (iI s), .int (iI k)] (pE (some (.int (iI (cOn σ d s k)))) ad (jG Y τ σ ρ ad)) (pF) := by
  refine Ct_of hlc (by decide +kernel) rfl rfl (own := RX9) (nm := "codeOn") (l0 := [some (.ref (ad 20 0)), some (.int (iI d)), some (.int (iI s)), some (.int (iI k)), none]) rfl (Nat.le_of_ble_eq_true rfl) (fun κ C M => ?_)
  have k1 := I.sb d
  have k2 := I.sz (2 * d + 1) 0
  have kp := pg_b (S := shT σ d) (s := s) (q := k / 8) (by omega) (by omega) (by omega) (by omega)
  refine X_bipush C ⟨by decide, by decide⟩ dX9_codeOn_0 ?_
  refine X_aload_n C rfl dX9_codeOn_2 ?_
  refine X_iload_n C rfl dX9_codeOn_3 ?_
  refine X_iload_n C rfl dX9_codeOn_4 ?_
  refine X_iload_n C rfl dX9_codeOn_5 ?_
  refine X_bipush C ⟨by decide, by decide⟩ dX9_codeOn_6 ?_
  refine X_idiv C ⟨by omega, by omega⟩ (by omega) ⟨by omega, by omega⟩ (by omega) dX9_codeOn_8 ?_
  refine X_callVE_3 C (c_X9_pageAt C.hlc (by assumption) (by omega) (by omega) (by omega)) cv_X9_140 jG_20 ⟨_, _, rfl⟩ rfl rfl dX9_codeOn_9 ?_
  refine X_imul C dX9_codeOn_12 ?_
  refine X_iload_n C rfl dX9_codeOn_13 ?_
  refine X_bipush C ⟨by decide, by decide⟩ dX9_codeOn_14 ?_
  refine X_irem C ⟨by omega, by omega⟩ (by omega) ⟨by omega, by omega⟩ (by omega) dX9_codeOn_16 ?_
  refine X_iadd C dX9_codeOn_17 ?_
  refine X_istore_4 C (by decide) rfl dX9_codeOn_18 ?_
  refine X_iload C rfl dX9_codeOn_20 ?_
  refine X_aload_n C rfl dX9_codeOn_22 ?_
  refine Xg_X9_proofLengths C fl_X9_25 dX9_codeOn_23 ?_
  refine X_iload_n C rfl dX9_codeOn_26 ?_
  refine Xm_proofLengths_ld C (by omega) (by omega) rfl dX9_codeOn_27 ?_
  refine X_icmp_ge C (tgt := 46) dX9_codeOn_28 (by decide) ⟨by omega, by omega⟩ ⟨by omega, by omega⟩ (fun c_28 => ?_) (fun c_28 => ?_)
  · refine X_iconst C dX9_codeOn_46 ?_
    exact X_ireturn C M rfl (by decide) (by decide) dX9_codeOn_47 ⟨rI (by unfold cOn tAt; rw [if_neg (by omega)]), rfl, rfl⟩
  · refine X_aload_n C rfl dX9_codeOn_31 ?_
    refine Xg_X9_proofs C fl_X9_22 dX9_codeOn_32 ?_
    refine X_bipush C ⟨by decide, by decide⟩ dX9_codeOn_35 ?_
    refine X_iload_n C rfl dX9_codeOn_37 ?_
    refine X_imul C dX9_codeOn_38 ?_
    refine X_iload C rfl dX9_codeOn_39 ?_
    refine X_iadd C dX9_codeOn_41 ?_
    refine Xm_proofs_ld C d (8 * pgA (shT σ d) s (k / 8) + k % 8) (by omega) (by omega) ⟨by omega, by omega⟩ (by omega) rfl dX9_codeOn_42 ?_
    refine X_goto C (tgt := 47) dX9_codeOn_43 (by decide) ?_
    exact X_ireturn C M rfl (by decide) (by decide) dX9_codeOn_47 ⟨rI (by unfold cOn tAt; rw [if_pos (by omega)]), rfl, rfl⟩
set_option maxRecDepth 100000 in
set_option maxHeartbeats 4000000 in
theorem c_X9_openOn {lc : Launch} (hlc : lc.stackTraces = false) {D : va_G} {Y : Nat → ClassId} {A : Nat → Prop} {τ σ : xS} {ρ : xG} {ad : xL} {n d : Int} (I : xI n σ) (hd : 0 ≤ d ∧ d < 3) : Ct lc yX9_openOn cX9_openOn 4 (some .int) (rmL 0 0 0) D Y A ad (jG Y τ σ ρ ad) [.ref (ad 20 0), .int (iI d)] (pE (some (.int (iI (opA σ d (σ 31 0 0))))) ad (jG Y τ σ ρ ad)) (pF) := by
  refine Ct_of hlc (by decide +kernel) rfl rfl (own := RX9) (nm := "openOn") (l0 := [some (.ref (ad 20 0)), some (.int (iI d)), none, none]) rfl (Nat.le_of_ble_eq_true rfl) (fun κ C M => ?_)
  have Ind := I.nd
  have Inc := I.nc
  have Ino := I.no
  have In := I.n0
  refine X_iconst C dX9_openOn_0 ?_
  refine X_istore_2 C (by decide) rfl dX9_openOn_1 ?_
  refine X_iconst C dX9_openOn_2 ?_
  refine X_istore_3 C (by decide) rfl dX9_openOn_3 ?_
  have L4 : ∀ (n9 : Nat) (a c : Int), (0 ≤ c ∧ c ≤ σ 31 0 0) → (a = opA σ d c) → σ 31 0 0 - c < (n9 : Int) → X κ D A 4 0 0 4 ([some (.ref (ad 20 0)), some (.int (iI d)), some (.int (iI a)), some (.int (iI c))]) ([]) ad (jG Y τ σ ρ ad) := by
    intro n9
    induction n9 with
    | zero => intro a c  hc ha hm; exfalso; omega
    | succ n9 ih =>
      intro a c  hc ha hm
      refine X_iload_n C rfl dX9_openOn_4 ?_
      refine X_aload_n C rfl dX9_openOn_5 ?_
      refine Xg_X9_comments C rfl fl_X9_91 dX9_openOn_6 ?_
      refine X_icmp_ge C (tgt := 45) dX9_openOn_9 (by decide) ⟨by omega, by omega⟩ ⟨by omega, by omega⟩ (fun c_9 => ?_) (fun c_9 => ?_)
      · obtain rfl : c = σ 31 0 0 := by omega
        refine X_iload_n C rfl dX9_openOn_45 ?_
        exact X_ireturn C M rfl (by decide) (by decide) dX9_openOn_46 ⟨rI ha, rfl, rfl⟩
      · have k1 := I.op c 0
        have k2 := I.on c (by omega) (by omega)
        refine X_iload_n C rfl dX9_openOn_12 ?_
        refine X_aload_n C rfl dX9_openOn_13 ?_
        refine Xg_X9_isOpen C fl_X9_40 dX9_openOn_14 ?_
        refine X_iload_n C rfl dX9_openOn_17 ?_
        refine Xm_isOpen_ld C (by omega) (by omega) rfl dX9_openOn_18 ?_
        refine X_if_eq C (tgt := 36) dX9_openOn_19 (by decide) ⟨by omega, by omega⟩ (fun c_19 => ?_) (fun c_19 => ?_)
        · refine X_iconst C dX9_openOn_36 ?_
          refine X_iadd C dX9_openOn_37 ?_
          refine X_istore_2 C (by decide) rfl dX9_openOn_38 ?_
          refine X_iinc_3 C (by decide) rfl dX9_openOn_39 ?_
          refine X_goto C (tgt := 4) dX9_openOn_42 (by decide) ?_
          exact ih _ (c + 1) (by omega) (by unfold opA at ha ⊢; rw [sumZ_s hc.1, ← ha, bI_f (fun w => by omega)]) (by omega)
        · refine X_aload_n C rfl dX9_openOn_22 ?_
          refine Xg_X9_commentOn C fl_X9_31 dX9_openOn_23 ?_
          refine X_iload_n C rfl dX9_openOn_26 ?_
          refine Xm_commentOn_ld C (by omega) (by omega) rfl dX9_openOn_27 ?_
          refine X_iload_n C rfl dX9_openOn_28 ?_
          refine X_icmp_ne C (tgt := 36) dX9_openOn_29 (by decide) ⟨by omega, by omega⟩ ⟨by omega, by omega⟩ (fun c_29 => ?_) (fun c_29 => ?_)
          · refine X_iconst C dX9_openOn_36 ?_
            refine X_iadd C dX9_openOn_37 ?_
            refine X_istore_2 C (by decide) rfl dX9_openOn_38 ?_
            refine X_iinc_3 C (by decide) rfl dX9_openOn_39 ?_
            refine X_goto C (tgt := 4) dX9_openOn_42 (by decide) ?_
            exact ih _ (c + 1) (by omega) (by unfold opA at ha ⊢; rw [sumZ_s hc.1, ← ha, bI_f (fun w => by omega)]) (by omega)
          · refine X_iconst C dX9_openOn_32 ?_
            refine X_goto C (tgt := 37) dX9_openOn_33 (by decide) ?_
            refine X_iadd C dX9_openOn_37 ?_
            refine X_istore_2 C (by decide) rfl dX9_openOn_38 ?_
            refine X_iinc_3 C (by decide) rfl dX9_openOn_39 ?_
            refine X_goto C (tgt := 4) dX9_openOn_42 (by decide) ?_
            exact ih _ (c + 1) (by omega) (by unfold opA at ha ⊢; rw [sumZ_s hc.1, ← ha, bI_t ⟨by omega, by omega⟩]) (by omega)
  exact L4 9 0 0 (by omega) rfl (by omega)
set_option maxRecDepth 100000 in
set_option maxHeartbeats 4000000 in
theorem c_X9_thrown {lc : Launch} (hlc : lc.stackTraces = false) {D : va_G} {Y : Nat → ClassId} {A : Nat → Prop} {τ σ : xS} {ρ : xG} {ad : xL}   : Ct lc yX9_thrown cX9_thrown 1 (some .int) (rmL 0 0 0) D Y A ad (jG Y τ σ ρ ad) [.ref (ad 20 0)] (pE (some (.int (iI (σ 40 0 0)))) ad (jG Y τ σ ρ ad)) (pF) := by
  refine Ct_of hlc (by decide +kernel) rfl rfl (own := RX9) (nm := "thrown") (l0 := [some (.ref (ad 20 0))]) rfl (Nat.le_of_ble_eq_true rfl) (fun κ C M => ?_)
  refine X_aload_n C rfl dX9_thrown_0 ?_
  refine Xg_X9_thrown C rfl fl_X9_78 dX9_thrown_1 ?_
  exact X_ireturn C M rfl (by decide) (by decide) dX9_thrown_4 ⟨rfl, rfl, rfl⟩
