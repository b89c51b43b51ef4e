set_option maxRecDepth 100000 in
set_option maxHeartbeats 4000000 in
theorem c_X8_documentOf {lc : Launch} (hlc : lc.stackTraces = false) {D : va_G} {Y : Nat → ClassId} {A : Nat → Prop} {τ σ : xS} {ρ : xG} {ad : xL} {n z : Int} (I : xI n τ) (hz : rg z) : Ct lc yX8_documentOf cX8_documentOf 2 (some (.object "Proofpress$Document")) (rmL 0 1 6) D Y A ad (jG Y τ σ ρ ad) [.ref (ad 0 0), .int (iI z)] (pC (0 ≤ z ∧ z < τ 30 0 0) (some (.ref (ad 11 z))) ad (jG Y τ σ ρ ad)) (pT (fun E => E = nX ∧ ¬ (0 ≤ z ∧ z < τ 30 0 0)) ad (jG Y τ σ ρ ad)) := by
  refine Ct_of hlc (by decide +kernel) rfl rfl (own := RX8) (nm := "documentOf") (l0 := [some (.ref (ad 0 0)), some (.int (iI z))]) rfl (Nat.le_of_ble_eq_true rfl) (fun κ C M => ?_)
  have Ind := I.nd
  have Inc := I.nc
  have Ino := I.no
  have In := I.n0
  refine X_iload_n C rfl dX8_documentOf_0 ?_
  refine X_if_lt C (tgt := 12) dX8_documentOf_1 (by decide) ⟨by omega, by omega⟩ (fun c_1 => ?_) (fun c_1 => ?_)
  · exact X_throwN C M tw_X8_128_132 xs_X8_130 dX8_documentOf_12 dX8_documentOf_15 dX8_documentOf_16 dX8_documentOf_18 dX8_documentOf_21 (by decide) (by decide) (by decide) (by decide) ⟨⟨rfl, by omega⟩, rfl, rfl⟩
  · refine X_iload_n C rfl dX8_documentOf_4 ?_
    refine X_aload_n C rfl dX8_documentOf_5 ?_
    refine Xg_X8_documentCount C rfl fl_X8_41 dX8_documentOf_6 ?_
    refine X_icmp_lt C (tgt := 22) dX8_documentOf_9 (by decide) ⟨by omega, by omega⟩ ⟨by omega, by omega⟩ (fun c_9 => ?_) (fun c_9 => ?_)
    · refine X_aload_n C rfl dX8_documentOf_22 ?_
      refine Xg_X8_documents C fl_X8_11 dX8_documentOf_23 ?_
      refine X_iload_n C rfl dX8_documentOf_26 ?_
      refine Xa_docs_ld C (by omega) (by omega) (by omega) dX8_documentOf_27 ?_
      exact X_areturn C M (by decide) (by decide) dX8_documentOf_28 ⟨by omega, rfl, rfl, rfl⟩
    · exact X_throwN C M tw_X8_128_132 xs_X8_130 dX8_documentOf_12 dX8_documentOf_15 dX8_documentOf_16 dX8_documentOf_18 dX8_documentOf_21 (by decide) (by decide) (by decide) (by decide) ⟨⟨rfl, by omega⟩, rfl, rfl⟩
set_option maxRecDepth 100000 in
set_option maxHeartbeats 4000000 in
theorem c_X8_isCode {lc : Launch} (hlc : lc.stackTraces = false) {D : va_G} {Y : Nat → ClassId} {A : Nat → Prop} {τ σ : xS} {ρ : xG} {ad : xL} {c : Int} (hc : rg c) : Ct lc yX8_isCode cX8_isCode 1 (some .boolean) (rmL 0 0 0) D Y A ad (jG Y τ σ ρ ad) [.int (iI c)] (pE (some (.int (iI (bI (c = 32 ∨ 97 ≤ c ∧ c ≤ 122 ∨ 128512 ≤ c ∧ c ≤ 128527))))) ad (jG Y τ σ ρ ad)) (pF) := by
  refine Ct_of hlc (by decide +kernel) rfl rfl (own := RX8) (nm := "isCode") (l0 := [some (.int (iI c))]) rfl (Nat.le_of_ble_eq_true rfl) (fun κ C M => ?_)
  refine X_iload_n C rfl dX8_isCode_0 ?_
  refine X_bipush C ⟨by decide, by decide⟩ dX8_isCode_1 ?_
  refine X_icmp_eq C (tgt := 30) dX8_isCode_3 (by decide) ⟨by omega, by omega⟩ ⟨by omega, by omega⟩ (fun c_3 => ?_) (fun c_3 => ?_)
  · refine X_iconst C dX8_isCode_30 ?_
    refine X_goto C (tgt := 35) dX8_isCode_31 (by decide) ?_
    exact X_ireturn C M rfl (by decide) (by decide) dX8_isCode_35 ⟨by first | exact rB1 (by omega) | exact rB0 (by omega), rfl, rfl⟩
  · refine X_iload_n C rfl dX8_isCode_6 ?_
    refine X_bipush C ⟨by decide, by decide⟩ dX8_isCode_7 ?_
    refine X_icmp_lt C (tgt := 18) dX8_isCode_9 (by decide) ⟨by omega, by omega⟩ ⟨by omega, by omega⟩ (fun c_9 => ?_) (fun c_9 => ?_)
    · refine X_iload_n C rfl dX8_isCode_18 ?_
      refine X_ldc C (n := 128512) (v := 128512) (by decide +kernel) k_X8_133 dX8_isCode_19 ?_
      refine X_icmp_lt C (tgt := 34) dX8_isCode_21 (by decide) ⟨by omega, by omega⟩ ⟨by omega, by omega⟩ (fun c_21 => ?_) (fun c_21 => ?_)
      · refine X_iconst C dX8_isCode_34 ?_
        exact X_ireturn C M rfl (by decide) (by decide) dX8_isCode_35 ⟨by first | exact rB1 (by omega) | exact rB0 (by omega), rfl, rfl⟩
      · refine X_iload_n C rfl dX8_isCode_24 ?_
        refine X_ldc C (n := 128527) (v := 128527) (by decide +kernel) k_X8_134 dX8_isCode_25 ?_
        refine X_icmp_gt C (tgt := 34) dX8_isCode_27 (by decide) ⟨by omega, by omega⟩ ⟨by omega, by omega⟩ (fun c_27 => ?_) (fun c_27 => ?_)
        · refine X_iconst C dX8_isCode_34 ?_
          exact X_ireturn C M rfl (by decide) (by decide) dX8_isCode_35 ⟨by first | exact rB1 (by omega) | exact rB0 (by omega), rfl, rfl⟩
        · refine X_iconst C dX8_isCode_30 ?_
          refine X_goto C (tgt := 35) dX8_isCode_31 (by decide) ?_
          exact X_ireturn C M rfl (by decide) (by decide) dX8_isCode_35 ⟨by first | exact rB1 (by omega) | exact rB0 (by omega), rfl, rfl⟩
    · refine X_iload_n C rfl dX8_isCode_12 ?_
      refine X_bipush C ⟨by decide, by decide⟩ dX8_isCode_13 ?_
      refine X_icmp_le C (tgt := 30) dX8_isCode_15 (by decide) ⟨by omega, by omega⟩ ⟨by omega, by omega⟩ (fun c_15 => ?_) (fun c_15 => ?_)
      · refine X_iconst C dX8_isCode_30 ?_
        refine X_goto C (tgt := 35) dX8_isCode_31 (by decide) ?_
        exact X_ireturn C M rfl (by decide) (by decide) dX8_isCode_35 ⟨by first | exact rB1 (by omega) | exact rB0 (by omega), rfl, rfl⟩
      · refine X_iload_n C rfl dX8_isCode_18 ?_
        refine X_ldc C (n := 128512) (v := 128512) (by decide +kernel) k_X8_133 dX8_isCode_19 ?_
        refine X_icmp_lt C (tgt := 34) dX8_isCode_21 (by decide) ⟨by omega, by omega⟩ ⟨by omega, by omega⟩ (fun c_21 => ?_) (fun c_21 => ?_)
        · refine X_iconst C dX8_isCode_34 ?_
          exact X_ireturn C M rfl (by decide) (by decide) dX8_isCode_35 ⟨by first | exact rB1 (by omega) | exact rB0 (by omega), rfl, rfl⟩
        · refine X_iload_n C rfl dX8_isCode_24 ?_
          refine X_ldc C (n := 128527) (v := 128527) (by decide +kernel) k_X8_134 dX8_isCode_25 ?_
          refine X_icmp_gt C (tgt := 34) dX8_isCode_27 (by decide) ⟨by omega, by omega⟩ ⟨by omega, by omega⟩ (fun c_27 => ?_) (fun c_27 => ?_)
          · refine X_iconst C dX8_isCode_34 ?_
            exact X_ireturn C M rfl (by decide) (by decide) dX8_isCode_35 ⟨by first | exact rB1 (by omega) | exact rB0 (by omega), rfl, rfl⟩
          · refine X_iconst C dX8_isCode_30 ?_
            refine X_goto C (tgt := 35) dX8_isCode_31 (by decide) ?_
            exact X_ireturn C M rfl (by decide) (by decide) dX8_isCode_35 ⟨by first | exact rB1 (by omega) | exact rB0 (by omega), rfl, rfl⟩
set_option maxRecDepth 100000 in
set_option maxHeartbeats 4000000 in
theorem c_X8_requirePlaceOfEdit {lc : Launch} (hlc : lc.stackTraces = false) {D : va_G} {Y : Nat → ClassId} {A : Nat → Prop} {τ σ : xS} {ρ : xG} {ad : xL} {n d p b : Int} (I : xI n τ) (hd : 0 ≤ d ∧ d < τ 30 0 0) (hp : rg p) (hb : b = 0 ∨ b = 1) : Ct lc yX8_requirePlaceOfEdit cX8_requirePlaceOfEdit 4 none (rmL 0 1 6) D Y A ad (jG Y τ σ ρ ad) [.ref (ad 11 d), .int (iI p), .int (iI b)] (pC (0 ≤ p ∧ p < τ 1 (2 * d) 0 + b) none ad (jG Y τ σ ρ ad)) (pT (fun E => E = eI ∧ ¬ (0 ≤ p ∧ p < τ 1 (2 * d) 0 + b)) ad (jG Y τ σ ρ ad)) := by
  refine Ct_of hlc (by decide +kernel) rfl rfl (own := RX8) (nm := "requirePlaceOfEdit") (l0 := [some (.ref (ad 11 d)), some (.int (iI p)), some (.int (iI b)), none]) rfl (Nat.le_of_ble_eq_true rfl) (fun κ C M => ?_)
  have Ind := I.nd
  have Inc := I.nc
  have Ino := I.no
  have In := I.n0
  have h1 := I.sz (2 * d) 0
  refine X_iload_n C rfl dX8_requirePlaceOfEdit_0 ?_
  refine X_if_eq C (tgt := 16) dX8_requirePlaceOfEdit_1 (by decide) ⟨by omega, by omega⟩ (fun c_1 => ?_) (fun c_1 => ?_)
  · refine X_aload_n C rfl dX8_requirePlaceOfEdit_16 ?_
    refine Xg_X1_text C ⟨by omega, by omega⟩ fl_X8_72 dX8_requirePlaceOfEdit_17 ?_
    refine Xg_X7_size C ⟨by omega, by omega⟩ rfl fl_X8_76 dX8_requirePlaceOfEdit_20 ?_
    refine X_istore_3 C (by decide) rfl dX8_requirePlaceOfEdit_23 ?_
    refine X_iload_n C rfl dX8_requirePlaceOfEdit_24 ?_
    refine X_if_lt C (tgt := 33) dX8_requirePlaceOfEdit_25 (by decide) ⟨by omega, by omega⟩ (fun c_25 => ?_) (fun c_25 => ?_)
    · exact X_throw C M tw_X8_123_127 xs_X8_125 dX8_requirePlaceOfEdit_33 dX8_requirePlaceOfEdit_36 dX8_requirePlaceOfEdit_37 dX8_requirePlaceOfEdit_39 dX8_requirePlaceOfEdit_42 (by decide) (by decide) (by decide) (by decide) ⟨⟨rfl, by omega⟩, rfl, rfl⟩
    · refine X_iload_n C rfl dX8_requirePlaceOfEdit_28 ?_
      refine X_iload_n C rfl dX8_requirePlaceOfEdit_29 ?_
      refine X_icmp_lt C (tgt := 43) dX8_requirePlaceOfEdit_30 (by decide) ⟨by omega, by omega⟩ ⟨by omega, by omega⟩ (fun c_30 => ?_) (fun c_30 => ?_)
      · exact X_return C M (by decide) (by decide) dX8_requirePlaceOfEdit_43 ⟨by omega, rfl, rfl, rfl⟩
      · exact X_throw C M tw_X8_123_127 xs_X8_125 dX8_requirePlaceOfEdit_33 dX8_requirePlaceOfEdit_36 dX8_requirePlaceOfEdit_37 dX8_requirePlaceOfEdit_39 dX8_requirePlaceOfEdit_42 (by decide) (by decide) (by decide) (by decide) ⟨⟨rfl, by omega⟩, rfl, rfl⟩
  · refine X_aload_n C rfl dX8_requirePlaceOfEdit_4 ?_
    refine Xg_X1_text C ⟨by omega, by omega⟩ fl_X8_72 dX8_requirePlaceOfEdit_5 ?_
    refine Xg_X7_size C ⟨by omega, by omega⟩ rfl fl_X8_76 dX8_requirePlaceOfEdit_8 ?_
    refine X_iconst C dX8_requirePlaceOfEdit_11 ?_
    refine X_iadd C dX8_requirePlaceOfEdit_12 ?_
    refine X_goto C (tgt := 23) dX8_requirePlaceOfEdit_13 (by decide) ?_
    refine X_istore_3 C (by decide) rfl dX8_requirePlaceOfEdit_23 ?_
    refine X_iload_n C rfl dX8_requirePlaceOfEdit_24 ?_
    refine X_if_lt C (tgt := 33) dX8_requirePlaceOfEdit_25 (by decide) ⟨by omega, by omega⟩ (fun c_25 => ?_) (fun c_25 => ?_)
    · exact X_throw C M tw_X8_123_127 xs_X8_125 dX8_requirePlaceOfEdit_33 dX8_requirePlaceOfEdit_36 dX8_requirePlaceOfEdit_37 dX8_requirePlaceOfEdit_39 dX8_requirePlaceOfEdit_42 (by decide) (by decide) (by decide) (by decide) ⟨⟨rfl, by omega⟩, rfl, rfl⟩
    · refine X_iload_n C rfl dX8_requirePlaceOfEdit_28 ?_
      refine X_iload_n C rfl dX8_requirePlaceOfEdit_29 ?_
      refine X_icmp_lt C (tgt := 43) dX8_requirePlaceOfEdit_30 (by decide) ⟨by omega, by omega⟩ ⟨by omega, by omega⟩ (fun c_30 => ?_) (fun c_30 => ?_)
      · exact X_return C M (by decide) (by decide) dX8_requirePlaceOfEdit_43 ⟨by omega, rfl, rfl, rfl⟩
      · exact X_throw C M tw_X8_123_127 xs_X8_125 dX8_requirePlaceOfEdit_33 dX8_requirePlaceOfEdit_36 dX8_requirePlaceOfEdit_37 dX8_requirePlaceOfEdit_39 dX8_requirePlaceOfEdit_42 (by decide) (by decide) (by decide) (by decide) ⟨⟨rfl, by omega⟩, rfl, rfl⟩
set_option maxRecDepth 100000 in
set_option maxHeartbeats 4000000 in
theorem c_X8_isFrozen {lc : Launch} (hlc : lc.stackTraces = false) {D : va_G} {Y : Nat → ClassId} {A : Nat → Prop} {τ σ : xS} {ρ : xG} {ad : xL} {n d p b : Int} (I : xI n τ) (hd : 0 ≤ d ∧ d < τ 30 0 0) (hp : 0 ≤ p ∧ p ≤ 80) (hb : b = 0 ∨ b = 1) : Ct lc yX8_isFrozen cX8_isFrozen 5 (some .boolean) (rmL 1 0 0) D Y A ad (jG Y τ σ ρ ad) [.ref (ad 0 0), .ref (ad 11 d), .int (iI p), .int (iI b)] (pE (some (.int (iI (bI (fzA τ d p b))))) ad (jG Y τ σ ρ ad)) (pF) := by
  refine Ct_of hlc (by decide +kernel) rfl rfl (own := RX8) (nm := "isFrozen") (l0 := [some (.ref (ad 0 0)), some (.ref (ad 11 d)), some (.int (iI p)), some (.int (iI b)), none]) rfl (Nat.le_of_ble_eq_true rfl) (fun κ C M => ?_)
  have Ind := I.nd
  have Inc := I.nc
  have Ino := I.no
  have In := I.n0
  refine X_iconst C dX8_isFrozen_0 ?_
  refine X_istore_4 C (by decide) rfl dX8_isFrozen_1 ?_
  have L3 : ∀ (n9 : Nat) (c : Int), (0 ≤ c ∧ c ≤ τ 31 0 0) → (∀ q, 0 ≤ q → q < c → ¬ fzP τ d p b q) → τ 31 0 0 - c < (n9 : Int) → X κ D A 5 0 0 3 ([some (.ref (ad 0 0)), some (.ref (ad 11 d)), some (.int (iI p)), some (.int (iI b)), some (.int (iI c))]) ([]) ad (jG Y τ σ ρ ad) := by
    intro n9
    induction n9 with
    | zero => intro c  hc hall hm; exfalso; omega
    | succ n9 ih =>
      intro c  hc hall hm
      refine X_iload C rfl dX8_isFrozen_3 ?_
      refine X_aload_n C rfl dX8_isFrozen_5 ?_
      refine Xg_X8_commentCount C rfl fl_X8_151 dX8_isFrozen_6 ?_
      skip
      refine X_icmp_ge C (tgt := 49) dX8_isFrozen_9 (by decide) ⟨by omega, by omega⟩ ⟨by omega, by omega⟩ (fun c_9 => ?_) (fun c_9 => ?_)
      · refine X_iconst C dX8_isFrozen_49 ?_
        exact X_ireturn C M rfl (by decide) (by decide) dX8_isFrozen_50 ⟨rB0 (fun ⟨q, a1, a2, a3⟩ => hall q a1 (by omega) a3), rfl, rfl⟩
      · have k1 := I.op c 0
        have k2 := I.on c (by omega) (by omega)
        have k3 := I.fr c 0
        have k4 := I.to c 0
        refine X_aload_n C rfl dX8_isFrozen_12 ?_
        refine Xg_X8_comments C fl_X8_17 dX8_isFrozen_13 ?_
        refine X_iload C rfl dX8_isFrozen_16 ?_
        refine Xa_coms_ld C (by omega) (by omega) (by omega) dX8_isFrozen_18 ?_
        refine X_aload_n C rfl dX8_isFrozen_19 ?_
        refine X_callVE_1 C (c_X0_isOpenOn C.hlc (by omega) (by omega) (by omega) (by omega) (by omega)) cv_X8_154 (jG_14 (by omega)) ⟨_, _, rfl⟩ rfl rfl dX8_isFrozen_20 ?_
        refine X_if_eqB C (tgt := 43) dX8_isFrozen_23 (by decide) (fun c_23 => ?_) (fun c_23 => ?_)
        · refine X_iinc_4 C (by decide) rfl dX8_isFrozen_43 ?_
          refine X_goto C (tgt := 3) dX8_isFrozen_46 (by decide) ?_
          exact ih (c + 1) (by omega) (fun q a1 a2 => by by_cases e : q = c; subst e; exact fun z => c_23 ⟨z.1, z.2.1⟩; exact hall q a1 (by omega)) (by omega)
        · refine X_aload_n C rfl dX8_isFrozen_26 ?_
          refine Xg_X8_comments C fl_X8_17 dX8_isFrozen_27 ?_
          refine X_iload C rfl dX8_isFrozen_30 ?_
          refine Xa_coms_ld C (by omega) (by omega) (by omega) dX8_isFrozen_32 ?_
          refine X_iload_n C rfl dX8_isFrozen_33 ?_
          refine X_iload_n C rfl dX8_isFrozen_34 ?_
          refine X_callVE_2 C (c_X0_freezes C.hlc (by omega) (by omega) (by omega) (by omega) (by omega) (by omega)) cv_X8_158 (jG_14 (by omega)) ⟨_, _, rfl⟩ rfl rfl dX8_isFrozen_35 ?_
          refine X_if_eqB C (tgt := 43) dX8_isFrozen_38 (by decide) (fun c_38 => ?_) (fun c_38 => ?_)
          · refine X_iinc_4 C (by decide) rfl dX8_isFrozen_43 ?_
            refine X_goto C (tgt := 3) dX8_isFrozen_46 (by decide) ?_
            exact ih (c + 1) (by omega) (fun q a1 a2 => by by_cases e : q = c; subst e; exact fun z => c_38 z.2.2; exact hall q a1 (by omega)) (by omega)
          · refine X_iconst C dX8_isFrozen_41 ?_
            exact X_ireturn C M rfl (by decide) (by decide) dX8_isFrozen_42 ⟨rB1 ⟨c, by omega, by omega, c_23.1, c_23.2, c_38.1, c_38.2⟩, rfl, rfl⟩
  exact L3 9 0 (by omega) (fun q a1 a2 => by omega) (by omega)
set_option maxRecDepth 100000 in
set_option maxHeartbeats 4000000 in
theorem c_X8_barOf {lc : Launch} (hlc : lc.stackTraces = false) {D : va_G} {Y : Nat → ClassId} {A : Nat → Prop} {τ σ : xS} {ρ : xG} {ad : xL} {n d p b : Int} (I : xI n τ) (hd : 0 ≤ d ∧ d < τ 30 0 0) (hp : 0 ≤ p ∧ p ≤ 80) (hb : b = 0 ∨ b = 1) : Ct lc yX8_barOf cX8_barOf 4 (some .char) (rmL 2 0 0) D Y A ad (jG Y τ σ ρ ad) [.ref (ad 0 0), .ref (ad 11 d), .int (iI p), .int (iI b)] (pE (some (.int (iI (brA τ d p b)))) ad (jG Y τ σ ρ ad)) (pF) := by
  refine Ct_of hlc (by decide +kernel) rfl rfl (own := RX8) (nm := "barOf") (l0 := [some (.ref (ad 0 0)), some (.ref (ad 11 d)), some (.int (iI p)), some (.int (iI b))]) rfl (Nat.le_of_ble_eq_true rfl) (fun κ C M => ?_)
  have Ind := I.nd
  have Inc := I.nc
  have Ino := I.no
  have In := I.n0
  have h1 := I.hr
  have h2 := I.cl d 0
  have h3 := I.pm
  have h4 := I.po
  refine X_aload_n C rfl dX8_barOf_0 ?_
  refine Xg_X8_now C rfl fl_X8_140 dX8_barOf_1 ?_
  refine X_aload_n C rfl dX8_barOf_4 ?_
  refine Xg_X1_closingHour C (by omega) rfl fl_X8_120 dX8_barOf_5 ?_
  refine X_icmp_lt C (tgt := 14) dX8_barOf_8 (by decide) ⟨by omega, by omega⟩ ⟨by omega, by omega⟩ (fun c_8 => ?_) (fun c_8 => ?_)
  · refine X_aload_n C rfl dX8_barOf_14 ?_
    refine X_aload_n C rfl dX8_barOf_15 ?_
    refine X_iload_n C rfl dX8_barOf_16 ?_
    refine X_iload_n C rfl dX8_barOf_17 ?_
    refine X_callVE_3 C (c_X8_isFrozen C.hlc (by assumption) (by omega) (by omega) (by omega)) cv_X8_143 (jG_0 rfl) ⟨_, _, rfl⟩ rfl rfl dX8_barOf_18 ?_
    refine X_if_eqB C (tgt := 27) dX8_barOf_21 (by decide) (fun c_21 => ?_) (fun c_21 => ?_)
    · refine X_aload_n C rfl dX8_barOf_27 ?_
      refine Xg_X8_press C fl_X8_37 dX8_barOf_28 ?_
      refine X_aload_n C rfl dX8_barOf_31 ?_
      refine X_iload_n C rfl dX8_barOf_32 ?_
      refine X_callVE_2 C (c_X5_locks C.hlc (by omega) (by omega) (by omega) (by omega) (fun i a b => ⟨(I.od i a b).1, (I.od i a b).2.1⟩)) cv_X8_147 (jG_9 rfl) ⟨_, _, rfl⟩ rfl rfl dX8_barOf_33 ?_
      refine X_if_eqB C (tgt := 42) dX8_barOf_36 (by decide) (fun c_36 => ?_) (fun c_36 => ?_)
      · refine X_bipush C ⟨by decide, by decide⟩ dX8_barOf_42 ?_
        exact X_ireturn C M rfl (by decide) (by decide) dX8_barOf_44 ⟨rI (by unfold brA; rw [if_neg (by omega), pk_f c_21]; exact (pk_f c_36).symm), rfl, rfl⟩
      · refine X_bipush C ⟨by decide, by decide⟩ dX8_barOf_39 ?_
        exact X_ireturn C M rfl (by decide) (by decide) dX8_barOf_41 ⟨rI (by unfold brA; rw [if_neg (by omega), pk_f c_21]; exact (pk_t c_36).symm), rfl, rfl⟩
    · refine X_bipush C ⟨by decide, by decide⟩ dX8_barOf_24 ?_
      exact X_ireturn C M rfl (by decide) (by decide) dX8_barOf_26 ⟨rI (by unfold brA; rw [if_neg (by omega), pk_t c_21]), rfl, rfl⟩
  · refine X_bipush C ⟨by decide, by decide⟩ dX8_barOf_11 ?_
    exact X_ireturn C M rfl (by decide) (by decide) dX8_barOf_13 ⟨rI (by unfold brA; rw [if_pos (by omega)]), rfl, rfl⟩
set_option maxRecDepth 100000 in
set_option maxHeartbeats 4000000 in
theorem c_X8_requireNotBarred {lc : Launch} (hlc : lc.stackTraces = false) {D : va_G} {Y : Nat → ClassId} {A : Nat → Prop} {τ σ : xS} {ρ : xG} {ad : xL} {n d p b : Int} (I : xI n τ) (hd : 0 ≤ d ∧ d < τ 30 0 0) (hp : 0 ≤ p ∧ p ≤ 80) (hb : b = 0 ∨ b = 1) : Ct lc yX8_requireNotBarred cX8_requireNotBarred 4 none (rmL 3 1 6) D Y A ad (jG Y τ σ ρ ad) [.ref (ad 0 0), .ref (ad 11 d), .int (iI p), .int (iI b)] (pC (brA τ d p b = 45) none ad (jG Y τ σ ρ ad)) (pT (fun E => E = eU ∧ brA τ d p b ≠ 45) ad (jG Y τ σ ρ ad)) := by
  refine Ct_of hlc (by decide +kernel) rfl rfl (own := RX8) (nm := "requireNotBarred") (l0 := [some (.ref (ad 0 0)), some (.ref (ad 11 d)), some (.int (iI p)), some (.int (iI b))]) rfl (Nat.le_of_ble_eq_true rfl) (fun κ C M => ?_)
  have hv := brA_v τ d p b
  refine X_aload_n C rfl dX8_requireNotBarred_0 ?_
  refine X_aload_n C rfl dX8_requireNotBarred_1 ?_
  refine X_iload_n C rfl dX8_requireNotBarred_2 ?_
  refine X_iload_n C rfl dX8_requireNotBarred_3 ?_
  refine X_callVE_3 C (c_X8_barOf C.hlc (by assumption) (by omega) (by omega) (by omega)) cv_X8_114 (jG_0 rfl) ⟨_, _, rfl⟩ rfl rfl dX8_requireNotBarred_4 ?_
  refine X_bipush C ⟨by decide, by decide⟩ dX8_requireNotBarred_7 ?_
  refine X_icmp_eq C (tgt := 22) dX8_requireNotBarred_9 (by decide) ⟨by omega, by omega⟩ ⟨by omega, by omega⟩ (fun c_9 => ?_) (fun c_9 => ?_)
  · exact X_return C M (by decide) (by decide) dX8_requireNotBarred_22 ⟨by omega, rfl, rfl, rfl⟩
  · exact X_throw C M tw_X8_135_139 xs_X8_137 dX8_requireNotBarred_12 dX8_requireNotBarred_15 dX8_requireNotBarred_16 dX8_requireNotBarred_18 dX8_requireNotBarred_21 (by decide) (by decide) (by decide) (by decide) ⟨⟨rfl, by omega⟩, rfl, rfl⟩
set_option maxRecDepth 100000 in
set_option maxHeartbeats 4000000 in
theorem c_X8_moveSpansForInsertion {lc : Launch} (hlc : lc.stackTraces = false) {D : va_G} {Y : Nat → ClassId} {A : Nat → Prop} {τ σ : xS} {ρ : xG} {ad : xL} {d p : Int} (hnc : 0 ≤ τ 31 0 0 ∧ τ 31 0 0 ≤ 8) (hd : 0 ≤ d ∧ d < τ 30 0 0) (hp : 0 ≤ p ∧ p ≤ 80) (hon : ∀ i, 0 ≤ i → i < τ 31 0 0 → 0 ≤ τ 5 i 0 ∧ τ 5 i 0 < τ 30 0 0) (hop : ∀ i j, τ 8 i j = 0 ∨ τ 8 i j = 1) (hfr : ∀ i j, 0 ≤ τ 6 i j ∧ τ 6 i j ≤ 80) : Ct lc yX8_moveSpansForInsertion cX8_moveSpansForInsertion 4 none (rmL 1 0 0) D Y A ad (jG Y τ σ ρ ad) [.ref (ad 0 0), .ref (ad 11 d), .int (iI p)] (pE none ad (jG Y (mvS τ d p 0 1 (τ 31 0 0)) σ ρ ad)) (pF) := by
  refine Ct_of hlc (by decide +kernel) rfl rfl (own := RX8) (nm := "moveSpansForInsertion") (l0 := [some (.ref (ad 0 0)), some (.ref (ad 11 d)), some (.int (iI p)), none]) rfl (Nat.le_of_ble_eq_true rfl) (fun κ C M => ?_)
  refine X_iconst C dX8_moveSpansForInsertion_0 ?_
  refine X_istore_3 C (by decide) rfl dX8_moveSpansForInsertion_1 ?_
  have L2 : ∀ (n9 : Nat) (c : Int), (0 ≤ c ∧ c ≤ τ 31 0 0) → τ 31 0 0 - c < (n9 : Int) → X κ D A 4 0 0 2 ([some (.ref (ad 0 0)), some (.ref (ad 11 d)), some (.int (iI p)), some (.int (iI c))]) ([]) ad (jG Y (mvS τ d p 0 1 c) σ ρ ad) := by
    intro n9
    induction n9 with
    | zero => intro c  hc hm; exfalso; omega
    | succ n9 ih =>
      intro c  hc hm
      refine X_iload_n C rfl dX8_moveSpansForInsertion_2 ?_
      refine X_aload_n C rfl dX8_moveSpansForInsertion_3 ?_
      refine Xg_X8_commentCount C (v := τ 31 0 0) (by simp (discharger := decide) only [mvS_r]) fl_X8_151 dX8_moveSpansForInsertion_4 ?_
      refine X_icmp_ge C (tgt := 52) dX8_moveSpansForInsertion_7 (by decide) ⟨by omega, by omega⟩ ⟨by omega, by omega⟩ (fun c_7 => ?_) (fun c_7 => ?_)
      · obtain rfl : c = τ 31 0 0 := by omega
        exact X_return C M (by decide) (by decide) dX8_moveSpansForInsertion_52 ⟨rfl, rfl, rfl⟩
      · have k1 := hop c 0
        have k2 := hon c (by omega) (by omega)
        have k3 := hfr c 0
        have hk : c < (mvS τ d p 0 1 c) 31 0 0 := (by simp (discharger := decide) only [mvS_r]; omega)
        refine X_aload_n C rfl dX8_moveSpansForInsertion_10 ?_
        refine Xg_X8_comments C fl_X8_17 dX8_moveSpansForInsertion_11 ?_
        refine X_iload_n C rfl dX8_moveSpansForInsertion_14 ?_
        refine Xa_coms_ld C (by omega) (by omega) (by omega) dX8_moveSpansForInsertion_15 ?_
        refine X_aload_n C rfl dX8_moveSpansForInsertion_16 ?_
        refine X_callVE_1 C (c_X0_isOpenOn C.hlc hc.1 hk (by simp (discharger := decide) only [mvS_r]; omega) (by simp (discharger := decide) only [mvS_r]; exact k1) (by simp (discharger := decide) only [mvS_r]; omega)) cv_X8_154 (jG_14 (by simp (discharger := decide) only [mvS_r]; omega)) ⟨_, _, rfl⟩ rfl rfl dX8_moveSpansForInsertion_17 ?_
        rw [show (bI ((mvS τ d p 0 1 c) 8 c 0 = 1 ∧ (mvS τ d p 0 1 c) 5 c 0 = d)) = bI (τ 8 c 0 = 1 ∧ τ 5 c 0 = d) from by simp (discharger := decide) only [mvS_r]]
        refine X_if_eqB C (tgt := 46) dX8_moveSpansForInsertion_20 (by decide) (fun c_20 => ?_) (fun c_20 => ?_)
        · refine X_iinc_3 C (by decide) rfl dX8_moveSpansForInsertion_46 ?_
          refine X_goto C (tgt := 2) dX8_moveSpansForInsertion_49 (by decide) ?_
          rw [← mvS_n (τ := τ) (d := d) (p := p) (k := 0) (b := 1) hc.1 (fun q => c_20 ⟨q.1, q.2.1⟩)]
          exact ih (c + 1) (by omega) (by omega)
        · refine X_iload_n C rfl dX8_moveSpansForInsertion_23 ?_
          refine X_aload_n C rfl dX8_moveSpansForInsertion_24 ?_
          refine Xg_X8_comments C fl_X8_17 dX8_moveSpansForInsertion_25 ?_
          refine X_iload_n C rfl dX8_moveSpansForInsertion_28 ?_
          refine Xa_coms_ld C (by omega) (by omega) (by omega) dX8_moveSpansForInsertion_29 ?_
          refine Xg_X0_from C (by simp (discharger := decide) only [mvS_r]; omega) (v := τ 6 c 0) (mvS_hi (Int.le_refl c)) fl_X8_162 dX8_moveSpansForInsertion_30 ?_
          refine X_icmp_gt C (tgt := 46) dX8_moveSpansForInsertion_33 (by decide) ⟨by omega, by omega⟩ ⟨by omega, by omega⟩ (fun c_33 => ?_) (fun c_33 => ?_)
          · refine X_iinc_3 C (by decide) rfl dX8_moveSpansForInsertion_46 ?_
            refine X_goto C (tgt := 2) dX8_moveSpansForInsertion_49 (by decide) ?_
            rw [← mvS_n (τ := τ) (d := d) (p := p) (k := 0) (b := 1) hc.1 (fun q => by have := q.2.2; omega)]
            exact ih (c + 1) (by omega) (by omega)
          · refine X_aload_n C rfl dX8_moveSpansForInsertion_36 ?_
            refine Xg_X8_comments C fl_X8_17 dX8_moveSpansForInsertion_37 ?_
            refine X_iload_n C rfl dX8_moveSpansForInsertion_40 ?_
            refine Xa_coms_ld C (by omega) (by omega) (by omega) dX8_moveSpansForInsertion_41 ?_
            refine X_iconst C dX8_moveSpansForInsertion_42 ?_
            refine X_callVE0_1 C (c_X0_moveBy C.hlc hc.1 hk) cv_X8_165 (jG_14 (by simp (discharger := decide) only [mvS_r]; omega)) ⟨_, _, rfl⟩ rfl rfl dX8_moveSpansForInsertion_43 ?_
            refine X_iinc_3 C (by decide) rfl dX8_moveSpansForInsertion_46 ?_
            refine X_goto C (tgt := 2) dX8_moveSpansForInsertion_49 (by decide) ?_
            rw [mvS_hi (r := 6) (Int.le_refl c), mvS_hi (r := 7) (Int.le_refl c), ← mvS_y (τ := τ) (d := d) (p := p) (k := 0) (b := 1) hc.1 ⟨c_20.1, c_20.2, by omega⟩]
            exact ih (c + 1) (by omega) (by omega)
  have h9 := L2 9 0 (by omega) (by omega)
  rw [mvS_0] at h9
  exact h9
set_option maxRecDepth 100000 in
set_option maxHeartbeats 4000000 in
theorem c_X8_moveSpansForDeletion {lc : Launch} (hlc : lc.stackTraces = false) {D : va_G} {Y : Nat → ClassId} {A : Nat → Prop} {τ σ : xS} {ρ : xG} {ad : xL} {d p : Int} (hnc : 0 ≤ τ 31 0 0 ∧ τ 31 0 0 ≤ 8) (hd : 0 ≤ d ∧ d < τ 30 0 0) (hp : 0 ≤ p ∧ p ≤ 80) (hon : ∀ i, 0 ≤ i → i < τ 31 0 0 → 0 ≤ τ 5 i 0 ∧ τ 5 i 0 < τ 30 0 0) (hop : ∀ i j, τ 8 i j = 0 ∨ τ 8 i j = 1) (hfr : ∀ i j, 0 ≤ τ 6 i j ∧ τ 6 i j ≤ 80) : Ct lc yX8_moveSpansForDeletion cX8_moveSpansForDeletion 4 none (rmL 1 0 0) D Y A ad (jG Y τ σ ρ ad) [.ref (ad 0 0), .ref (ad 11 d), .int (iI p)] (pE none ad (jG Y (mvS τ d p 1 (-1) (τ 31 0 0)) σ ρ ad)) (pF) := by
  refine Ct_of hlc (by decide +kernel) rfl rfl (own := RX8) (nm := "moveSpansForDeletion") (l0 := [some (.ref (ad 0 0)), some (.ref (ad 11 d)), some (.int (iI p)), none]) rfl (Nat.le_of_ble_eq_true rfl) (fun κ C M => ?_)
  refine X_iconst C dX8_moveSpansForDeletion_0 ?_
  refine X_istore_3 C (by decide) rfl dX8_moveSpansForDeletion_1 ?_
  have L2 : ∀ (n9 : Nat) (c : Int), (0 ≤ c ∧ c ≤ τ 31 0 0) → τ 31 0 0 - c < (n9 : Int) → X κ D A 4 0 0 2 ([some (.ref (ad 0 0)), some (.ref (ad 11 d)), some (.int (iI p)), some (.int (iI c))]) ([]) ad (jG Y (mvS τ d p 1 (-1) c) σ ρ ad) := by
    intro n9
    induction n9 with
    | zero => intro c  hc hm; exfalso; omega
    | succ n9 ih =>
      intro c  hc hm
      refine X_iload_n C rfl dX8_moveSpansForDeletion_2 ?_
      refine X_aload_n C rfl dX8_moveSpansForDeletion_3 ?_
      refine Xg_X8_commentCount C (v := τ 31 0 0) (by simp (discharger := decide) only [mvS_r]) fl_X8_151 dX8_moveSpansForDeletion_4 ?_
      refine X_icmp_ge C (tgt := 52) dX8_moveSpansForDeletion_7 (by decide) ⟨by omega, by omega⟩ ⟨by omega, by omega⟩ (fun c_7 => ?_) (fun c_7 => ?_)
      · obtain rfl : c = τ 31 0 0 := by omega
        exact X_return C M (by decide) (by decide) dX8_moveSpansForDeletion_52 ⟨rfl, rfl, rfl⟩
      · have k1 := hop c 0
        have k2 := hon c (by omega) (by omega)
        have k3 := hfr c 0
        have hk : c < (mvS τ d p 1 (-1) c) 31 0 0 := (by simp (discharger := decide) only [mvS_r]; omega)
        refine X_aload_n C rfl dX8_moveSpansForDeletion_10 ?_
        refine Xg_X8_comments C fl_X8_17 dX8_moveSpansForDeletion_11 ?_
        refine X_iload_n C rfl dX8_moveSpansForDeletion_14 ?_
        refine Xa_coms_ld C (by omega) (by omega) (by omega) dX8_moveSpansForDeletion_15 ?_
        refine X_aload_n C rfl dX8_moveSpansForDeletion_16 ?_
        refine X_callVE_1 C (c_X0_isOpenOn C.hlc hc.1 hk (by simp (discharger := decide) only [mvS_r]; omega) (by simp (discharger := decide) only [mvS_r]; exact k1) (by simp (discharger := decide) only [mvS_r]; omega)) cv_X8_154 (jG_14 (by simp (discharger := decide) only [mvS_r]; omega)) ⟨_, _, rfl⟩ rfl rfl dX8_moveSpansForDeletion_17 ?_
        rw [show (bI ((mvS τ d p 1 (-1) c) 8 c 0 = 1 ∧ (mvS τ d p 1 (-1) c) 5 c 0 = d)) = bI (τ 8 c 0 = 1 ∧ τ 5 c 0 = d) from by simp (discharger := decide) only [mvS_r]]
        refine X_if_eqB C (tgt := 46) dX8_moveSpansForDeletion_20 (by decide) (fun c_20 => ?_) (fun c_20 => ?_)
        · refine X_iinc_3 C (by decide) rfl dX8_moveSpansForDeletion_46 ?_
          refine X_goto C (tgt := 2) dX8_moveSpansForDeletion_49 (by decide) ?_
          rw [← mvS_n (τ := τ) (d := d) (p := p) (k := 1) (b := (-1)) hc.1 (fun q => c_20 ⟨q.1, q.2.1⟩)]
          exact ih (c + 1) (by omega) (by omega)
        · refine X_iload_n C rfl dX8_moveSpansForDeletion_23 ?_
          refine X_aload_n C rfl dX8_moveSpansForDeletion_24 ?_
          refine Xg_X8_comments C fl_X8_17 dX8_moveSpansForDeletion_25 ?_
          refine X_iload_n C rfl dX8_moveSpansForDeletion_28 ?_
          refine Xa_coms_ld C (by omega) (by omega) (by omega) dX8_moveSpansForDeletion_29 ?_
          refine Xg_X0_from C (by simp (discharger := decide) only [mvS_r]; omega) (v := τ 6 c 0) (mvS_hi (Int.le_refl c)) fl_X8_162 dX8_moveSpansForDeletion_30 ?_
          refine X_icmp_ge C (tgt := 46) dX8_moveSpansForDeletion_33 (by decide) ⟨by omega, by omega⟩ ⟨by omega, by omega⟩ (fun c_33 => ?_) (fun c_33 => ?_)
          · refine X_iinc_3 C (by decide) rfl dX8_moveSpansForDeletion_46 ?_
            refine X_goto C (tgt := 2) dX8_moveSpansForDeletion_49 (by decide) ?_
            rw [← mvS_n (τ := τ) (d := d) (p := p) (k := 1) (b := (-1)) hc.1 (fun q => by have := q.2.2; omega)]
            exact ih (c + 1) (by omega) (by omega)
          · refine X_aload_n C rfl dX8_moveSpansForDeletion_36 ?_
            refine Xg_X8_comments C fl_X8_17 dX8_moveSpansForDeletion_37 ?_
            refine X_iload_n C rfl dX8_moveSpansForDeletion_40 ?_
            refine Xa_coms_ld C (by omega) (by omega) (by omega) dX8_moveSpansForDeletion_41 ?_
            refine X_iconst C dX8_moveSpansForDeletion_42 ?_
            refine X_callVE0_1 C (c_X0_moveBy C.hlc hc.1 hk) cv_X8_165 (jG_14 (by simp (discharger := decide) only [mvS_r]; omega)) ⟨_, _, rfl⟩ rfl rfl dX8_moveSpansForDeletion_43 ?_
            refine X_iinc_3 C (by decide) rfl dX8_moveSpansForDeletion_46 ?_
            refine X_goto C (tgt := 2) dX8_moveSpansForDeletion_49 (by decide) ?_
            rw [mvS_hi (r := 6) (Int.le_refl c), mvS_hi (r := 7) (Int.le_refl c), ← mvS_y (τ := τ) (d := d) (p := p) (k := 1) (b := (-1)) hc.1 ⟨c_20.1, c_20.2, by omega⟩]
            exact ih (c + 1) (by omega) (by omega)
  have h9 := L2 9 0 (by omega) (by omega)
  rw [mvS_0] at h9
  exact h9
set_option maxRecDepth 100000 in
set_option maxHeartbeats 4000000 in
theorem c_X8_commentOf {lc : Launch} (hlc : lc.stackTraces = false) {D : va_G} {Y : Nat → ClassId} {A : Nat → Prop} {τ σ : xS} {ρ : xG} {ad : xL} {n z : Int} (I : xI n τ) (hz : rg z) : Ct lc yX8_commentOf cX8_commentOf 2 (some (.object "Proofpress$Comment")) (rmL 0 1 6) D Y A ad (jG Y τ σ ρ ad) [.ref (ad 0 0), .int (iI z)] (pC (0 ≤ z ∧ z < τ 31 0 0) (some (.ref (ad 14 z))) ad (jG Y τ σ ρ ad)) (pT (fun E => E = nX ∧ ¬ (0 ≤ z ∧ z < τ 31 0 0)) ad (jG Y τ σ ρ ad)) := by
  refine Ct_of hlc (by decide +kernel) rfl rfl (own := RX8) (nm := "commentOf") (l0 := [some (.ref (ad 0 0)), some (.int (iI z))]) rfl (Nat.le_of_ble_eq_true rfl) (fun κ C M => ?_)
  have Ind := I.nd
  have Inc := I.nc
  have Ino := I.no
  have In := I.n0
  refine X_iload_n C rfl dX8_commentOf_0 ?_
  refine X_if_lt C (tgt := 12) dX8_commentOf_1 (by decide) ⟨by omega, by omega⟩ (fun c_1 => ?_) (fun c_1 => ?_)
  · exact X_throwN C M tw_X8_128_132 xs_X8_197 dX8_commentOf_12 dX8_commentOf_15 dX8_commentOf_16 dX8_commentOf_18 dX8_commentOf_21 (by decide) (by decide) (by decide) (by decide) ⟨⟨rfl, by omega⟩, rfl, rfl⟩
  · refine X_iload_n C rfl dX8_commentOf_4 ?_
    refine X_aload_n C rfl dX8_commentOf_5 ?_
    refine Xg_X8_commentCount C rfl fl_X8_151 dX8_commentOf_6 ?_
    refine X_icmp_lt C (tgt := 22) dX8_commentOf_9 (by decide) ⟨by omega, by omega⟩ ⟨by omega, by omega⟩ (fun c_9 => ?_) (fun c_9 => ?_)
    · refine X_aload_n C rfl dX8_commentOf_22 ?_
      refine Xg_X8_comments C fl_X8_17 dX8_commentOf_23 ?_
      refine X_iload_n C rfl dX8_commentOf_26 ?_
      refine Xa_coms_ld C (by omega) (by omega) (by omega) dX8_commentOf_27 ?_
      exact X_areturn C M (by decide) (by decide) dX8_commentOf_28 ⟨by omega, rfl, rfl, rfl⟩
    · exact X_throwN C M tw_X8_128_132 xs_X8_197 dX8_commentOf_12 dX8_commentOf_15 dX8_commentOf_16 dX8_commentOf_18 dX8_commentOf_21 (by decide) (by decide) (by decide) (by decide) ⟨⟨rfl, by omega⟩, rfl, rfl⟩
set_option maxRecDepth 100000 in
set_option maxHeartbeats 4000000 in
theorem c_X8_openCommentOf {lc : Launch} (hlc : lc.stackTraces = false) {D : va_G} {Y : Nat → ClassId} {A : Nat → Prop} {τ σ : xS} {ρ : xG} {ad : xL} {n z : Int} (I : xI n τ) (hz : rg z) : Ct lc yX8_openCommentOf cX8_openCommentOf 3 (some (.object "Proofpress$Comment")) (rmL 1 2 12) D Y A ad (jG Y τ σ ρ ad) [.ref (ad 0 0), .int (iI z)] (pC (0 ≤ z ∧ z < τ 31 0 0 ∧ τ 8 z 0 = 1) (some (.ref (ad 14 z))) ad (jG Y τ σ ρ ad)) (pT (fun E => E = nX ∧ ¬ (0 ≤ z ∧ z < τ 31 0 0) ∨ E = eS ∧ (0 ≤ z ∧ z < τ 31 0 0) ∧ τ 8 z 0 = 0) ad (jG Y τ σ ρ ad)) := by
  refine Ct_of hlc (by decide +kernel) rfl rfl (own := RX8) (nm := "openCommentOf") (l0 := [some (.ref (ad 0 0)), some (.int (iI z)), none]) rfl (Nat.le_of_ble_eq_true rfl) (fun κ C M => ?_)
  have k1 := I.op z 0
  refine X_aload_n C rfl dX8_openCommentOf_0 ?_
  refine X_iload_n C rfl dX8_openCommentOf_1 ?_
  refine X_callVC_1 C M (c_X8_commentOf C.hlc (by assumption) (by omega)) cv_X8_191 (jG_0 rfl) ⟨_, _, rfl⟩ rfl rfl dX8_openCommentOf_2 (fun E h => ⟨Or.inl h, rfl, rfl⟩) (fun h_2 => ?_)
  refine X_astore_2 C (by decide) rfl dX8_openCommentOf_5 ?_
  refine X_aload_n C rfl dX8_openCommentOf_6 ?_
  refine Xg_X0_open C (by omega) rfl fl_X8_179 dX8_openCommentOf_7 ?_
  refine X_if_ne C (tgt := 23) dX8_openCommentOf_10 (by decide) ⟨by omega, by omega⟩ (fun c_10 => ?_) (fun c_10 => ?_)
  · refine X_aload_n C rfl dX8_openCommentOf_23 ?_
    exact X_areturn C M (by decide) (by decide) dX8_openCommentOf_24 ⟨by omega, rfl, rfl, rfl⟩
  · exact X_throw C M tw_X8_45_49 xs_X8_199 dX8_openCommentOf_13 dX8_openCommentOf_16 dX8_openCommentOf_17 dX8_openCommentOf_19 dX8_openCommentOf_22 (by decide) (by decide) (by decide) (by decide) ⟨Or.inr ⟨rfl, by omega, by omega⟩, rfl, rfl⟩
set_option maxRecDepth 100000 in
set_option maxHeartbeats 4000000 in
theorem c_X8_openCommentsOn {lc : Launch} (hlc : lc.stackTraces = false) {D : va_G} {Y : Nat → ClassId} {A : Nat → Prop} {τ σ : xS} {ρ : xG} {ad : xL} {n d : Int} (I : xI n τ) (hd : 0 ≤ d ∧ d < τ 30 0 0) : Ct lc yX8_openCommentsOn cX8_openCommentsOn 4 (some .int) (rmL 1 0 0) D Y A ad (jG Y τ σ ρ ad) [.ref (ad 0 0), .ref (ad 11 d)] (pE (some (.int (iI (opA τ d (τ 31 0 0))))) ad (jG Y τ σ ρ ad)) (pF) := by
  refine Ct_of hlc (by decide +kernel) rfl rfl (own := RX8) (nm := "openCommentsOn") (l0 := [some (.ref (ad 0 0)), some (.ref (ad 11 d)), none, none]) rfl (Nat.le_of_ble_eq_true rfl) (fun κ C M => ?_)
  have Ind := I.nd
  have Inc := I.nc
  have Ino := I.no
  have In := I.n0
  refine X_iconst C dX8_openCommentsOn_0 ?_
  refine X_istore_2 C (by decide) rfl dX8_openCommentsOn_1 ?_
  refine X_iconst C dX8_openCommentsOn_2 ?_
  refine X_istore_3 C (by decide) rfl dX8_openCommentsOn_3 ?_
  have L4 : ∀ (n9 : Nat) (a c : Int), (0 ≤ c ∧ c ≤ τ 31 0 0) → (a = opA τ d c) → τ 31 0 0 - c < (n9 : Int) → X κ D A 4 0 0 4 ([some (.ref (ad 0 0)), some (.ref (ad 11 d)), some (.int (iI a)), some (.int (iI c))]) ([]) ad (jG Y τ σ ρ ad) := by
    intro n9
    induction n9 with
    | zero => intro a c  hc ha hm; exfalso; omega
    | succ n9 ih =>
      intro a c  hc ha hm
      refine X_iload_n C rfl dX8_openCommentsOn_4 ?_
      refine X_aload_n C rfl dX8_openCommentsOn_5 ?_
      refine Xg_X8_commentCount C rfl fl_X8_151 dX8_openCommentsOn_6 ?_
      refine X_icmp_ge C (tgt := 34) dX8_openCommentsOn_9 (by decide) ⟨by omega, by omega⟩ ⟨by omega, by omega⟩ (fun c_9 => ?_) (fun c_9 => ?_)
      · obtain rfl : c = τ 31 0 0 := by omega
        refine X_iload_n C rfl dX8_openCommentsOn_34 ?_
        exact X_ireturn C M rfl (by decide) (by decide) dX8_openCommentsOn_35 ⟨rI ha, rfl, rfl⟩
      · have k1 := I.op c 0
        have k2 := I.on c (by omega) (by omega)
        refine X_aload_n C rfl dX8_openCommentsOn_12 ?_
        refine Xg_X8_comments C fl_X8_17 dX8_openCommentsOn_13 ?_
        refine X_iload_n C rfl dX8_openCommentsOn_16 ?_
        refine Xa_coms_ld C (by omega) (by omega) (by omega) dX8_openCommentsOn_17 ?_
        refine X_aload_n C rfl dX8_openCommentsOn_18 ?_
        refine X_callVE_1 C (c_X0_isOpenOn C.hlc (by omega) (by omega) (by omega) (by omega) (by omega)) cv_X8_154 (jG_14 (by omega)) ⟨_, _, rfl⟩ rfl rfl dX8_openCommentsOn_19 ?_
        refine X_if_eqB C (tgt := 28) dX8_openCommentsOn_22 (by decide) (fun c_22 => ?_) (fun c_22 => ?_)
        · refine X_iinc_3 C (by decide) rfl dX8_openCommentsOn_28 ?_
          refine X_goto C (tgt := 4) dX8_openCommentsOn_31 (by decide) ?_
          exact ih _ (c + 1) (by omega) (by unfold opA at ha ⊢; rw [sumZ_s hc.1, ← ha, bI_f c_22]; omega) (by omega)
        · refine X_iinc_2 C (by decide) rfl dX8_openCommentsOn_25 ?_
          refine X_iinc_3 C (by decide) rfl dX8_openCommentsOn_28 ?_
          refine X_goto C (tgt := 4) dX8_openCommentsOn_31 (by decide) ?_
          exact ih _ (c + 1) (by omega) (by unfold opA at ha ⊢; rw [sumZ_s hc.1, ← ha, bI_t c_22]) (by omega)
  exact L4 9 0 0 (by omega) rfl (by omega)
set_option maxRecDepth 100000 in
set_option maxHeartbeats 4000000 in
theorem c_X8_proofedDocumentOf {lc : Launch} (hlc : lc.stackTraces = false) {D : va_G} {Y : Nat → ClassId} {A : Nat → Prop} {τ σ : xS} {ρ : xG} {ad : xL} {n z : Int} (I : xI n τ) (hz : rg z) : Ct lc yX8_proofedDocumentOf cX8_proofedDocumentOf 3 (some (.object "Proofpress$Document")) (rmL 1 2 12) D Y A ad (jG Y τ σ ρ ad) [.ref (ad 0 0), .int (iI z)] (pC (0 ≤ z ∧ z < τ 30 0 0 ∧ τ 3 z 0 ≠ -1) (some (.ref (ad 11 z))) ad (jG Y τ σ ρ ad)) (pT (fun E => E = nX ∧ ¬ (0 ≤ z ∧ z < τ 30 0 0) ∨ E = eS ∧ (0 ≤ z ∧ z < τ 30 0 0) ∧ τ 3 z 0 = -1) ad (jG Y τ σ ρ ad)) := by
  refine Ct_of hlc (by decide +kernel) rfl rfl (own := RX8) (nm := "proofedDocumentOf") (l0 := [some (.ref (ad 0 0)), some (.int (iI z)), none]) rfl (Nat.le_of_ble_eq_true rfl) (fun κ C M => ?_)
  have k1 := I.pv z 0
  have In := I.n0
  refine X_aload_n C rfl dX8_proofedDocumentOf_0 ?_
  refine X_iload_n C rfl dX8_proofedDocumentOf_1 ?_
  refine X_callVC_1 C M (c_X8_documentOf C.hlc (by assumption) (by omega)) cv_X8_55 (jG_0 rfl) ⟨_, _, rfl⟩ rfl rfl dX8_proofedDocumentOf_2 (fun E h => ⟨Or.inl h, rfl, rfl⟩) (fun h_2 => ?_)
  refine X_astore_2 C (by decide) rfl dX8_proofedDocumentOf_5 ?_
  refine X_aload_n C rfl dX8_proofedDocumentOf_6 ?_
  refine X_callVE_0 C (c_X1_hasProof C.hlc (by omega) (by omega) (by omega)) cv_X8_242 (jG_11 (by omega)) ⟨_, _, rfl⟩ rfl rfl dX8_proofedDocumentOf_7 ?_
  refine X_if_neB C (tgt := 23) dX8_proofedDocumentOf_10 (by decide) (fun c_10 => ?_) (fun c_10 => ?_)
  · refine X_aload_n C rfl dX8_proofedDocumentOf_23 ?_
    exact X_areturn C M (by decide) (by decide) dX8_proofedDocumentOf_24 ⟨⟨by omega, by omega, c_10⟩, rfl, rfl, rfl⟩
  · exact X_throw C M tw_X8_45_49 xs_X8_246 dX8_proofedDocumentOf_13 dX8_proofedDocumentOf_16 dX8_proofedDocumentOf_17 dX8_proofedDocumentOf_19 dX8_proofedDocumentOf_22 (by decide) (by decide) (by decide) (by decide) ⟨Or.inr ⟨rfl, by omega, Classical.not_not.mp c_10⟩, rfl, rfl⟩
set_option maxRecDepth 100000 in
set_option maxHeartbeats 4000000 in
theorem c_X8_requireSheet {lc : Launch} (hlc : lc.stackTraces = false) {D : va_G} {Y : Nat → ClassId} {A : Nat → Prop} {τ σ : xS} {ρ : xG} {ad : xL} {n d s : Int} (I : xI n τ) (hd : 0 ≤ d ∧ d < τ 30 0 0) (hs : rg s) : Ct lc yX8_requireSheet cX8_requireSheet 2 none (rmL 0 1 6) D Y A ad (jG Y τ σ ρ ad) [.ref (ad 11 d), .int (iI s)] (pC (0 ≤ s ∧ s < shT τ d) none ad (jG Y τ σ ρ ad)) (pT (fun E => E = eI ∧ ¬ (0 ≤ s ∧ s < shT τ d)) ad (jG Y τ σ ρ ad)) := by
  refine Ct_of hlc (by decide +kernel) rfl rfl (own := RX8) (nm := "requireSheet") (l0 := [some (.ref (ad 11 d)), some (.int (iI s))]) rfl (Nat.le_of_ble_eq_true rfl) (fun κ C M => ?_)
  have k1 := I.sb d
  refine X_iload_n C rfl dX8_requireSheet_0 ?_
  refine X_if_lt C (tgt := 12) dX8_requireSheet_1 (by decide) ⟨by omega, by omega⟩ (fun c_1 => ?_) (fun c_1 => ?_)
  · exact X_throw C M tw_X8_123_127 xs_X8_248 dX8_requireSheet_12 dX8_requireSheet_15 dX8_requireSheet_16 dX8_requireSheet_18 dX8_requireSheet_21 (by decide) (by decide) (by decide) (by decide) ⟨⟨rfl, by omega⟩, rfl, rfl⟩
  · refine X_iload_n C rfl dX8_requireSheet_4 ?_
    refine X_aload_n C rfl dX8_requireSheet_5 ?_
    refine Xg_X1_proofSheets C (by omega) (v := shT τ d) (I.sh d) fl_X8_216 dX8_requireSheet_6 ?_
    refine X_icmp_lt C (tgt := 22) dX8_requireSheet_9 (by decide) ⟨by omega, by omega⟩ ⟨by omega, by omega⟩ (fun c_9 => ?_) (fun c_9 => ?_)
    · exact X_return C M (by decide) (by decide) dX8_requireSheet_22 ⟨by omega, rfl, rfl, rfl⟩
    · exact X_throw C M tw_X8_123_127 xs_X8_248 dX8_requireSheet_12 dX8_requireSheet_15 dX8_requireSheet_16 dX8_requireSheet_18 dX8_requireSheet_21 (by decide) (by decide) (by decide) (by decide) ⟨⟨rfl, by omega⟩, rfl, rfl⟩
set_option maxRecDepth 100000 in
set_option maxHeartbeats 4000000 in
theorem c_X8_requireIndexOnSheet {lc : Launch} (hlc : lc.stackTraces = false) {D : va_G} {Y : Nat → ClassId} {A : Nat → Prop} {τ σ : xS} {ρ : xG} {ad : xL} {k : Int} (hk : rg k) : Ct lc yX8_requireIndexOnSheet cX8_requireIndexOnSheet 1 none (rmL 0 1 6) D Y A ad (jG Y τ σ ρ ad) [.int (iI k)] (pC (0 ≤ k ∧ k < 32) none ad (jG Y τ σ ρ ad)) (pT (fun E => E = eI ∧ ¬ (0 ≤ k ∧ k < 32)) ad (jG Y τ σ ρ ad)) := by
  refine Ct_of hlc (by decide +kernel) rfl rfl (own := RX8) (nm := "requireIndexOnSheet") (l0 := [some (.int (iI k))]) rfl (Nat.le_of_ble_eq_true rfl) (fun κ C M => ?_)
  refine X_iload_n C rfl dX8_requireIndexOnSheet_0 ?_
  refine X_if_lt C (tgt := 10) dX8_requireIndexOnSheet_1 (by decide) ⟨by omega, by omega⟩ (fun c_1 => ?_) (fun c_1 => ?_)
  · exact X_throw C M tw_X8_123_127 xs_X8_250 dX8_requireIndexOnSheet_10 dX8_requireIndexOnSheet_13 dX8_requireIndexOnSheet_14 dX8_requireIndexOnSheet_16 dX8_requireIndexOnSheet_19 (by decide) (by decide) (by decide) (by decide) ⟨⟨rfl, by omega⟩, rfl, rfl⟩
  · refine X_iload_n C rfl dX8_requireIndexOnSheet_4 ?_
    refine X_bipush C ⟨by decide, by decide⟩ dX8_requireIndexOnSheet_5 ?_
    refine X_icmp_lt C (tgt := 20) dX8_requireIndexOnSheet_7 (by decide) ⟨by omega, by omega⟩ ⟨by omega, by omega⟩ (fun c_7 => ?_) (fun c_7 => ?_)
    · exact X_return C M (by decide) (by decide) dX8_requireIndexOnSheet_20 ⟨by omega, rfl, rfl, rfl⟩
    · exact X_throw C M tw_X8_123_127 xs_X8_250 dX8_requireIndexOnSheet_10 dX8_requireIndexOnSheet_13 dX8_requireIndexOnSheet_14 dX8_requireIndexOnSheet_16 dX8_requireIndexOnSheet_19 (by decide) (by decide) (by decide) (by decide) ⟨⟨rfl, by omega⟩, rfl, rfl⟩
set_option maxRecDepth 100000 in
set_option maxHeartbeats 4000000 in
theorem c_X8_orderOf {lc : Launch} (hlc : lc.stackTraces = false) {D : va_G} {Y : Nat → ClassId} {A : Nat → Prop} {τ σ : xS} {ρ : xG} {ad : xL} {n z : Int} (I : xI n τ) (hz : rg z) : Ct lc yX8_orderOf cX8_orderOf 2 (some (.object "Proofpress$Order")) (rmL 0 1 6) D Y A ad (jG Y τ σ ρ ad) [.ref (ad 0 0), .int (iI z)] (pC (0 ≤ z ∧ z < τ 32 0 0) (some (.ref (ad 15 z))) ad (jG Y τ σ ρ ad)) (pT (fun E => E = nX ∧ ¬ (0 ≤ z ∧ z < τ 32 0 0)) ad (jG Y τ σ ρ ad)) := by
  refine Ct_of hlc (by decide +kernel) rfl rfl (own := RX8) (nm := "orderOf") (l0 := [some (.ref (ad 0 0)), some (.int (iI z))]) rfl (Nat.le_of_ble_eq_true rfl) (fun κ C M => ?_)
  have Ind := I.nd
  have Inc := I.nc
  have Ino := I.no
  have In := I.n0
  refine X_iload_n C rfl dX8_orderOf_0 ?_
  refine X_if_lt C (tgt := 12) dX8_orderOf_1 (by decide) ⟨by omega, by omega⟩ (fun c_1 => ?_) (fun c_1 => ?_)
  · exact X_throwNW C M tw_X8_128_132 xs_X8_311 dX8_orderOf_12 dX8_orderOf_15 dX8_orderOf_16 dX8_orderOf_19 dX8_orderOf_22 (by decide) (by decide) (by decide) (by decide) ⟨⟨rfl, by omega⟩, rfl, rfl⟩
  · refine X_iload_n C rfl dX8_orderOf_4 ?_
    refine X_aload_n C rfl dX8_orderOf_5 ?_
    refine Xg_X8_orderCount C rfl fl_X8_263 dX8_orderOf_6 ?_
    refine X_icmp_lt C (tgt := 23) dX8_orderOf_9 (by decide) ⟨by omega, by omega⟩ ⟨by omega, by omega⟩ (fun c_9 => ?_) (fun c_9 => ?_)
    · refine X_aload_n C rfl dX8_orderOf_23 ?_
      refine Xg_X8_orders C fl_X8_23 dX8_orderOf_24 ?_
      refine X_iload_n C rfl dX8_orderOf_27 ?_
      refine Xa_ords_ld C (by omega) (by omega) (by omega) dX8_orderOf_28 ?_
      exact X_areturn C M (by decide) (by decide) dX8_orderOf_29 ⟨by omega, rfl, rfl, rfl⟩
    · exact X_throwNW C M tw_X8_128_132 xs_X8_311 dX8_orderOf_12 dX8_orderOf_15 dX8_orderOf_16 dX8_orderOf_19 dX8_orderOf_22 (by decide) (by decide) (by decide) (by decide) ⟨⟨rfl, by omega⟩, rfl, rfl⟩
set_option maxRecDepth 100000 in
set_option maxHeartbeats 4000000 in
theorem c_X8_stateOn {lc : Launch} (hlc : lc.stackTraces = false) {D : va_G} {Y : Nat → ClassId} {A : Nat → Prop} {τ σ : xS} {ρ : xG} {ad : xL} {n o s : Int} (I : xI n τ) (ho : 0 ≤ o ∧ o < τ 32 0 0) (hs : 0 ≤ s ∧ s < shT τ (τ 9 o 0)) : Ct lc yX8_stateOn cX8_stateOn 4 (some .char) (rmL 3 0 0) D Y A ad (jG Y τ σ ρ ad) [.ref (ad 0 0), .ref (ad 15 o), .int (iI s)] (pE (some (.int (iI (stA τ o s)))) ad (jG Y τ σ ρ ad)) (pF) := by
  refine Ct_of hlc (by decide +kernel) rfl rfl (own := RX8) (nm := "stateOn") (l0 := [some (.ref (ad 0 0)), some (.ref (ad 15 o)), some (.int (iI s)), none]) rfl (Nat.le_of_ble_eq_true rfl) (fun κ C M => ?_)
  have Ind := I.nd
  have Inc := I.nc
  have Ino := I.no
  have In := I.n0
  have k1 := I.po
  have k2 := I.ps
  have k3 := I.od o (by omega) (by omega)
  have k4 := I.ip (3 * o + s)
  have k5 := I.sb (τ 9 o 0)
  refine X_aload_n C rfl dX8_stateOn_0 ?_
  refine Xg_X8_press C fl_X8_37 dX8_stateOn_1 ?_
  refine X_aload_n C rfl dX8_stateOn_4 ?_
  refine X_iload_n C rfl dX8_stateOn_5 ?_
  refine X_callVE_2 C (c_X5_holds C.hlc (by omega) (by omega) (by omega) (by omega) (by omega)) cv_X8_313 (jG_9 rfl) ⟨_, _, rfl⟩ rfl rfl dX8_stateOn_6 ?_
  refine X_if_eqB C (tgt := 15) dX8_stateOn_9 (by decide) (fun c_9 => ?_) (fun c_9 => ?_)
  · refine X_aload_n C rfl dX8_stateOn_15 ?_
    refine Xg_X4_records C (by omega) fl_X8_317 dX8_stateOn_16 ?_
    refine X_iload_n C rfl dX8_stateOn_19 ?_
    refine Xa_recs_ld C (by omega) (by omega) (by omega) dX8_stateOn_20 ?_
    refine X_astore_3 C (by decide) rfl dX8_stateOn_21 ?_
    refine X_aload_n C rfl dX8_stateOn_22 ?_
    refine Xg_X6_isPrinted C (by omega) (v := if τ 14 (3 * o + s) 0 = 0 then 0 else 1) k4 fl_X8_321 dX8_stateOn_23 ?_
    refine X_if_ne C (tgt := 32) dX8_stateOn_26 (by decide) ⟨by split <;> omega, by split <;> omega⟩ (fun c_26 => ?_) (fun c_26 => ?_)
    · refine X_aload_n C rfl dX8_stateOn_32 ?_
      refine X_aload_n C rfl dX8_stateOn_33 ?_
      refine Xg_X4_document C (by omega) rfl fl_X8_285 dX8_stateOn_34 ?_
      refine X_iload_n C rfl dX8_stateOn_37 ?_
      refine X_callVE_2 C (c_X6_isPrintedAs C.hlc (by omega) (by omega) (I.dok (by omega) (by omega)) (by omega) I.cd (I.pd _)) cv_X8_326 (jG_17 (by omega)) ⟨_, _, rfl⟩ rfl rfl dX8_stateOn_38 ?_
      refine X_if_eqB C (tgt := 49) dX8_stateOn_41 (by decide) (fun c_41 => ?_) (fun c_41 => ?_)
      · refine X_bipush C ⟨by decide, by decide⟩ dX8_stateOn_49 ?_
        exact X_ireturn C M rfl (by decide) (by decide) dX8_stateOn_51 ⟨rI (by unfold stA; rw [if_neg c_9, if_neg (fun q => c_26 (by rw [if_pos q])), pk_f c_41]), rfl, rfl⟩
      · refine X_bipush C ⟨by decide, by decide⟩ dX8_stateOn_44 ?_
        refine X_goto C (tgt := 51) dX8_stateOn_46 (by decide) ?_
        exact X_ireturn C M rfl (by decide) (by decide) dX8_stateOn_51 ⟨rI (by unfold stA; rw [if_neg c_9, if_neg (fun q => c_26 (by rw [if_pos q])), pk_t c_41]), rfl, rfl⟩
    · refine X_bipush C ⟨by decide, by decide⟩ dX8_stateOn_29 ?_
      exact X_ireturn C M rfl (by decide) (by decide) dX8_stateOn_31 ⟨rI (by unfold stA; rw [if_neg c_9, if_pos (Classical.byContradiction fun q => by rw [if_neg q] at c_26; omega)]), rfl, rfl⟩
  · refine X_bipush C ⟨by decide, by decide⟩ dX8_stateOn_12 ?_
    exact X_ireturn C M rfl (by decide) (by decide) dX8_stateOn_14 ⟨rI (by unfold stA; rw [if_pos c_9]), rfl, rfl⟩
set_option maxRecDepth 100000 in
set_option maxHeartbeats 4000000 in
theorem c_X8_isToBePrinted {lc : Launch} (hlc : lc.stackTraces = false) {D : va_G} {Y : Nat → ClassId} {A : Nat → Prop} {τ σ : xS} {ρ : xG} {ad : xL} {c : Int} (hc : rg c) : Ct lc yX8_isToBePrinted cX8_isToBePrinted 1 (some .boolean) (rmL 0 0 0) D Y A ad (jG Y τ σ ρ ad) [.int (iI c)] (pE (some (.int (iI (bI (c = 119 ∨ c = 115))))) ad (jG Y τ σ ρ ad)) (pF) := by
  refine Ct_of hlc (by decide +kernel) rfl rfl (own := RX8) (nm := "isToBePrinted") (l0 := [some (.int (iI c))]) rfl (Nat.le_of_ble_eq_true rfl) (fun κ C M => ?_)
  refine X_iload_n C rfl dX8_isToBePrinted_0 ?_
  refine X_bipush C ⟨by decide, by decide⟩ dX8_isToBePrinted_1 ?_
  refine X_icmp_eq C (tgt := 12) dX8_isToBePrinted_3 (by decide) ⟨by omega, by omega⟩ ⟨by omega, by omega⟩ (fun c_3 => ?_) (fun c_3 => ?_)
  · refine X_iconst C dX8_isToBePrinted_12 ?_
    refine X_goto C (tgt := 17) dX8_isToBePrinted_13 (by decide) ?_
    exact X_ireturn C M rfl (by decide) (by decide) dX8_isToBePrinted_17 ⟨by first | exact rB1 (by omega) | exact rB0 (by omega), rfl, rfl⟩
  · refine X_iload_n C rfl dX8_isToBePrinted_6 ?_
    refine X_bipush C ⟨by decide, by decide⟩ dX8_isToBePrinted_7 ?_
    refine X_icmp_ne C (tgt := 16) dX8_isToBePrinted_9 (by decide) ⟨by omega, by omega⟩ ⟨by omega, by omega⟩ (fun c_9 => ?_) (fun c_9 => ?_)
    · refine X_iconst C dX8_isToBePrinted_16 ?_
      exact X_ireturn C M rfl (by decide) (by decide) dX8_isToBePrinted_17 ⟨by first | exact rB1 (by omega) | exact rB0 (by omega), rfl, rfl⟩
    · refine X_iconst C dX8_isToBePrinted_12 ?_
      refine X_goto C (tgt := 17) dX8_isToBePrinted_13 (by decide) ?_
      exact X_ireturn C M rfl (by decide) (by decide) dX8_isToBePrinted_17 ⟨by first | exact rB1 (by omega) | exact rB0 (by omega), rfl, rfl⟩
set_option maxRecDepth 100000 in
set_option maxHeartbeats 4000000 in
theorem c_X8_goodSheetsOf {lc : Launch} (hlc : lc.stackTraces = false) {D : va_G} {Y : Nat → ClassId} {A : Nat → Prop} {τ σ : xS} {ρ : xG} {ad : xL} {n o : Int} (I : xI n τ) (ho : 0 ≤ o ∧ o < τ 32 0 0) : Ct lc yX8_goodSheetsOf cX8_goodSheetsOf 5 (some .int) (rmL 4 0 0) D Y A ad (jG Y τ σ ρ ad) [.ref (ad 0 0), .ref (ad 15 o)] (pE (some (.int (iI (gdA τ o (shT τ (τ 9 o 0)))))) ad (jG Y τ σ ρ ad)) (pF) := by
  refine Ct_of hlc (by decide +kernel) rfl rfl (own := RX8) (nm := "goodSheetsOf") (l0 := [some (.ref (ad 0 0)), some (.ref (ad 15 o)), none, none, none]) rfl (Nat.le_of_ble_eq_true rfl) (fun κ C M => ?_)
  have Ind := I.nd
  have Inc := I.nc
  have Ino := I.no
  have In := I.n0
  have k3 := I.od o (by omega) (by omega)
  have k5 := I.sb (τ 9 o 0)
  refine X_aload_n C rfl dX8_goodSheetsOf_0 ?_
  refine Xg_X4_document C (by omega) rfl fl_X8_285 dX8_goodSheetsOf_1 ?_
  refine Xg_X1_proofSheets C (by omega) (v := shT τ (τ 9 o 0)) (I.sh _) fl_X8_216 dX8_goodSheetsOf_4 ?_
  refine X_istore_2 C (by decide) rfl dX8_goodSheetsOf_7 ?_
  refine X_iconst C dX8_goodSheetsOf_8 ?_
  refine X_istore_3 C (by decide) rfl dX8_goodSheetsOf_9 ?_
  refine X_iconst C dX8_goodSheetsOf_10 ?_
  refine X_istore_4 C (by decide) rfl dX8_goodSheetsOf_11 ?_
  have L13 : ∀ (n9 : Nat) (a s : Int), (0 ≤ s ∧ s ≤ shT τ (τ 9 o 0)) → (a = gdA τ o s) → shT τ (τ 9 o 0) - s < (n9 : Int) → X κ D A 5 0 0 13 ([some (.ref (ad 0 0)), some (.ref (ad 15 o)), some (.int (iI (shT τ (τ 9 o 0)))), some (.int (iI a)), some (.int (iI s))]) ([]) ad (jG Y τ σ ρ ad) := by
    intro n9
    induction n9 with
    | zero => intro a s  hs0 ha hm; exfalso; omega
    | succ n9 ih =>
      intro a s  hs0 ha hm
      refine X_iload C rfl dX8_goodSheetsOf_13 ?_
      refine X_iload_n C rfl dX8_goodSheetsOf_15 ?_
      refine X_icmp_ge C (tgt := 40) dX8_goodSheetsOf_16 (by decide) ⟨by omega, by omega⟩ ⟨by omega, by omega⟩ (fun c_16 => ?_) (fun c_16 => ?_)
      · obtain rfl : s = shT τ (τ 9 o 0) := by omega
        refine X_iload_n C rfl dX8_goodSheetsOf_40 ?_
        exact X_ireturn C M rfl (by decide) (by decide) dX8_goodSheetsOf_41 ⟨rI ha, rfl, rfl⟩
      · refine X_aload_n C rfl dX8_goodSheetsOf_19 ?_
        refine X_aload_n C rfl dX8_goodSheetsOf_20 ?_
        refine X_iload C rfl dX8_goodSheetsOf_21 ?_
        refine X_callVE_2 C (c_X8_stateOn C.hlc (by assumption) (by omega) (by omega)) cv_X8_286 (jG_0 rfl) ⟨_, _, rfl⟩ rfl rfl dX8_goodSheetsOf_23 ?_
        have hv := stA_v τ o s
        refine X_bipush C ⟨by decide, by decide⟩ dX8_goodSheetsOf_26 ?_
        refine X_icmp_ne C (tgt := 34) dX8_goodSheetsOf_28 (by decide) ⟨by omega, by omega⟩ ⟨by omega, by omega⟩ (fun c_28 => ?_) (fun c_28 => ?_)
        · refine X_iinc_4 C (by decide) rfl dX8_goodSheetsOf_34 ?_
          refine X_goto C (tgt := 13) dX8_goodSheetsOf_37 (by decide) ?_
          exact ih _ (s + 1) (by omega) (by unfold gdA at ha ⊢; rw [sumZ_s hs0.1, ← ha, bI_f c_28]; omega) (by omega)
        · refine X_iinc_3 C (by decide) rfl dX8_goodSheetsOf_31 ?_
          refine X_iinc_4 C (by decide) rfl dX8_goodSheetsOf_34 ?_
          refine X_goto C (tgt := 13) dX8_goodSheetsOf_37 (by decide) ?_
          exact ih _ (s + 1) (by omega) (by unfold gdA at ha ⊢; rw [sumZ_s hs0.1, ← ha, bI_t c_28]) (by omega)
  exact L13 9 0 0 (by omega) rfl (by omega)
set_option maxRecDepth 100000 in
set_option maxHeartbeats 4000000 in
theorem c_X8_paperNeededBy {lc : Launch} (hlc : lc.stackTraces = false) {D : va_G} {Y : Nat → ClassId} {A : Nat → Prop} {τ σ : xS} {ρ : xG} {ad : xL} {n o : Int} (I : xI n τ) (ho : 0 ≤ o ∧ o < τ 32 0 0) : Ct lc yX8_paperNeededBy cX8_paperNeededBy 5 (some .int) (rmL 4 0 0) D Y A ad (jG Y τ σ ρ ad) [.ref (ad 0 0), .ref (ad 15 o)] (pE (some (.int (iI (ndA τ o)))) ad (jG Y τ σ ρ ad)) (pF) := by
  refine Ct_of hlc (by decide +kernel) rfl rfl (own := RX8) (nm := "paperNeededBy") (l0 := [some (.ref (ad 0 0)), some (.ref (ad 15 o)), none, none, none]) rfl (Nat.le_of_ble_eq_true rfl) (fun κ C M => ?_)
  have Ind := I.nd
  have Inc := I.nc
  have Ino := I.no
  have In := I.n0
  have k3 := I.od o (by omega) (by omega)
  have k5 := I.sb (τ 9 o 0)
  refine X_aload_n C rfl dX8_paperNeededBy_0 ?_
  refine Xg_X4_document C (by omega) rfl fl_X8_285 dX8_paperNeededBy_1 ?_
  refine Xg_X1_proofSheets C (by omega) (v := shT τ (τ 9 o 0)) (I.sh _) fl_X8_216 dX8_paperNeededBy_4 ?_
  refine X_istore_2 C (by decide) rfl dX8_paperNeededBy_7 ?_
  refine X_iconst C dX8_paperNeededBy_8 ?_
  refine X_istore_3 C (by decide) rfl dX8_paperNeededBy_9 ?_
  refine X_iconst C dX8_paperNeededBy_10 ?_
  refine X_istore_4 C (by decide) rfl dX8_paperNeededBy_11 ?_
  have L13 : ∀ (n9 : Nat) (a s : Int), (0 ≤ s ∧ s ≤ shT τ (τ 9 o 0)) → (a = toA τ o s) → shT τ (τ 9 o 0) - s < (n9 : Int) → X κ D A 5 0 0 13 ([some (.ref (ad 0 0)), some (.ref (ad 15 o)), some (.int (iI (shT τ (τ 9 o 0)))), some (.int (iI a)), some (.int (iI s))]) ([]) ad (jG Y τ σ ρ ad) := by
    intro n9
    induction n9 with
    | zero => intro a s  hs0 ha hm; exfalso; omega
    | succ n9 ih =>
      intro a s  hs0 ha hm
      refine X_iload C rfl dX8_paperNeededBy_13 ?_
      refine X_iload_n C rfl dX8_paperNeededBy_15 ?_
      refine X_icmp_ge C (tgt := 41) dX8_paperNeededBy_16 (by decide) ⟨by omega, by omega⟩ ⟨by omega, by omega⟩ (fun c_16 => ?_) (fun c_16 => ?_)
      · obtain rfl : s = shT τ (τ 9 o 0) := by omega
        refine X_aload_n C rfl dX8_paperNeededBy_41 ?_
        refine Xg_X4_copies C (by omega) rfl fl_X8_332 dX8_paperNeededBy_42 ?_
        refine X_iload_n C rfl dX8_paperNeededBy_45 ?_
        refine X_imul C dX8_paperNeededBy_46 ?_
        exact X_ireturn C M rfl (by decide) (by decide) dX8_paperNeededBy_47 ⟨rI (by unfold ndA; rw [ha]), rfl, rfl⟩
      · refine X_aload_n C rfl dX8_paperNeededBy_19 ?_
        refine X_aload_n C rfl dX8_paperNeededBy_20 ?_
        refine X_iload C rfl dX8_paperNeededBy_21 ?_
        refine X_callVE_2 C (c_X8_stateOn C.hlc (by assumption) (by omega) (by omega)) cv_X8_286 (jG_0 rfl) ⟨_, _, rfl⟩ rfl rfl dX8_paperNeededBy_23 ?_
        have hv := stA_v τ o s
        refine X_callSE_1 C (c_X8_isToBePrinted C.hlc (by omega)) cs_X8_305 rfl rfl dX8_paperNeededBy_26 ?_
        refine X_if_eqB C (tgt := 35) dX8_paperNeededBy_29 (by decide) (fun c_29 => ?_) (fun c_29 => ?_)
        · refine X_iinc_4 C (by decide) rfl dX8_paperNeededBy_35 ?_
          refine X_goto C (tgt := 13) dX8_paperNeededBy_38 (by decide) ?_
          exact ih _ (s + 1) (by omega) (by unfold toA at ha ⊢; rw [sumZ_s hs0.1, ← ha, bI_f c_29]; omega) (by omega)
        · refine X_iinc_3 C (by decide) rfl dX8_paperNeededBy_32 ?_
          refine X_iinc_4 C (by decide) rfl dX8_paperNeededBy_35 ?_
          refine X_goto C (tgt := 13) dX8_paperNeededBy_38 (by decide) ?_
          exact ih _ (s + 1) (by omega) (by unfold toA at ha ⊢; rw [sumZ_s hs0.1, ← ha, bI_t c_29]) (by omega)
  exact L13 9 0 0 (by omega) rfl (by omega)
set_option maxRecDepth 100000 in
set_option maxHeartbeats 4000000 in
theorem c_X8_isFinished {lc : Launch} (hlc : lc.stackTraces = false) {D : va_G} {Y : Nat → ClassId} {A : Nat → Prop} {τ σ : xS} {ρ : xG} {ad : xL} {n o : Int} (I : xI n τ) (ho : 0 ≤ o ∧ o < τ 32 0 0) : Ct lc yX8_isFinished cX8_isFinished 2 (some .boolean) (rmL 5 0 0) D Y A ad (jG Y τ σ ρ ad) [.ref (ad 0 0), .ref (ad 15 o)] (pE (some (.int (iI (bI (alA τ o))))) ad (jG Y τ σ ρ ad)) (pF) := by
  refine Ct_of hlc (by decide +kernel) rfl rfl (own := RX8) (nm := "isFinished") (l0 := [some (.ref (ad 0 0)), some (.ref (ad 15 o))]) rfl (Nat.le_of_ble_eq_true rfl) (fun κ C M => ?_)
  have k3 := I.od o (by omega) (by omega)
  have k5 := I.sb (τ 9 o 0)
  have hg := gdA_b τ o k5.1
  refine X_aload_n C rfl dX8_isFinished_0 ?_
  refine X_aload_n C rfl dX8_isFinished_1 ?_
  refine X_callVE_1 C (c_X8_goodSheetsOf C.hlc (by assumption) (by omega)) cv_X8_329 (jG_0 rfl) ⟨_, _, rfl⟩ rfl rfl dX8_isFinished_2 ?_
  refine X_aload_n C rfl dX8_isFinished_5 ?_
  refine Xg_X4_document C (by omega) rfl fl_X8_285 dX8_isFinished_6 ?_
  refine Xg_X1_proofSheets C (by omega) (v := shT τ (τ 9 o 0)) (I.sh _) fl_X8_216 dX8_isFinished_9 ?_
  refine X_icmp_ne C (tgt := 19) dX8_isFinished_12 (by decide) ⟨by omega, by omega⟩ ⟨by omega, by omega⟩ (fun c_12 => ?_) (fun c_12 => ?_)
  · refine X_iconst C dX8_isFinished_19 ?_
    exact X_ireturn C M rfl (by decide) (by decide) dX8_isFinished_20 ⟨rB0 c_12, rfl, rfl⟩
  · refine X_iconst C dX8_isFinished_15 ?_
    refine X_goto C (tgt := 20) dX8_isFinished_16 (by decide) ?_
    exact X_ireturn C M rfl (by decide) (by decide) dX8_isFinished_20 ⟨rB1 c_12, rfl, rfl⟩
set_option maxRecDepth 100000 in
set_option maxHeartbeats 4000000 in
theorem c_X8_freePaper {lc : Launch} (hlc : lc.stackTraces = false) {D : va_G} {Y : Nat → ClassId} {A : Nat → Prop} {τ σ : xS} {ρ : xG} {ad : xL} {n : Int} (I : xI n τ) : Ct lc yX8_freePaper cX8_freePaper 3 (some .int) (rmL 5 0 0) D Y A ad (jG Y τ σ ρ ad) [.ref (ad 0 0)] (pE (some (.int (iI (frA τ (τ 32 0 0))))) ad (jG Y τ σ ρ ad)) (pF) := by
  refine Ct_of hlc (by decide +kernel) rfl rfl (own := RX8) (nm := "freePaper") (l0 := [some (.ref (ad 0 0)), none, none]) rfl (Nat.le_of_ble_eq_true rfl) (fun κ C M => ?_)
  have Ind := I.nd
  have Inc := I.nc
  have Ino := I.no
  have In := I.n0
  have k1 := I.pa
  refine X_aload_n C rfl dX8_freePaper_0 ?_
  refine Xg_X8_paperStock C rfl fl_X8_254 dX8_freePaper_1 ?_
  refine X_istore_1 C (by decide) rfl dX8_freePaper_4 ?_
  refine X_iconst C dX8_freePaper_5 ?_
  refine X_istore_2 C (by decide) rfl dX8_freePaper_6 ?_
  have L7 : ∀ (n9 : Nat) (a o : Int), (0 ≤ o ∧ o ≤ τ 32 0 0) → (a = frA τ o) → τ 32 0 0 - o < (n9 : Int) → X κ D A 3 0 0 7 ([some (.ref (ad 0 0)), some (.int (iI a)), some (.int (iI o))]) ([]) ad (jG Y τ σ ρ ad) := by
    intro n9
    induction n9 with
    | zero => intro a o  ho ha hm; exfalso; omega
    | succ n9 ih =>
      intro a o  ho ha hm
      refine X_iload_n C rfl dX8_freePaper_7 ?_
      refine X_aload_n C rfl dX8_freePaper_8 ?_
      refine Xg_X8_orderCount C rfl fl_X8_263 dX8_freePaper_9 ?_
      refine X_icmp_ge C (tgt := 34) dX8_freePaper_12 (by decide) ⟨by omega, by omega⟩ ⟨by omega, by omega⟩ (fun c_12 => ?_) (fun c_12 => ?_)
      · obtain rfl : o = τ 32 0 0 := by omega
        refine X_iload_n C rfl dX8_freePaper_34 ?_
        exact X_ireturn C M rfl (by decide) (by decide) dX8_freePaper_35 ⟨rI ha, rfl, rfl⟩
      · refine X_iload_n C rfl dX8_freePaper_15 ?_
        refine X_aload_n C rfl dX8_freePaper_16 ?_
        refine X_aload_n C rfl dX8_freePaper_17 ?_
        refine Xg_X8_orders C fl_X8_23 dX8_freePaper_18 ?_
        refine X_iload_n C rfl dX8_freePaper_21 ?_
        refine Xa_ords_ld C (by omega) (by omega) (by omega) dX8_freePaper_22 ?_
        refine X_callVE_1 C (c_X8_paperNeededBy C.hlc (by assumption) (by omega)) cv_X8_281 (jG_0 rfl) ⟨_, _, rfl⟩ rfl rfl dX8_freePaper_23 ?_
        refine X_isub C dX8_freePaper_26 ?_
        refine X_istore_1 C (by decide) rfl dX8_freePaper_27 ?_
        refine X_iinc_2 C (by decide) rfl dX8_freePaper_28 ?_
        refine X_goto C (tgt := 7) dX8_freePaper_31 (by decide) ?_
        exact ih _ (o + 1) (by omega) (by unfold frA at ha ⊢; rw [sumZ_s ho.1]; omega) (by omega)
  exact L7 7 (τ 33 0 0) 0 (by omega) (by unfold frA; rw [sumZ_0]; omega) (by omega)
set_option maxRecDepth 100000 in
set_option maxHeartbeats 4000000 in
theorem c_X8_platedRecordOf {lc : Launch} (hlc : lc.stackTraces = false) {D : va_G} {Y : Nat → ClassId} {A : Nat → Prop} {τ σ : xS} {ρ : xG} {ad : xL} {n z s : Int} (I : xI n τ) (hz : rg z) (hs : rg s) : Ct lc yX8_platedRecordOf cX8_platedRecordOf 5 (some (.object "Proofpress$SheetRecord")) (rmL 1 3 18) D Y A ad (jG Y τ σ ρ ad) [.ref (ad 0 0), .int (iI z), .int (iI s)] (pC ((0 ≤ z ∧ z < τ 32 0 0) ∧ (0 ≤ s ∧ s < shT τ (τ 9 z 0)) ∧ τ 28 (3 * z + s) 0 = 1) (some (.ref (ad 17 (3 * z + s)))) ad (jG Y τ σ ρ ad)) (pT (fun E => (E = nX ∧ ¬ (0 ≤ z ∧ z < τ 32 0 0)) ∨ (E = eI ∧ (0 ≤ z ∧ z < τ 32 0 0) ∧ ¬ (0 ≤ s ∧ s < shT τ (τ 9 z 0))) ∨ (E = eS ∧ (0 ≤ z ∧ z < τ 32 0 0) ∧ (0 ≤ s ∧ s < shT τ (τ 9 z 0)) ∧ τ 28 (3 * z + s) 0 = 0)) ad (jG Y τ σ ρ ad)) := by
  refine Ct_of hlc (by decide +kernel) rfl rfl (own := RX8) (nm := "platedRecordOf") (l0 := [some (.ref (ad 0 0)), some (.int (iI z)), some (.int (iI s)), none, none]) rfl (Nat.le_of_ble_eq_true rfl) (fun κ C M => ?_)
  refine X_aload_n C rfl dX8_platedRecordOf_0 ?_
  refine X_iload_n C rfl dX8_platedRecordOf_1 ?_
  refine X_callVC_1 C M (c_X8_orderOf C.hlc (by assumption) (by omega)) cv_X8_277 (jG_0 rfl) ⟨_, _, rfl⟩ rfl rfl dX8_platedRecordOf_2 (fun E h => ⟨Or.inl h, rfl, rfl⟩) (fun h_2 => ?_)
  refine X_astore_3 C (by decide) rfl dX8_platedRecordOf_5 ?_
  have k3 := I.od z (by omega) (by omega)
  have k5 := I.sb (τ 9 z 0)
  have k6 := I.hp (3 * z + s) 0
  refine X_aload_n C rfl dX8_platedRecordOf_6 ?_
  refine Xg_X4_document C (by omega) rfl fl_X8_285 dX8_platedRecordOf_7 ?_
  refine X_iload_n C rfl dX8_platedRecordOf_10 ?_
  refine X_callSC0_2 C M (c_X8_requireSheet C.hlc (by assumption) (by omega) (by omega)) cs_X8_222 rfl rfl dX8_platedRecordOf_11 (fun E h => ⟨Or.inr (Or.inl ⟨h.1, h_2, h.2⟩), rfl, rfl⟩) (fun h_11 => ?_)
  refine X_aload_n C rfl dX8_platedRecordOf_14 ?_
  refine Xg_X4_records C (by omega) fl_X8_317 dX8_platedRecordOf_15 ?_
  refine X_iload_n C rfl dX8_platedRecordOf_18 ?_
  refine Xa_recs_ld C (by omega) (by omega) (by omega) dX8_platedRecordOf_19 ?_
  refine X_astore_4 C (by decide) rfl dX8_platedRecordOf_20 ?_
  refine X_aload C rfl dX8_platedRecordOf_22 ?_
  refine Xg_X6_hasPlate C (by omega) rfl fl_X8_380 dX8_platedRecordOf_24 ?_
  refine X_if_ne C (tgt := 41) dX8_platedRecordOf_27 (by decide) ⟨by omega, by omega⟩ (fun c_27 => ?_) (fun c_27 => ?_)
  · refine X_aload C rfl dX8_platedRecordOf_41 ?_
    exact X_areturn C M (by decide) (by decide) dX8_platedRecordOf_43 ⟨⟨h_2, h_11, by omega⟩, rfl, rfl, rfl⟩
  · exact X_throwW C M tw_X8_45_49 xs_X8_383 dX8_platedRecordOf_30 dX8_platedRecordOf_33 dX8_platedRecordOf_34 dX8_platedRecordOf_37 dX8_platedRecordOf_40 (by decide) (by decide) (by decide) (by decide) ⟨Or.inr (Or.inr ⟨rfl, h_2, h_11, by omega⟩), rfl, rfl⟩
