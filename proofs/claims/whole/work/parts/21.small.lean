set_option maxRecDepth 100000 in
set_option maxHeartbeats 4000000 in
theorem c_X0_isOpenOn {lc : Launch} (hlc : lc.stackTraces = false) {D : va_G} {Y : Nat → ClassId} {A : Nat → Prop} {τ σ : xS} {ρ : xG} {ad : xL} {c d : Int} (h0 : 0 ≤ c) (h1 : c < τ 31 0 0) (hd : 0 ≤ d ∧ d < τ 30 0 0) (ho : τ 8 c 0 = 0 ∨ τ 8 c 0 = 1) (hn : 0 ≤ τ 5 c 0 ∧ τ 5 c 0 < τ 30 0 0) : Ct lc yX0_isOpenOn cX0_isOpenOn 2 (some .boolean) (rmL 0 0 0) D Y A ad (jG Y τ σ ρ ad) [.ref (ad 14 c), .ref (ad 11 d)] (pE (some (.int (iI (bI (τ 8 c 0 = 1 ∧ τ 5 c 0 = d))))) ad (jG Y τ σ ρ ad)) (pF) := by
  refine Ct_of hlc (by decide +kernel) rfl rfl (own := RX0) (nm := "isOpenOn") (l0 := [some (.ref (ad 14 c)), some (.ref (ad 11 d))]) rfl (Nat.le_of_ble_eq_true rfl) (fun κ C M => ?_)
  refine X_aload_n C rfl dX0_isOpenOn_0 ?_
  refine Xg_X0_open C ⟨h0, h1⟩ rfl fl_X0_20 dX0_isOpenOn_1 ?_
  refine X_if_eq C (tgt := 19) dX0_isOpenOn_4 (by decide) ⟨by omega, by omega⟩ (fun c_4 => ?_) (fun c_4 => ?_)
  · refine X_iconst C dX0_isOpenOn_19 ?_
    exact X_ireturn C M rfl (by decide) (by decide) dX0_isOpenOn_20 ⟨by first | exact rB1 (by omega) | exact rB0 (by omega), rfl, rfl⟩
  · refine X_aload_n C rfl dX0_isOpenOn_7 ?_
    refine Xg_X0_document C ⟨h0, h1⟩ rfl fl_X0_7 dX0_isOpenOn_8 ?_
    refine X_aload_n C rfl dX0_isOpenOn_11 ?_
    refine X_acmp_ne C (tgt := 19) (jG_11 hn) (jG_11 hd) dX0_isOpenOn_12 (by decide) (fun c_12 => ?_) (fun c_12 => ?_)
    · refine X_iconst C dX0_isOpenOn_19 ?_
      exact X_ireturn C M rfl (by decide) (by decide) dX0_isOpenOn_20 ⟨by first | exact rB1 (by omega) | exact rB0 (by omega), rfl, rfl⟩
    · refine X_iconst C dX0_isOpenOn_15 ?_
      refine X_goto C (tgt := 20) dX0_isOpenOn_16 (by decide) ?_
      exact X_ireturn C M rfl (by decide) (by decide) dX0_isOpenOn_20 ⟨by first | exact rB1 (by omega) | exact rB0 (by omega), rfl, rfl⟩
set_option maxRecDepth 100000 in
set_option maxHeartbeats 4000000 in
theorem c_X0_freezes {lc : Launch} (hlc : lc.stackTraces = false) {D : va_G} {Y : Nat → ClassId} {A : Nat → Prop} {τ σ : xS} {ρ : xG} {ad : xL} {c p b : Int} (h0 : 0 ≤ c) (h1 : c < τ 31 0 0) (hp : rg p) (hb : b = 0 ∨ b = 1) (hf : 0 ≤ τ 6 c 0 ∧ τ 6 c 0 ≤ 80) (ht : 0 ≤ τ 7 c 0 ∧ τ 7 c 0 ≤ 80) : Ct lc yX0_freezes cX0_freezes 4 (some .boolean) (rmL 0 0 0) D Y A ad (jG Y τ σ ρ ad) [.ref (ad 14 c), .int (iI p), .int (iI b)] (pE (some (.int (iI (bI (τ 6 c 0 + b ≤ p ∧ p < τ 7 c 0))))) ad (jG Y τ σ ρ ad)) (pF) := by
  refine Ct_of hlc (by decide +kernel) rfl rfl (own := RX0) (nm := "freezes") (l0 := [some (.ref (ad 14 c)), some (.int (iI p)), some (.int (iI b)), none]) rfl (Nat.le_of_ble_eq_true rfl) (fun κ C M => ?_)
  refine X_iload_n C rfl dX0_freezes_0 ?_
  refine X_if_eq C (tgt := 13) dX0_freezes_1 (by decide) ⟨by omega, by omega⟩ (fun c_1 => ?_) (fun c_1 => ?_)
  · refine X_aload_n C rfl dX0_freezes_13 ?_
    refine Xg_X0_from C ⟨h0, h1⟩ rfl fl_X0_13 dX0_freezes_14 ?_
    refine X_istore_3 C (by decide) rfl dX0_freezes_17 ?_
    refine X_iload_n C rfl dX0_freezes_18 ?_
    refine X_iload_n C rfl dX0_freezes_19 ?_
    refine X_icmp_lt C (tgt := 35) dX0_freezes_20 (by decide) ⟨by omega, by omega⟩ ⟨by omega, by omega⟩ (fun c_20 => ?_) (fun c_20 => ?_)
    · refine X_iconst C dX0_freezes_35 ?_
      exact X_ireturn C M rfl (by decide) (by decide) dX0_freezes_36 ⟨by first | exact rB1 (by omega) | exact rB0 (by omega), rfl, rfl⟩
    · refine X_iload_n C rfl dX0_freezes_23 ?_
      refine X_aload_n C rfl dX0_freezes_24 ?_
      refine Xg_X0_to C ⟨h0, h1⟩ rfl fl_X0_17 dX0_freezes_25 ?_
      refine X_icmp_ge C (tgt := 35) dX0_freezes_28 (by decide) ⟨by omega, by omega⟩ ⟨by omega, by omega⟩ (fun c_28 => ?_) (fun c_28 => ?_)
      · refine X_iconst C dX0_freezes_35 ?_
        exact X_ireturn C M rfl (by decide) (by decide) dX0_freezes_36 ⟨by first | exact rB1 (by omega) | exact rB0 (by omega), rfl, rfl⟩
      · refine X_iconst C dX0_freezes_31 ?_
        refine X_goto C (tgt := 36) dX0_freezes_32 (by decide) ?_
        exact X_ireturn C M rfl (by decide) (by decide) dX0_freezes_36 ⟨by first | exact rB1 (by omega) | exact rB0 (by omega), rfl, rfl⟩
  · refine X_aload_n C rfl dX0_freezes_4 ?_
    refine Xg_X0_from C ⟨h0, h1⟩ rfl fl_X0_13 dX0_freezes_5 ?_
    refine X_iconst C dX0_freezes_8 ?_
    refine X_iadd C dX0_freezes_9 ?_
    refine X_goto C (tgt := 17) dX0_freezes_10 (by decide) ?_
    refine X_istore_3 C (by decide) rfl dX0_freezes_17 ?_
    refine X_iload_n C rfl dX0_freezes_18 ?_
    refine X_iload_n C rfl dX0_freezes_19 ?_
    refine X_icmp_lt C (tgt := 35) dX0_freezes_20 (by decide) ⟨by omega, by omega⟩ ⟨by omega, by omega⟩ (fun c_20 => ?_) (fun c_20 => ?_)
    · refine X_iconst C dX0_freezes_35 ?_
      exact X_ireturn C M rfl (by decide) (by decide) dX0_freezes_36 ⟨by first | exact rB1 (by omega) | exact rB0 (by omega), rfl, rfl⟩
    · refine X_iload_n C rfl dX0_freezes_23 ?_
      refine X_aload_n C rfl dX0_freezes_24 ?_
      refine Xg_X0_to C ⟨h0, h1⟩ rfl fl_X0_17 dX0_freezes_25 ?_
      refine X_icmp_ge C (tgt := 35) dX0_freezes_28 (by decide) ⟨by omega, by omega⟩ ⟨by omega, by omega⟩ (fun c_28 => ?_) (fun c_28 => ?_)
      · refine X_iconst C dX0_freezes_35 ?_
        exact X_ireturn C M rfl (by decide) (by decide) dX0_freezes_36 ⟨by first | exact rB1 (by omega) | exact rB0 (by omega), rfl, rfl⟩
      · refine X_iconst C dX0_freezes_31 ?_
        refine X_goto C (tgt := 36) dX0_freezes_32 (by decide) ?_
        exact X_ireturn C M rfl (by decide) (by decide) dX0_freezes_36 ⟨by first | exact rB1 (by omega) | exact rB0 (by omega), rfl, rfl⟩
set_option maxRecDepth 100000 in
set_option maxHeartbeats 4000000 in
theorem c_X0_moveBy {lc : Launch} (hlc : lc.stackTraces = false) {D : va_G} {Y : Nat → ClassId} {A : Nat → Prop} {τ σ : xS} {ρ : xG} {ad : xL} {c b : Int} (h0 : 0 ≤ c) (h1 : c < τ 31 0 0) : Ct lc yX0_moveBy cX0_moveBy 2 none (rmL 0 0 0) D Y A ad (jG Y τ σ ρ ad) [.ref (ad 14 c), .int (iI b)] (pE none ad (jG Y (up (up τ 6 c 0 (τ 6 c 0 + b)) 7 c 0 (τ 7 c 0 + b)) σ ρ ad)) (pF) := by
  refine Ct_of hlc (by decide +kernel) rfl rfl (own := RX0) (nm := "moveBy") (l0 := [some (.ref (ad 14 c)), some (.int (iI b))]) rfl (Nat.le_of_ble_eq_true rfl) (fun κ C M => ?_)
  refine X_aload_n C rfl dX0_moveBy_0 ?_
  refine X_dup C rfl dX0_moveBy_1 ?_
  refine Xg_X0_from C ⟨h0, h1⟩ rfl fl_X0_13 dX0_moveBy_2 ?_
  refine X_iload_n C rfl dX0_moveBy_5 ?_
  refine X_iadd C dX0_moveBy_6 ?_
  refine Xp_X0_from C ⟨h0, h1⟩ fw_X0_13 dX0_moveBy_7 ?_
  refine X_aload_n C rfl dX0_moveBy_10 ?_
  refine X_dup C rfl dX0_moveBy_11 ?_
  refine Xg_X0_to C ⟨h0, by rw [up_r (by decide)]; exact h1⟩ (v := τ 7 c 0) (by rw [up_r (by decide)]) fl_X0_17 dX0_moveBy_12 ?_
  refine X_iload_n C rfl dX0_moveBy_15 ?_
  refine X_iadd C dX0_moveBy_16 ?_
  refine Xp_X0_to C ⟨h0, by rw [up_r (by decide)]; exact h1⟩ fw_X0_17 dX0_moveBy_17 ?_
  exact X_return C M (by decide) (by decide) dX0_moveBy_20 ⟨rfl, rfl, rfl⟩
set_option maxRecDepth 100000 in
set_option maxHeartbeats 4000000 in
theorem c_X5_holds {lc : Launch} (hlc : lc.stackTraces = false) {D : va_G} {Y : Nat → ClassId} {A : Nat → Prop} {τ σ : xS} {ρ : xG} {ad : xL} {o s : Int} (h0 : 0 ≤ o) (h1 : o < τ 32 0 0) (hpr : τ 35 0 0 = -1 ∨ 0 ≤ τ 35 0 0 ∧ τ 35 0 0 < τ 32 0 0) (hs : rg s) (hps : rg (τ 36 0 0)) : Ct lc yX5_holds cX5_holds 3 (some .boolean) (rmL 0 0 0) D Y A ad (jG Y τ σ ρ ad) [.ref (ad 9 0), .ref (ad 15 o), .int (iI s)] (pE (some (.int (iI (bI (τ 35 0 0 = o ∧ τ 36 0 0 = s))))) ad (jG Y τ σ ρ ad)) (pF) := by
  refine Ct_of hlc (by decide +kernel) rfl rfl (own := RX5) (nm := "holds") (l0 := [some (.ref (ad 9 0)), some (.ref (ad 15 o)), some (.int (iI s))]) rfl (Nat.le_of_ble_eq_true rfl) (fun κ C M => ?_)
  by_cases hp : τ 35 0 0 = -1
  · refine X_aload_n C rfl dX5_holds_0 ?_
    refine Xg_X5_order_N C hp fl_X5_15 dX5_holds_1 ?_
    refine X_ifnullN C (tgt := 27) dX5_holds_4 (by decide) ?_
    refine X_iconst C dX5_holds_27 ?_
    exact X_ireturn C M rfl (by decide) (by decide) dX5_holds_28 ⟨by first | exact rB1 (by omega) | exact rB0 (by omega), rfl, rfl⟩
  · have hpn : ¬ τ 35 0 0 = -1 := hp
    refine X_aload_n C rfl dX5_holds_0 ?_
    refine Xg_X5_order_S C rfl hpn fl_X5_15 dX5_holds_1 ?_
    refine X_ifnullR C dX5_holds_4 ?_
    refine X_aload_n C rfl dX5_holds_7 ?_
    refine Xg_X5_order_S C rfl hpn fl_X5_15 dX5_holds_8 ?_
    refine X_aload_n C rfl dX5_holds_11 ?_
    refine X_acmp_ne C (tgt := 27) (jG_15 (n := τ 35 0 0) (by omega)) (jG_15 ⟨h0, h1⟩) dX5_holds_12 (by decide) (fun c_12 => ?_) (fun c_12 => ?_)
    · refine X_iconst C dX5_holds_27 ?_
      exact X_ireturn C M rfl (by decide) (by decide) dX5_holds_28 ⟨by first | exact rB1 (by omega) | exact rB0 (by omega), rfl, rfl⟩
    · refine X_aload_n C rfl dX5_holds_15 ?_
      refine Xg_X5_sheet C rfl fl_X5_19 dX5_holds_16 ?_
      refine X_iload_n C rfl dX5_holds_19 ?_
      refine X_icmp_ne C (tgt := 27) dX5_holds_20 (by decide) ⟨by omega, by omega⟩ ⟨by omega, by omega⟩ (fun c_20 => ?_) (fun c_20 => ?_)
      · refine X_iconst C dX5_holds_27 ?_
        exact X_ireturn C M rfl (by decide) (by decide) dX5_holds_28 ⟨by first | exact rB1 (by omega) | exact rB0 (by omega), rfl, rfl⟩
      · refine X_iconst C dX5_holds_23 ?_
        refine X_goto C (tgt := 28) dX5_holds_24 (by decide) ?_
        exact X_ireturn C M rfl (by decide) (by decide) dX5_holds_28 ⟨by first | exact rB1 (by omega) | exact rB0 (by omega), rfl, rfl⟩
set_option maxRecDepth 100000 in
set_option maxHeartbeats 4000000 in
theorem c_X5_locks {lc : Launch} (hlc : lc.stackTraces = false) {D : va_G} {Y : Nat → ClassId} {A : Nat → Prop} {τ σ : xS} {ρ : xG} {ad : xL} {d p : Int} (hd : 0 ≤ d ∧ d < τ 30 0 0) (hpr : τ 35 0 0 = -1 ∨ 0 ≤ τ 35 0 0 ∧ τ 35 0 0 < τ 32 0 0) (hp0 : 0 ≤ p ∧ p ≤ 2147483647) (hpm : rg (τ 38 0 0)) (hdo : ∀ i, 0 ≤ i → i < τ 32 0 0 → 0 ≤ τ 9 i 0 ∧ τ 9 i 0 < τ 30 0 0) : Ct lc yX5_locks cX5_locks 3 (some .boolean) (rmL 0 0 0) D Y A ad (jG Y τ σ ρ ad) [.ref (ad 9 0), .ref (ad 11 d), .int (iI p)] (pE (some (.int (iI (bI (τ 35 0 0 ≠ -1 ∧ τ 9 (τ 35 0 0) 0 = d ∧ p / 8 ≤ τ 38 0 0))))) ad (jG Y τ σ ρ ad)) (pF) := by
  refine Ct_of hlc (by decide +kernel) rfl rfl (own := RX5) (nm := "locks") (l0 := [some (.ref (ad 9 0)), some (.ref (ad 11 d)), some (.int (iI p))]) rfl (Nat.le_of_ble_eq_true rfl) (fun κ C M => ?_)
  by_cases hp : τ 35 0 0 = -1
  · refine X_aload_n C rfl dX5_locks_0 ?_
    refine Xg_X5_order_N C hp fl_X5_15 dX5_locks_1 ?_
    refine X_ifnullN C (tgt := 33) dX5_locks_4 (by decide) ?_
    refine X_iconst C dX5_locks_33 ?_
    exact X_ireturn C M rfl (by decide) (by decide) dX5_locks_34 ⟨by first | exact rB1 (by omega) | exact rB0 (by omega), rfl, rfl⟩
  · have hpn : ¬ τ 35 0 0 = -1 := hp
    refine X_aload_n C rfl dX5_locks_0 ?_
    refine Xg_X5_order_S C rfl hpn fl_X5_15 dX5_locks_1 ?_
    refine X_ifnullR C dX5_locks_4 ?_
    refine X_aload_n C rfl dX5_locks_7 ?_
    refine Xg_X5_order_S C rfl hpn fl_X5_15 dX5_locks_8 ?_
    refine Xg_X4_document C (by omega) rfl fl_X5_23 dX5_locks_11 ?_
    refine X_aload_n C rfl dX5_locks_14 ?_
    refine X_acmp_ne C (tgt := 33) (jG_11 (hdo _ (by omega) (by omega))) (jG_11 hd) dX5_locks_15 (by decide) (fun c_15 => ?_) (fun c_15 => ?_)
    · refine X_iconst C dX5_locks_33 ?_
      exact X_ireturn C M rfl (by decide) (by decide) dX5_locks_34 ⟨by first | exact rB1 (by omega) | exact rB0 (by omega), rfl, rfl⟩
    · refine X_aload_n C rfl dX5_locks_18 ?_
      refine Xg_X5_greatestPage C rfl fl_X5_29 dX5_locks_19 ?_
      refine X_iload_n C rfl dX5_locks_22 ?_
      refine X_bipush C ⟨by decide, by decide⟩ dX5_locks_23 ?_
      refine X_idiv C ⟨by omega, by omega⟩ (by omega) ⟨by omega, by omega⟩ (by omega) dX5_locks_25 ?_
      refine X_icmp_lt C (tgt := 33) dX5_locks_26 (by decide) ⟨by omega, by omega⟩ ⟨by omega, by omega⟩ (fun c_26 => ?_) (fun c_26 => ?_)
      · refine X_iconst C dX5_locks_33 ?_
        exact X_ireturn C M rfl (by decide) (by decide) dX5_locks_34 ⟨by first | exact rB1 (by omega) | exact rB0 (by omega), rfl, rfl⟩
      · refine X_iconst C dX5_locks_29 ?_
        refine X_goto C (tgt := 34) dX5_locks_30 (by decide) ?_
        exact X_ireturn C M rfl (by decide) (by decide) dX5_locks_34 ⟨by first | exact rB1 (by omega) | exact rB0 (by omega), rfl, rfl⟩
set_option maxRecDepth 100000 in
set_option maxHeartbeats 4000000 in
theorem c_X6_isPrintedAs {lc : Launch} (hlc : lc.stackTraces = false) {D : va_G} {Y : Nat → ClassId} {A : Nat → Prop} {τ σ : xS} {ρ : xG} {ad : xL} {i d s : Int} (h0 : 0 ≤ i) (h1 : i < 3 * τ 32 0 0) (h : dOK τ d) (hs : 0 ≤ s ∧ s < shT τ d) (hc : xCd τ) (hp : ∀ k, -1 ≤ τ 16 i k ∧ τ 16 i k ≤ 128527) : Ct lc yX6_isPrintedAs cX6_isPrintedAs 4 (some .boolean) (rmL 2 0 0) D Y A ad (jG Y τ σ ρ ad) [.ref (ad 17 i), .ref (ad 11 d), .int (iI s)] (pE (some (.int (iI (bI (smA τ i d s))))) ad (jG Y τ σ ρ ad)) (pF) := by
  refine Ct_of hlc (by decide +kernel) rfl rfl (own := RX6) (nm := "isPrintedAs") (l0 := [some (.ref (ad 17 i)), some (.ref (ad 11 d)), some (.int (iI s)), none]) rfl (Nat.le_of_ble_eq_true rfl) (fun κ C M => ?_)
  obtain ⟨d0, d1, -, -, -⟩ := id h
  refine X_iconst C dX6_isPrintedAs_0 ?_
  refine X_istore_3 C (by decide) rfl dX6_isPrintedAs_1 ?_
  have L2 : ∀ (n9 : Nat) (k : Int), (0 ≤ k ∧ k ≤ 32) → (∀ q, 0 ≤ q → q < k → τ 16 i q = cOn τ d s q) → 32 - k < (n9 : Int) → X κ D A 4 0 0 2 ([some (.ref (ad 17 i)), some (.ref (ad 11 d)), some (.int (iI s)), some (.int (iI k))]) ([]) ad (jG Y τ σ ρ ad) := by
    intro n9
    induction n9 with
    | zero => intro k  hk hall hm; exfalso; omega
    | succ n9 ih =>
      intro k  hk hall hm
      refine X_iload_n C rfl dX6_isPrintedAs_2 ?_
      refine X_bipush C ⟨by decide, by decide⟩ dX6_isPrintedAs_3 ?_
      refine X_icmp_ge C (tgt := 31) dX6_isPrintedAs_5 (by decide) ⟨by omega, by omega⟩ ⟨by omega, by omega⟩ (fun c_5 => ?_) (fun c_5 => ?_)
      · refine X_iconst C dX6_isPrintedAs_31 ?_
        exact X_ireturn C M rfl (by decide) (by decide) dX6_isPrintedAs_32 ⟨rB1 (fun q a b => hall q a (by omega)), rfl, rfl⟩
      · refine X_aload_n C rfl dX6_isPrintedAs_8 ?_
        refine Xg_X6_printed C ⟨h0, h1⟩ fl_X6_9 dX6_isPrintedAs_9 ?_
        refine X_iload_n C rfl dX6_isPrintedAs_12 ?_
        refine Xa_printed_ld C ⟨h0, h1⟩ (by omega) (by omega) rfl dX6_isPrintedAs_13 ?_
        refine X_aload_n C rfl dX6_isPrintedAs_14 ?_
        refine X_iload_n C rfl dX6_isPrintedAs_15 ?_
        refine X_iload_n C rfl dX6_isPrintedAs_16 ?_
        refine X_callVE_2 C (c_X1_codeOnSheet C.hlc (by assumption) (by omega) (by omega)) cv_X6_22 (jG_11 ⟨d0, d1⟩) ⟨_, _, rfl⟩ rfl rfl dX6_isPrintedAs_17 ?_
        have hb1 := hp k
        have hb2 := cOn_b hc d s k
        refine X_icmp_eq C (tgt := 25) dX6_isPrintedAs_20 (by decide) ⟨by omega, by omega⟩ ⟨by omega, by omega⟩ (fun c_20 => ?_) (fun c_20 => ?_)
        · refine X_iinc_3 C (by decide) rfl dX6_isPrintedAs_25 ?_
          refine X_goto C (tgt := 2) dX6_isPrintedAs_28 (by decide) ?_
          exact ih (k + 1) (by omega) (fun q a b => by rcases Int.lt_or_eq_of_le (Int.le_of_lt_add_one b) with e | e; exact hall q a e; exact e ▸ c_20) (by omega)
        · refine X_iconst C dX6_isPrintedAs_23 ?_
          exact X_ireturn C M rfl (by decide) (by decide) dX6_isPrintedAs_24 ⟨rB0 (fun q => c_20 (q k (by omega) (by omega))), rfl, rfl⟩
  exact L2 33 0 (by omega) (fun q a b => by omega) (by omega)
set_option maxRecDepth 100000 in
set_option maxHeartbeats 4000000 in
theorem c_X6_takePrinted {lc : Launch} (hlc : lc.stackTraces = false) {D : va_G} {Y : Nat → ClassId} {A : Nat → Prop} {τ σ : xS} {ρ : xG} {ad : xL} {i : Int} (h0 : 0 ≤ i) (h1 : i < 3 * τ 32 0 0) : Ct lc yX6_takePrinted cX6_takePrinted 3 none (rmL 0 0 0) D Y A ad (jG Y τ σ ρ ad) [.ref (ad 17 i), .ref (ad 10 0)] (pE none ad (jG Y (up (upR τ 16 i (rwU (τ 16 i) (τ 18 0) 32)) 26 i 0 1) σ ρ ad)) (pF) := by
  refine Ct_of hlc (by decide +kernel) rfl rfl (own := RX6) (nm := "takePrinted") (l0 := [some (.ref (ad 17 i)), some (.ref (ad 10 0)), none]) rfl (Nat.le_of_ble_eq_true rfl) (fun κ C M => ?_)
  refine X_iconst C dX6_takePrinted_0 ?_
  refine X_istore_2 C (by decide) rfl dX6_takePrinted_1 ?_
  have L2 : ∀ (n9 : Nat) (k : Int), (0 ≤ k ∧ k ≤ 32) → 32 - k < (n9 : Int) → X κ D A 3 0 0 2 ([some (.ref (ad 17 i)), some (.ref (ad 10 0)), some (.int (iI k))]) ([]) ad (jG Y (upR τ 16 i (rwU (τ 16 i) (τ 18 0) k)) σ ρ ad) := by
    intro n9
    induction n9 with
    | zero => intro k  hk hm; exfalso; omega
    | succ n9 ih =>
      intro k  hk hm
      refine X_iload_n C rfl dX6_takePrinted_2 ?_
      refine X_bipush C ⟨by decide, by decide⟩ dX6_takePrinted_3 ?_
      refine X_icmp_ge C (tgt := 23) dX6_takePrinted_5 (by decide) ⟨by omega, by omega⟩ ⟨by omega, by omega⟩ (fun c_5 => ?_) (fun c_5 => ?_)
      · obtain rfl : k = 32 := by omega
        refine X_aload_n C rfl dX6_takePrinted_23 ?_
        refine X_iconst C dX6_takePrinted_24 ?_
        refine Xp_X6_isPrinted C ⟨h0, by rw [upR_r (by decide)]; exact h1⟩ (by first | exact Or.inl rfl | exact Or.inr rfl) fw_X6_18 dX6_takePrinted_25 ?_
        exact X_return C M (by decide) (by decide) dX6_takePrinted_28 ⟨rfl, rfl, rfl⟩
      · refine X_aload_n C rfl dX6_takePrinted_8 ?_
        refine Xg_X6_printed C ⟨h0, by rw [upR_r (by decide)]; exact h1⟩ fl_X6_9 dX6_takePrinted_9 ?_
        refine X_iload_n C rfl dX6_takePrinted_12 ?_
        refine X_aload_n C rfl dX6_takePrinted_13 ?_
        refine X_iload_n C rfl dX6_takePrinted_14 ?_
        refine Xa_image_ld C (by omega) (by omega) (v := τ 18 0 k) (by rw [upR_r (by decide)]) dX6_takePrinted_15 ?_
        refine Xa_printed_st C ⟨h0, by rw [upR_r (by decide)]; exact h1⟩ (by omega) (by omega) dX6_takePrinted_16 ?_
        refine X_iinc_2 C (by decide) rfl dX6_takePrinted_17 ?_
        refine X_goto C (tgt := 2) dX6_takePrinted_20 (by decide) ?_
        rw [rwU_s (f := τ 16 i) (g := τ 18 0) hk.1]
        exact ih (k + 1) (by omega) (by omega)
  have h9 := L2 33 0 (by omega) (by omega)
  rw [rwU_0, upR_self] at h9
  exact h9
set_option maxRecDepth 100000 in
set_option maxHeartbeats 4000000 in
theorem c_X4_isMoreUrgentThan {lc : Launch} (hlc : lc.stackTraces = false) {D : va_G} {Y : Nat → ClassId} {A : Nat → Prop} {τ σ : xS} {ρ : xG} {ad : xL} {o b : Int} (h0 : 0 ≤ o) (h1 : o < τ 32 0 0) (hb : 0 ≤ b ∧ b < τ 32 0 0) (hu : ∀ i, (0 ≤ τ 10 i 0 ∧ τ 10 i 0 ≤ 500) ∧ (0 ≤ τ 11 i 0 ∧ τ 11 i 0 ≤ 999)) : Ct lc yX4_isMoreUrgentThan cX4_isMoreUrgentThan 2 (some .boolean) (rmL 0 0 0) D Y A ad (jG Y τ σ ρ ad) [.ref (ad 15 o), .ref (ad 15 b)] (pE (some (.int (iI (bI (τ 11 o 0 < τ 11 b 0 ∨ τ 11 o 0 = τ 11 b 0 ∧ τ 10 o 0 > τ 10 b 0))))) ad (jG Y τ σ ρ ad)) (pF) := by
  refine Ct_of hlc (by decide +kernel) rfl rfl (own := RX4) (nm := "isMoreUrgentThan") (l0 := [some (.ref (ad 15 o)), some (.ref (ad 15 b))]) rfl (Nat.le_of_ble_eq_true rfl) (fun κ C M => ?_)
  have u1 := hu o
  have u2 := hu b
  refine X_aload_n C rfl dX4_isMoreUrgentThan_0 ?_
  refine Xg_X4_due C (by omega) rfl fl_X4_22 dX4_isMoreUrgentThan_1 ?_
  refine X_aload_n C rfl dX4_isMoreUrgentThan_4 ?_
  refine Xg_X4_due C (by omega) rfl fl_X4_22 dX4_isMoreUrgentThan_5 ?_
  refine X_icmp_lt C (tgt := 33) dX4_isMoreUrgentThan_8 (by decide) ⟨by omega, by omega⟩ ⟨by omega, by omega⟩ (fun c_8 => ?_) (fun c_8 => ?_)
  · refine X_iconst C dX4_isMoreUrgentThan_33 ?_
    refine X_goto C (tgt := 38) dX4_isMoreUrgentThan_34 (by decide) ?_
    exact X_ireturn C M rfl (by decide) (by decide) dX4_isMoreUrgentThan_38 ⟨by first | exact rB1 (by omega) | exact rB0 (by omega), rfl, rfl⟩
  · refine X_aload_n C rfl dX4_isMoreUrgentThan_11 ?_
    refine Xg_X4_due C (by omega) rfl fl_X4_22 dX4_isMoreUrgentThan_12 ?_
    refine X_aload_n C rfl dX4_isMoreUrgentThan_15 ?_
    refine Xg_X4_due C (by omega) rfl fl_X4_22 dX4_isMoreUrgentThan_16 ?_
    refine X_icmp_ne C (tgt := 37) dX4_isMoreUrgentThan_19 (by decide) ⟨by omega, by omega⟩ ⟨by omega, by omega⟩ (fun c_19 => ?_) (fun c_19 => ?_)
    · refine X_iconst C dX4_isMoreUrgentThan_37 ?_
      exact X_ireturn C M rfl (by decide) (by decide) dX4_isMoreUrgentThan_38 ⟨by first | exact rB1 (by omega) | exact rB0 (by omega), rfl, rfl⟩
    · refine X_aload_n C rfl dX4_isMoreUrgentThan_22 ?_
      refine Xg_X4_copies C (by omega) rfl fl_X4_19 dX4_isMoreUrgentThan_23 ?_
      refine X_aload_n C rfl dX4_isMoreUrgentThan_26 ?_
      refine Xg_X4_copies C (by omega) rfl fl_X4_19 dX4_isMoreUrgentThan_27 ?_
      refine X_icmp_le C (tgt := 37) dX4_isMoreUrgentThan_30 (by decide) ⟨by omega, by omega⟩ ⟨by omega, by omega⟩ (fun c_30 => ?_) (fun c_30 => ?_)
      · refine X_iconst C dX4_isMoreUrgentThan_37 ?_
        exact X_ireturn C M rfl (by decide) (by decide) dX4_isMoreUrgentThan_38 ⟨by first | exact rB1 (by omega) | exact rB0 (by omega), rfl, rfl⟩
      · refine X_iconst C dX4_isMoreUrgentThan_33 ?_
        refine X_goto C (tgt := 38) dX4_isMoreUrgentThan_34 (by decide) ?_
        exact X_ireturn C M rfl (by decide) (by decide) dX4_isMoreUrgentThan_38 ⟨by first | exact rB1 (by omega) | exact rB0 (by omega), rfl, rfl⟩
