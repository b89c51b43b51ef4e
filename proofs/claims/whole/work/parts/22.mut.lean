set_option maxRecDepth 100000 in
set_option maxHeartbeats 4000000 in
theorem c_X7_putIn {lc : Launch} (hlc : lc.stackTraces = false) {D : va_G} {Y : Nat → ClassId} {A : Nat → Prop} {τ σ : xS} {ρ : xG} {ad : xL} {t p c : Int} (h0 : 0 ≤ t) (h1 : t < 2 * τ 30 0 0) (hp : 0 ≤ p ∧ p ≤ τ 1 t 0) (hz : τ 1 t 0 < 80) : Ct lc yX7_putIn cX7_putIn 4 none (rmL 0 0 0) D Y A ad (jG Y τ σ ρ ad) [.ref (ad 12 t), .int (iI p), .int (iI c)] (pE none ad (jG Y (pinS τ t p c) σ ρ ad)) (pF) := by
  refine Ct_of hlc (by decide +kernel) rfl rfl (own := RX7) (nm := "putIn") (l0 := [some (.ref (ad 12 t)), some (.int (iI p)), some (.int (iI c)), none]) rfl (Nat.le_of_ble_eq_true rfl) (fun κ C M => ?_)
  refine X_iload_n C rfl dX7_putIn_0 ?_
  refine X_if_lt C (tgt := 21) dX7_putIn_1 (by decide) ⟨by omega, by omega⟩ (fun c_1 => ?_) (fun c_1 => ?_)
  · exfalso; omega
  refine X_iload_n C rfl dX7_putIn_4 ?_
  refine X_aload_n C rfl dX7_putIn_5 ?_
  refine Xg_X7_size C (by (try simp (discharger := decide) only [up_r, upR_r]); omega) rfl fl_X7_15 dX7_putIn_6 ?_
  refine X_icmp_gt C (tgt := 21) dX7_putIn_9 (by decide) ⟨by omega, by omega⟩ ⟨by omega, by omega⟩ (fun c_9 => ?_) (fun c_9 => ?_)
  · exfalso; omega
  refine X_aload_n C rfl dX7_putIn_12 ?_
  refine Xg_X7_size C (by (try simp (discharger := decide) only [up_r, upR_r]); omega) rfl fl_X7_15 dX7_putIn_13 ?_
  refine X_bipush C ⟨by decide, by decide⟩ dX7_putIn_16 ?_
  refine X_icmp_lt C (tgt := 22) dX7_putIn_18 (by decide) ⟨by omega, by omega⟩ ⟨by omega, by omega⟩ (fun c_18 => ?_) (fun c_18 => ?_)
  rotate_left
  · exfalso; omega
  refine X_aload_n C rfl dX7_putIn_22 ?_
  refine Xg_X7_size C (by (try simp (discharger := decide) only [up_r, upR_r]); omega) rfl fl_X7_15 dX7_putIn_23 ?_
  refine X_istore_3 C (by decide) rfl dX7_putIn_26 ?_
  have L27 : ∀ (n9 : Nat) (i : Int), (p ≤ i ∧ i ≤ τ 1 t 0) → i - p < (n9 : Int) → X κ D A 4 0 0 27 ([some (.ref (ad 12 t)), some (.int (iI p)), some (.int (iI c)), some (.int (iI i))]) ([]) ad (jG Y (upR τ 0 t (shR (τ 0 t) i (τ 1 t 0))) σ ρ ad) := by
    intro n9
    induction n9 with
    | zero => intro i  hi hm; exfalso; omega
    | succ n9 ih =>
      intro i  hi hm
      refine X_iload_n C rfl dX7_putIn_27 ?_
      refine X_iload_n C rfl dX7_putIn_28 ?_
      refine X_icmp_le C (tgt := 52) dX7_putIn_29 (by decide) ⟨by omega, by omega⟩ ⟨by omega, by omega⟩ (fun c_29 => ?_) (fun c_29 => ?_)
      · obtain rfl : i = p := by omega
        refine X_aload_n C rfl dX7_putIn_52 ?_
        refine Xg_X7_codes C (by (try simp (discharger := decide) only [up_r, upR_r]); omega) fl_X7_9 dX7_putIn_53 ?_
        refine X_iload_n C rfl dX7_putIn_56 ?_
        refine X_iload_n C rfl dX7_putIn_57 ?_
        refine Xa_tcodes_st C (by (try simp (discharger := decide) only [up_r, upR_r]); omega) (by omega) (by omega) dX7_putIn_58 ?_
        rw [insR_e]
        refine X_aload_n C rfl dX7_putIn_59 ?_
        refine X_dup C rfl dX7_putIn_60 ?_
        refine Xg_X7_size C (by (try simp (discharger := decide) only [up_r, upR_r]); omega) (v := τ 1 t 0) (by simp (discharger := decide) only [up_r, upR_r]) fl_X7_15 dX7_putIn_61 ?_
        refine X_iconst C dX7_putIn_64 ?_
        refine X_iadd C dX7_putIn_65 ?_
        refine Xp_X7_size C (by (try simp (discharger := decide) only [up_r, upR_r]); omega) fw_X7_15 dX7_putIn_66 ?_
        exact X_return C M (by decide) (by decide) dX7_putIn_69 ⟨rfl, rfl, rfl⟩
      · refine X_aload_n C rfl dX7_putIn_32 ?_
        refine Xg_X7_codes C (by (try simp (discharger := decide) only [up_r, upR_r]); omega) fl_X7_9 dX7_putIn_33 ?_
        refine X_iload_n C rfl dX7_putIn_36 ?_
        refine X_aload_n C rfl dX7_putIn_37 ?_
        refine Xg_X7_codes C (by (try simp (discharger := decide) only [up_r, upR_r]); omega) fl_X7_9 dX7_putIn_38 ?_
        refine X_iload_n C rfl dX7_putIn_41 ?_
        refine X_iconst C dX7_putIn_42 ?_
        refine X_isub C dX7_putIn_43 ?_
        refine Xa_tcodes_ld C (by (try simp (discharger := decide) only [up_r, upR_r]); omega) (by omega) (by omega) (v := τ 0 t (i - 1)) (by rw [upR_s]; unfold shR; rw [if_neg (by omega)]) dX7_putIn_44 ?_
        refine Xa_tcodes_st C (by (try simp (discharger := decide) only [up_r, upR_r]); omega) (by omega) (by omega) dX7_putIn_45 ?_
        refine X_iinc_3 C (by decide) rfl dX7_putIn_46 ?_
        refine X_goto C (tgt := 27) dX7_putIn_49 (by decide) ?_
        rw [shR_s hi.2]
        exact ih (i + -1) (by omega) (by omega)
  have h9 := L27 81 (τ 1 t 0) (by omega) (by omega)
  rw [shR_0, upR_self] at h9
  exact h9
set_option maxRecDepth 100000 in
set_option maxHeartbeats 4000000 in
theorem c_X7_takeOut {lc : Launch} (hlc : lc.stackTraces = false) {D : va_G} {Y : Nat → ClassId} {A : Nat → Prop} {τ σ : xS} {ρ : xG} {ad : xL} {t p : Int} (h0 : 0 ≤ t) (h1 : t < 2 * τ 30 0 0) (hp : 0 ≤ p ∧ p < τ 1 t 0) (hz : τ 1 t 0 ≤ 80) : Ct lc yX7_takeOut cX7_takeOut 3 none (rmL 0 0 0) D Y A ad (jG Y τ σ ρ ad) [.ref (ad 12 t), .int (iI p)] (pE none ad (jG Y (pouS τ t p) σ ρ ad)) (pF) := by
  refine Ct_of hlc (by decide +kernel) rfl rfl (own := RX7) (nm := "takeOut") (l0 := [some (.ref (ad 12 t)), some (.int (iI p)), none]) rfl (Nat.le_of_ble_eq_true rfl) (fun κ C M => ?_)
  refine X_iload_n C rfl dX7_takeOut_0 ?_
  refine X_if_lt C (tgt := 12) dX7_takeOut_1 (by decide) ⟨by omega, by omega⟩ (fun c_1 => ?_) (fun c_1 => ?_)
  · exfalso; omega
  refine X_iload_n C rfl dX7_takeOut_4 ?_
  refine X_aload_n C rfl dX7_takeOut_5 ?_
  refine Xg_X7_size C (by (try simp (discharger := decide) only [up_r, upR_r]); omega) rfl fl_X7_15 dX7_takeOut_6 ?_
  refine X_icmp_lt C (tgt := 13) dX7_takeOut_9 (by decide) ⟨by omega, by omega⟩ ⟨by omega, by omega⟩ (fun c_9 => ?_) (fun c_9 => ?_)
  rotate_left
  · exfalso; omega
  refine X_aload_n C rfl dX7_takeOut_13 ?_
  refine X_dup C rfl dX7_takeOut_14 ?_
  refine Xg_X7_size C (by (try simp (discharger := decide) only [up_r, upR_r]); omega) rfl fl_X7_15 dX7_takeOut_15 ?_
  refine X_iconst C dX7_takeOut_18 ?_
  refine X_isub C dX7_takeOut_19 ?_
  refine Xp_X7_size C (by (try simp (discharger := decide) only [up_r, upR_r]); omega) fw_X7_15 dX7_takeOut_20 ?_
  refine X_iload_n C rfl dX7_takeOut_23 ?_
  refine X_istore_2 C (by decide) rfl dX7_takeOut_24 ?_
  have L25 : ∀ (n9 : Nat) (i : Int), (p ≤ i ∧ i ≤ τ 1 t 0 - 1) → τ 1 t 0 - 1 - i < (n9 : Int) → X κ D A 3 0 0 25 ([some (.ref (ad 12 t)), some (.int (iI p)), some (.int (iI i))]) ([]) ad (jG Y (upR (up τ 1 t 0 (τ 1 t 0 - 1)) 0 t (dlR (τ 0 t) p i)) σ ρ ad) := by
    intro n9
    induction n9 with
    | zero => intro i  hi hm; exfalso; omega
    | succ n9 ih =>
      intro i  hi hm
      refine X_iload_n C rfl dX7_takeOut_25 ?_
      refine X_aload_n C rfl dX7_takeOut_26 ?_
      refine Xg_X7_size C (by (try simp (discharger := decide) only [up_r, upR_r]); omega) (v := τ 1 t 0 - 1) (by rw [upR_r (by decide), up_s]) fl_X7_15 dX7_takeOut_27 ?_
      refine X_icmp_ge C (tgt := 53) dX7_takeOut_30 (by decide) ⟨by omega, by omega⟩ ⟨by omega, by omega⟩ (fun c_30 => ?_) (fun c_30 => ?_)
      · obtain rfl : i = τ 1 t 0 - 1 := by omega
        exact X_return C M (by decide) (by decide) dX7_takeOut_53 ⟨rfl, rfl, rfl⟩
      · refine X_aload_n C rfl dX7_takeOut_33 ?_
        refine Xg_X7_codes C (by (try simp (discharger := decide) only [up_r, upR_r]); omega) fl_X7_9 dX7_takeOut_34 ?_
        refine X_iload_n C rfl dX7_takeOut_37 ?_
        refine X_aload_n C rfl dX7_takeOut_38 ?_
        refine Xg_X7_codes C (by (try simp (discharger := decide) only [up_r, upR_r]); omega) fl_X7_9 dX7_takeOut_39 ?_
        refine X_iload_n C rfl dX7_takeOut_42 ?_
        refine X_iconst C dX7_takeOut_43 ?_
        refine X_iadd C dX7_takeOut_44 ?_
        refine Xa_tcodes_ld C (by (try simp (discharger := decide) only [up_r, upR_r]); omega) (by omega) (by omega) (v := τ 0 t (i + 1)) (by rw [upR_s]; unfold dlR; rw [if_neg (by omega)]) dX7_takeOut_45 ?_
        refine Xa_tcodes_st C (by (try simp (discharger := decide) only [up_r, upR_r]); omega) (by omega) (by omega) dX7_takeOut_46 ?_
        refine X_iinc_2 C (by decide) rfl dX7_takeOut_47 ?_
        refine X_goto C (tgt := 25) dX7_takeOut_50 (by decide) ?_
        rw [dlR_s hi.1]
        exact ih (i + 1) (by omega) (by omega)
  have h9 := L25 81 p (by omega) (by omega)
  rw [dlR_0, show upR (up τ 1 t 0 (τ 1 t 0 - 1)) 0 t (τ 0 t) = up τ 1 t 0 (τ 1 t 0 - 1) from by rw [show τ 0 t = (up τ 1 t 0 (τ 1 t 0 - 1)) 0 t from by rw [up_r (by decide)]]; exact upR_self] at h9
  exact h9
set_option maxRecDepth 100000 in
set_option maxHeartbeats 4000000 in
theorem c_X7_become {lc : Launch} (hlc : lc.stackTraces = false) {D : va_G} {Y : Nat → ClassId} {A : Nat → Prop} {τ σ : xS} {ρ : xG} {ad : xL} {t u : Int} (h0 : 0 ≤ t) (h1 : t < 2 * τ 30 0 0) (hu : 0 ≤ u ∧ u < 2 * τ 30 0 0) (hne : u ≠ t) (hz : 0 ≤ τ 1 u 0 ∧ τ 1 u 0 ≤ 80) : Ct lc yX7_become cX7_become 3 none (rmL 0 0 0) D Y A ad (jG Y τ σ ρ ad) [.ref (ad 12 t), .ref (ad 12 u)] (pE none ad (jG Y (becS τ t u) σ ρ ad)) (pF) := by
  refine Ct_of hlc (by decide +kernel) rfl rfl (own := RX7) (nm := "become") (l0 := [some (.ref (ad 12 t)), some (.ref (ad 12 u)), none]) rfl (Nat.le_of_ble_eq_true rfl) (fun κ C M => ?_)
  refine X_aload_n C rfl dX7_become_0 ?_
  refine X_aload_n C rfl dX7_become_1 ?_
  refine Xg_X7_size C (by (try simp (discharger := decide) only [up_r, upR_r]); omega) rfl fl_X7_15 dX7_become_2 ?_
  refine Xp_X7_size C (by (try simp (discharger := decide) only [up_r, upR_r]); omega) fw_X7_15 dX7_become_5 ?_
  refine X_iconst C dX7_become_8 ?_
  refine X_istore_2 C (by decide) rfl dX7_become_9 ?_
  have L10 : ∀ (n9 : Nat) (k : Int), (0 ≤ k ∧ k ≤ τ 1 u 0) → τ 1 u 0 - k < (n9 : Int) → X κ D A 3 0 0 10 ([some (.ref (ad 12 t)), some (.ref (ad 12 u)), some (.int (iI k))]) ([]) ad (jG Y (upR (up τ 1 t 0 (τ 1 u 0)) 0 t (rwU (τ 0 t) (τ 0 u) k)) σ ρ ad) := by
    intro n9
    induction n9 with
    | zero => intro k  hk hm; exfalso; omega
    | succ n9 ih =>
      intro k  hk hm
      refine X_iload_n C rfl dX7_become_10 ?_
      refine X_aload_n C rfl dX7_become_11 ?_
      refine Xg_X7_size C (by (try simp (discharger := decide) only [up_r, upR_r]); omega) (v := τ 1 u 0) (by rw [upR_r (by decide), up_s]) fl_X7_15 dX7_become_12 ?_
      refine X_icmp_ge C (tgt := 36) dX7_become_15 (by decide) ⟨by omega, by omega⟩ ⟨by omega, by omega⟩ (fun c_15 => ?_) (fun c_15 => ?_)
      · obtain rfl : k = τ 1 u 0 := by omega
        exact X_return C M (by decide) (by decide) dX7_become_36 ⟨rfl, rfl, rfl⟩
      · refine X_aload_n C rfl dX7_become_18 ?_
        refine Xg_X7_codes C (by (try simp (discharger := decide) only [up_r, upR_r]); omega) fl_X7_9 dX7_become_19 ?_
        refine X_iload_n C rfl dX7_become_22 ?_
        refine X_aload_n C rfl dX7_become_23 ?_
        refine Xg_X7_codes C (by (try simp (discharger := decide) only [up_r, upR_r]); omega) fl_X7_9 dX7_become_24 ?_
        refine X_iload_n C rfl dX7_become_27 ?_
        refine Xa_tcodes_ld C (by (try simp (discharger := decide) only [up_r, upR_r]); omega) (by omega) (by omega) (v := τ 0 u k) (by rw [upR_n hne, up_r (by decide)]) dX7_become_28 ?_
        refine Xa_tcodes_st C (by (try simp (discharger := decide) only [up_r, upR_r]); omega) (by omega) (by omega) dX7_become_29 ?_
        refine X_iinc_2 C (by decide) rfl dX7_become_30 ?_
        refine X_goto C (tgt := 10) dX7_become_33 (by decide) ?_
        rw [rwU_s (f := τ 0 t) (g := τ 0 u) hk.1]
        exact ih (k + 1) (by omega) (by omega)
  have h9 := L10 81 0 (by omega) (by omega)
  rw [rwU_0, show upR (up τ 1 t 0 (τ 1 u 0)) 0 t (τ 0 t) = up τ 1 t 0 (τ 1 u 0) from by rw [show τ 0 t = (up τ 1 t 0 (τ 1 u 0)) 0 t from by rw [up_r (by decide)]]; exact upR_self] at h9
  exact h9
set_option maxRecDepth 100000 in
set_option maxHeartbeats 4000000 in
theorem c_X1_makeProof {lc : Launch} (hlc : lc.stackTraces = false) {D : va_G} {Y : Nat → ClassId} {A : Nat → Prop} {τ σ : xS} {ρ : xG} {ad : xL} {d : Int} (h0 : 0 ≤ d) (h1 : d < τ 30 0 0) (hz : 0 ≤ τ 1 (2 * d) 0 ∧ τ 1 (2 * d) 0 ≤ 80) : Ct lc yX1_makeProof cX1_makeProof 1 none (rmL 1 0 0) D Y A ad (jG Y τ σ ρ ad) [.ref (ad 11 d)] (pE none ad (jG Y (mkpS τ d) σ ρ ad)) (pF) := by
  refine Ct_of hlc (by decide +kernel) rfl rfl (own := RX1) (nm := "makeProof") (l0 := [some (.ref (ad 11 d))]) rfl (Nat.le_of_ble_eq_true rfl) (fun κ C M => ?_)
  refine X_aload_n C rfl dX1_makeProof_0 ?_
  refine Xg_X1_proof C (by (try simp (discharger := decide) only [up_r, upR_r, becS]); omega) fl_X1_22 dX1_makeProof_1 ?_
  refine X_aload_n C rfl dX1_makeProof_4 ?_
  refine Xg_X1_text C (by (try simp (discharger := decide) only [up_r, upR_r, becS]); omega) fl_X1_18 dX1_makeProof_5 ?_
  refine X_callVE0_1 C (c_X7_become C.hlc (by omega) (by omega) (by omega) (by omega) (by omega)) cv_X1_31 (jG_12 (by (try simp (discharger := decide) only [up_r, upR_r, becS]); omega)) ⟨_, _, rfl⟩ rfl rfl dX1_makeProof_8 ?_
  refine X_aload_n C rfl dX1_makeProof_11 ?_
  refine X_aload_n C rfl dX1_makeProof_12 ?_
  refine Xg_X1_version C (by (try simp (discharger := decide) only [up_r, upR_r, becS]); omega) (v := τ 2 d 0) (by unfold becS; rw [upR_r (by decide), up_r (by decide)]) fl_X1_35 dX1_makeProof_13 ?_
  refine Xp_X1_proofVersion C (by (try simp (discharger := decide) only [up_r, upR_r, becS]); omega) fw_X1_25 dX1_makeProof_16 ?_
  refine X_aload_n C rfl dX1_makeProof_19 ?_
  refine X_aload_n C rfl dX1_makeProof_20 ?_
  refine Xg_X1_proof C (by (try simp (discharger := decide) only [up_r, upR_r, becS]); omega) fl_X1_22 dX1_makeProof_21 ?_
  refine Xg_X7_size C (by (try simp (discharger := decide) only [up_r, upR_r, becS]); omega) (v := τ 1 (2 * d) 0) (by rw [up_r (by decide)]; unfold becS; rw [upR_r (by decide), up_s]) fl_X1_38 dX1_makeProof_24 ?_
  refine X_callSE_1 C (c_X2_sheetCount C.hlc (by omega) (by omega)) cs_X1_41 rfl rfl dX1_makeProof_27 ?_
  refine Xp_X1_proofSheets C (by (try simp (discharger := decide) only [up_r, upR_r, becS]); omega) fw_X1_47 dX1_makeProof_30 ?_
  exact X_return C M (by decide) (by decide) dX1_makeProof_33 ⟨rfl, rfl, rfl⟩
set_option maxRecDepth 100000 in
set_option maxHeartbeats 4000000 in
theorem c_X6_makePlate {lc : Launch} (hlc : lc.stackTraces = false) {D : va_G} {Y : Nat → ClassId} {A : Nat → Prop} {τ σ : xS} {ρ : xG} {ad : xL} {i d s : Int} (h0 : 0 ≤ i) (h1 : i < 3 * τ 32 0 0) (h : dOK τ d) (hs : 0 ≤ s ∧ s < shT τ d) (hc : xCd τ) : Ct lc yX6_makePlate cX6_makePlate 5 none (rmL 2 0 0) D Y A ad (jG Y τ σ ρ ad) [.ref (ad 17 i), .ref (ad 11 d), .int (iI s)] (pE none ad (jG Y (up (plS τ i d s 32) 28 i 0 1) σ ρ ad)) (pF) := by
  refine Ct_of hlc (by decide +kernel) rfl rfl (own := RX6) (nm := "makePlate") (l0 := [some (.ref (ad 17 i)), some (.ref (ad 11 d)), some (.int (iI s)), none, none]) rfl (Nat.le_of_ble_eq_true rfl) (fun κ C M => ?_)
  obtain ⟨d0, d1, -, -, -⟩ := id h
  refine X_aload_n C rfl dX6_makePlate_0 ?_
  refine X_iconst C dX6_makePlate_1 ?_
  refine Xp_X6_plateSize C ⟨h0, h1⟩ fw_X6_28 dX6_makePlate_2 ?_
  refine X_bipush C ⟨by decide, by decide⟩ dX6_makePlate_5 ?_
  refine X_istore_3 C (by decide) rfl dX6_makePlate_7 ?_
  have L8 : ∀ (n9 : Nat) (m : Int) (w : Option Value), (0 ≤ m ∧ m ≤ 32) → 32 - m < (n9 : Int) → X κ D A 5 0 0 8 ([some (.ref (ad 17 i)), some (.ref (ad 11 d)), some (.int (iI s)), some (.int (iI (31 - m))), w]) ([]) ad (jG Y (plS τ i d s m) σ ρ ad) := by
    intro n9
    induction n9 with
    | zero => intro m w  hm0 hm; exfalso; omega
    | succ n9 ih =>
      intro m w  hm0 hm
      have hpc := plC_b (cd := cOn τ d s) hm0.1
      refine X_iload_n C rfl dX6_makePlate_8 ?_
      refine X_if_lt C (tgt := 53) dX6_makePlate_9 (by decide) ⟨by omega, by omega⟩ (fun c_9 => ?_) (fun c_9 => ?_)
      · obtain rfl : m = 32 := by omega
        refine X_aload_n C rfl dX6_makePlate_53 ?_
        refine X_iconst C dX6_makePlate_54 ?_
        refine Xp_X6_hasPlate C (by unfold plS; simp (discharger := decide) only [up_r, upR_r]; omega) (by first | exact Or.inl rfl | exact Or.inr rfl) fw_X6_32 dX6_makePlate_55 ?_
        exact X_return C M (by decide) (by decide) dX6_makePlate_58 ⟨rfl, rfl, rfl⟩
      · refine X_aload_n C rfl dX6_makePlate_12 ?_
        refine X_iload_n C rfl dX6_makePlate_13 ?_
        refine X_iload_n C rfl dX6_makePlate_14 ?_
        refine X_callVE_2 C (c_X1_codeOnSheet C.hlc (h.c (by unfold plS; simp (discharger := decide) only [up_r, upR_r]) (by unfold plS; simp (discharger := decide) only [up_r, upR_r]) (by unfold plS; simp (discharger := decide) only [up_r, upR_r])) (by rw [show shT (plS τ i d s m) d = shT τ d from shT_c (by unfold plS; simp (discharger := decide) only [up_r, upR_r])]; omega) (by omega)) cv_X6_22 (jG_11 (by unfold plS; simp (discharger := decide) only [up_r, upR_r]; exact ⟨d0, d1⟩)) ⟨_, _, rfl⟩ rfl rfl dX6_makePlate_15 ?_
        rw [show cOn (plS τ i d s m) d s (31 - m) = cOn τ d s (31 - m) from cOn_c (by unfold plS; simp (discharger := decide) only [up_r, upR_r]) (by unfold plS; simp (discharger := decide) only [up_r, upR_r])]
        have hcb := cOn_b hc d s (31 - m)
        refine X_istore_4 C (by decide) rfl dX6_makePlate_18 ?_
        refine X_iload C rfl dX6_makePlate_20 ?_
        refine X_iconst C dX6_makePlate_22 ?_
        refine X_icmp_eq C (tgt := 47) dX6_makePlate_23 (by decide) ⟨by omega, by omega⟩ ⟨by omega, by omega⟩ (fun c_23 => ?_) (fun c_23 => ?_)
        · refine X_iinc_3 C (by decide) rfl dX6_makePlate_47 ?_
          refine X_goto C (tgt := 8) dX6_makePlate_50 (by decide) ?_
          rw [show plS τ i d s m = plS τ i d s (m + 1) from by rw [plS_s hm0.1, if_pos c_23], show (31 - m + -1 : Int) = 31 - (m + 1) by omega]
          exact ih (m + 1) _ (by omega) (by omega)
        · refine X_aload_n C rfl dX6_makePlate_26 ?_
          refine Xg_X6_plate C (by unfold plS; simp (discharger := decide) only [up_r, upR_r]; omega) fl_X6_15 dX6_makePlate_27 ?_
          refine X_aload_n C rfl dX6_makePlate_30 ?_
          refine Xg_X6_plateSize C (by unfold plS; simp (discharger := decide) only [up_r, upR_r]; omega) (v := plC (cOn τ d s) m) (by unfold plS; rw [upR_r (by decide), up_s]) fl_X6_28 dX6_makePlate_31 ?_
          refine X_iload C rfl dX6_makePlate_34 ?_
          refine Xa_plate_st C (by unfold plS; simp (discharger := decide) only [up_r, upR_r]; omega) (by omega) (by omega) dX6_makePlate_36 ?_
          refine X_aload_n C rfl dX6_makePlate_37 ?_
          refine X_dup C rfl dX6_makePlate_38 ?_
          refine Xg_X6_plateSize C (by unfold plS; simp (discharger := decide) only [up_r, upR_r]; omega) (v := plC (cOn τ d s) m) (by rw [up_r (by decide)]; unfold plS; rw [upR_r (by decide), up_s]) fl_X6_28 dX6_makePlate_39 ?_
          refine X_iconst C dX6_makePlate_42 ?_
          refine X_iadd C dX6_makePlate_43 ?_
          refine Xp_X6_plateSize C (by unfold plS; simp (discharger := decide) only [up_r, upR_r]; omega) fw_X6_28 dX6_makePlate_44 ?_
          refine X_iinc_3 C (by decide) rfl dX6_makePlate_47 ?_
          refine X_goto C (tgt := 8) dX6_makePlate_50 (by decide) ?_
          rw [show up (up (plS τ i d s m) 17 i (plC (cOn τ d s) m) (cOn τ d s (31 - m))) 27 i 0 (plC (cOn τ d s) m + 1) = plS τ i d s (m + 1) from by rw [plS_s hm0.1, if_neg c_23], show (31 - m + -1 : Int) = 31 - (m + 1) by omega]
          exact ih (m + 1) _ (by omega) (by omega)
  have h9 := L8 33 0 none (by omega) (by omega)
  rw [show plS τ i d s 0 = up τ 27 i 0 0 from by unfold plS; rw [plR_0, plC_0, show τ 17 i = (up τ 27 i 0 0) 17 i from by rw [up_r (by decide)]]; exact upR_self] at h9
  exact h9
set_option maxRecDepth 100000 in
set_option maxHeartbeats 4000000 in
theorem c_X6_hasPlateFor {lc : Launch} (hlc : lc.stackTraces = false) {D : va_G} {Y : Nat → ClassId} {A : Nat → Prop} {τ σ : xS} {ρ : xG} {ad : xL} {i d s : Int} (h0 : 0 ≤ i) (h1 : i < 3 * τ 32 0 0) (h : dOK τ d) (hs : 0 ≤ s ∧ s < shT τ d) (hc : xCd τ) (hp : ∀ k, -1 ≤ τ 17 i k ∧ τ 17 i k ≤ 128527) (hz : 0 ≤ τ 27 i 0 ∧ τ 27 i 0 ≤ 32) (hb : τ 28 i 0 = 0 ∨ τ 28 i 0 = 1) : Ct lc yX6_hasPlateFor cX6_hasPlateFor 6 (some .boolean) (rmL 2 0 0) D Y A ad (jG Y τ σ ρ ad) [.ref (ad 17 i), .ref (ad 11 d), .int (iI s)] (pE (some (.int (iI (bI (hasP τ i d s))))) ad (jG Y τ σ ρ ad)) (pF) := by
  refine Ct_of hlc (by decide +kernel) rfl rfl (own := RX6) (nm := "hasPlateFor") (l0 := [some (.ref (ad 17 i)), some (.ref (ad 11 d)), some (.int (iI s)), none, none, none]) rfl (Nat.le_of_ble_eq_true rfl) (fun κ C M => ?_)
  obtain ⟨d0, d1, -, -, -⟩ := id h
  have h32 := plC_b (cd := cOn τ d s) (m := 32) (by omega)
  refine X_iconst C dX6_hasPlateFor_0 ?_
  refine X_istore_3 C (by decide) rfl dX6_hasPlateFor_1 ?_
  refine X_bipush C ⟨by decide, by decide⟩ dX6_hasPlateFor_2 ?_
  refine X_istore_4 C (by decide) rfl dX6_hasPlateFor_4 ?_
  have L6 : ∀ (n9 : Nat) (m x : Int) (w : Option Value), (0 ≤ m ∧ m ≤ 32) → (x = plC (cOn τ d s) m) → (∀ q, 0 ≤ q → q < plC (cOn τ d s) m → q < τ 27 i 0 ∧ τ 17 i q = plR (fun _ => 0) (cOn τ d s) m q) → 32 - m < (n9 : Int) → X κ D A 6 0 0 6 ([some (.ref (ad 17 i)), some (.ref (ad 11 d)), some (.int (iI s)), some (.int (iI x)), some (.int (iI (31 - m))), w]) ([]) ad (jG Y τ σ ρ ad) := by
    intro n9
    induction n9 with
    | zero => intro m x w  hm0 hx hall hm; exfalso; omega
    | succ n9 ih =>
      intro m x w  hm0 hx hall hm
      have hpc := plC_b (cd := cOn τ d s) hm0.1
      refine X_iload C rfl dX6_hasPlateFor_6 ?_
      refine X_if_lt C (tgt := 59) dX6_hasPlateFor_8 (by decide) ⟨by omega, by omega⟩ (fun c_8 => ?_) (fun c_8 => ?_)
      · obtain rfl : m = 32 := by omega
        refine X_aload_n C rfl dX6_hasPlateFor_59 ?_
        refine Xg_X6_hasPlate C ⟨h0, h1⟩ rfl fl_X6_32 dX6_hasPlateFor_60 ?_
        refine X_if_eq C (tgt := 78) dX6_hasPlateFor_63 (by decide) ⟨by omega, by omega⟩ (fun c_63 => ?_) (fun c_63 => ?_)
        · refine X_iconst C dX6_hasPlateFor_78 ?_
          exact X_ireturn C M rfl (by decide) (by decide) dX6_hasPlateFor_79 ⟨rB0 (fun q => by have := q.1; omega), rfl, rfl⟩
        · refine X_iload_n C rfl dX6_hasPlateFor_66 ?_
          refine X_aload_n C rfl dX6_hasPlateFor_67 ?_
          refine Xg_X6_plateSize C ⟨h0, h1⟩ rfl fl_X6_28 dX6_hasPlateFor_68 ?_
          refine X_icmp_ne C (tgt := 78) dX6_hasPlateFor_71 (by decide) ⟨by omega, by omega⟩ ⟨by omega, by omega⟩ (fun c_71 => ?_) (fun c_71 => ?_)
          · refine X_iconst C dX6_hasPlateFor_78 ?_
            exact X_ireturn C M rfl (by decide) (by decide) dX6_hasPlateFor_79 ⟨rB0 (fun q => by have := q.2.1; omega), rfl, rfl⟩
          · refine X_iconst C dX6_hasPlateFor_74 ?_
            refine X_goto C (tgt := 79) dX6_hasPlateFor_75 (by decide) ?_
            exact X_ireturn C M rfl (by decide) (by decide) dX6_hasPlateFor_79 ⟨rB1 ⟨by omega, by omega, fun q a b => (hall q a b).2⟩, rfl, rfl⟩
      · refine X_aload_n C rfl dX6_hasPlateFor_11 ?_
        refine X_iload_n C rfl dX6_hasPlateFor_12 ?_
        refine X_iload C rfl dX6_hasPlateFor_13 ?_
        refine X_callVE_2 C (c_X1_codeOnSheet C.hlc (by assumption) (by omega) (by omega)) cv_X6_22 (jG_11 ⟨d0, d1⟩) ⟨_, _, rfl⟩ rfl rfl dX6_hasPlateFor_15 ?_
        have hcb := cOn_b hc d s (31 - m)
        refine X_istore_5 C (by decide) rfl dX6_hasPlateFor_18 ?_
        refine X_iload C rfl dX6_hasPlateFor_20 ?_
        refine X_iconst C dX6_hasPlateFor_22 ?_
        refine X_icmp_ne C (tgt := 29) dX6_hasPlateFor_23 (by decide) ⟨by omega, by omega⟩ ⟨by omega, by omega⟩ (fun c_23 => ?_) (fun c_23 => ?_)
        · refine X_iload_n C rfl dX6_hasPlateFor_29 ?_
          refine X_aload_n C rfl dX6_hasPlateFor_30 ?_
          refine Xg_X6_plateSize C ⟨h0, h1⟩ rfl fl_X6_28 dX6_hasPlateFor_31 ?_
          refine X_icmp_ge C (tgt := 48) dX6_hasPlateFor_34 (by decide) ⟨by omega, by omega⟩ ⟨by omega, by omega⟩ (fun c_34 => ?_) (fun c_34 => ?_)
          · refine X_iconst C dX6_hasPlateFor_48 ?_
            exact X_ireturn C M rfl (by decide) (by decide) dX6_hasPlateFor_49 ⟨rB0 (fun q => by have e1 := plC_m (cd := cOn τ d s) (m := m + 1) (n := 32) (by omega) (by omega); rw [plC_s hm0.1, if_neg (show ¬ cOn τ d s (31 - m) = -1 from c_23)] at e1; have e2 := q.2.1; omega), rfl, rfl⟩
          · refine X_aload_n C rfl dX6_hasPlateFor_37 ?_
            refine Xg_X6_plate C ⟨h0, h1⟩ fl_X6_15 dX6_hasPlateFor_38 ?_
            refine X_iload_n C rfl dX6_hasPlateFor_41 ?_
            refine Xa_plate_ld C ⟨h0, h1⟩ (by omega) (by omega) rfl dX6_hasPlateFor_42 ?_
            refine X_iload C rfl dX6_hasPlateFor_43 ?_
            have hpb := hp x
            refine X_icmp_eq C (tgt := 50) dX6_hasPlateFor_45 (by decide) ⟨by omega, by omega⟩ ⟨by omega, by omega⟩ (fun c_45 => ?_) (fun c_45 => ?_)
            · refine X_iinc_3 C (by decide) rfl dX6_hasPlateFor_50 ?_
              refine X_iinc_4 C (by decide) rfl dX6_hasPlateFor_53 ?_
              refine X_goto C (tgt := 6) dX6_hasPlateFor_56 (by decide) ?_
              rw [show (31 - m + -1 : Int) = 31 - (m + 1) by omega]
              exact ih (m + 1) _ _ (by omega) (by rw [hx, plC_s hm0.1, if_neg (show ¬ cOn τ d s (31 - m) = -1 from c_23)]) (fun q a b => by
                rw [plC_s hm0.1, if_neg (show ¬ cOn τ d s (31 - m) = -1 from c_23)] at b
                rw [plR_s hm0.1, if_neg (show ¬ cOn τ d s (31 - m) = -1 from c_23)]
                by_cases e : q = plC (cOn τ d s) m
                · subst e; exact ⟨by omega, by rw [if_pos rfl, ← hx]; exact c_45⟩
                · have := hall q a (by omega); exact ⟨this.1, by rw [if_neg e]; exact this.2⟩) (by omega)
            · refine X_iconst C dX6_hasPlateFor_48 ?_
              exact X_ireturn C M rfl (by decide) (by decide) dX6_hasPlateFor_49 ⟨rB0 (fun q => by have e1 := plC_m (cd := cOn τ d s) (m := m + 1) (n := 32) (by omega) (by omega); have e0 := plC_s (cd := cOn τ d s) hm0.1; rw [if_neg (show ¬ cOn τ d s (31 - m) = -1 from c_23)] at e0; have e2 := q.2.2 x (by omega) (by omega); rw [plR_k (m := m + 1) (by omega) (by omega) (by omega), plR_s hm0.1, if_neg (show ¬ cOn τ d s (31 - m) = -1 from c_23), if_pos hx] at e2; exact c_45 e2), rfl, rfl⟩
        · refine X_goto C (tgt := 53) dX6_hasPlateFor_26 (by decide) ?_
          refine X_iinc_4 C (by decide) rfl dX6_hasPlateFor_53 ?_
          refine X_goto C (tgt := 6) dX6_hasPlateFor_56 (by decide) ?_
          rw [show (31 - m + -1 : Int) = 31 - (m + 1) by omega]
          exact ih (m + 1) _ _ (by omega) (by rw [hx, plC_s hm0.1, if_pos (show cOn τ d s (31 - m) = -1 from c_23)]) (fun q a b => by rw [plC_s hm0.1, if_pos (show cOn τ d s (31 - m) = -1 from c_23)] at b; rw [plR_s hm0.1, if_pos (show cOn τ d s (31 - m) = -1 from c_23)]; exact hall q a b) (by omega)
  exact L6 33 0 0 none (by omega) rfl (fun q a b => by rw [plC_0] at b; omega) (by omega)
