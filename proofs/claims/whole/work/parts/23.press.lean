set_option maxRecDepth 100000 in
set_option maxHeartbeats 4000000 in
theorem c_X5_load {lc : Launch} (hlc : lc.stackTraces = false) {D : va_G} {Y : Nat → ClassId} {A : Nat → Prop} {τ σ : xS} {ρ : xG} {ad : xL} {o s h : Int} (h0 : 0 ≤ o) (h1 : o < τ 32 0 0) (hd : dOK τ (τ 9 o 0)) (hs : 0 ≤ s ∧ s < shT τ (τ 9 o 0)) : Ct lc yX5_load cX5_load 5 none (rmL 2 0 0) D Y A ad (jG Y τ σ ρ ad) [.ref (ad 9 0), .ref (ad 15 o), .int (iI s), .int (iI h)] (pE none ad (jG Y (ldS τ o s h) σ ρ ad)) (pF) := by
  refine Ct_of hlc (by decide +kernel) rfl rfl (own := RX5) (nm := "load") (l0 := [some (.ref (ad 9 0)), some (.ref (ad 15 o)), some (.int (iI s)), some (.int (iI h)), none]) rfl (Nat.le_of_ble_eq_true rfl) (fun κ C M => ?_)
  obtain ⟨d0, d1, d2, -, -⟩ := id hd
  have hsb := hd.sh
  have hpn : ¬ o = -1 := by omega
  refine X_aload_n C rfl dX5_load_0 ?_
  refine X_aload_n C rfl dX5_load_1 ?_
  refine Xp_X5_order_S C hpn fw_X5_15 dX5_load_2 ?_
  refine X_aload_n C rfl dX5_load_5 ?_
  refine X_iload_n C rfl dX5_load_6 ?_
  refine Xp_X5_sheet C fw_X5_19 dX5_load_7 ?_
  refine X_aload_n C rfl dX5_load_10 ?_
  refine X_iload_n C rfl dX5_load_11 ?_
  refine Xp_X5_leavingHour C fw_X5_32 dX5_load_12 ?_
  refine X_aload_n C rfl dX5_load_15 ?_
  refine X_aload_n C rfl dX5_load_16 ?_
  refine Xg_X4_document C (by (try simp (discharger := decide) only [up_r, upR_r]); omega) (v := τ 9 o 0) (by simp (discharger := decide) only [up_r, upR_r]) fl_X5_23 dX5_load_17 ?_
  refine Xg_X1_proofSheets C (by simp (discharger := decide) only [up_r]; omega) (v := shT τ (τ 9 o 0)) (by simp (discharger := decide) only [up_r]; exact d2) fl_X5_35 dX5_load_20 ?_
  refine X_iload_n C rfl dX5_load_23 ?_
  refine X_callSE_2 C (c_X2_greatestPage C.hlc (by omega) (by omega)) cs_X5_40 rfl rfl dX5_load_24 ?_
  refine Xp_X5_greatestPage C fw_X5_29 dX5_load_27 ?_
  refine X_iconst C dX5_load_30 ?_
  refine X_istore_4 C (by decide) rfl dX5_load_31 ?_
  have L33 : ∀ (n9 : Nat) (k : Int), (0 ≤ k ∧ k ≤ 32) → 32 - k < (n9 : Int) → X κ D A 5 0 0 33 ([some (.ref (ad 9 0)), some (.ref (ad 15 o)), some (.int (iI s)), some (.int (iI h)), some (.int (iI k))]) ([]) ad (jG Y (upR (up (up (up (up τ 35 0 0 o) 36 0 0 s) 37 0 0 h) 38 0 0 (pgA (shT τ (τ 9 o 0)) s 0)) 18 0 (rwU (τ 18 0) (cOn τ (τ 9 o 0) s) k)) σ ρ ad) := by
    intro n9
    induction n9 with
    | zero => intro k  hk hm; exfalso; omega
    | succ n9 ih =>
      intro k  hk hm
      refine X_iload C rfl dX5_load_33 ?_
      refine X_bipush C ⟨by decide, by decide⟩ dX5_load_35 ?_
      refine X_icmp_ge C (tgt := 63) dX5_load_37 (by decide) ⟨by omega, by omega⟩ ⟨by omega, by omega⟩ (fun c_37 => ?_) (fun c_37 => ?_)
      · obtain rfl : k = 32 := by omega
        exact X_return C M (by decide) (by decide) dX5_load_63 ⟨rfl, rfl, rfl⟩
      · refine X_aload_n C rfl dX5_load_40 ?_
        refine Xg_X5_image C fl_X5_9 dX5_load_41 ?_
        refine X_iload C rfl dX5_load_44 ?_
        refine X_aload_n C rfl dX5_load_46 ?_
        refine Xg_X4_document C (by (try simp (discharger := decide) only [up_r, upR_r]); omega) (v := τ 9 o 0) (by simp (discharger := decide) only [up_r, upR_r]) fl_X5_23 dX5_load_47 ?_
        refine X_iload_n C rfl dX5_load_50 ?_
        refine X_iload C rfl dX5_load_51 ?_
        refine X_callVE_2 C (c_X1_codeOnSheet C.hlc (hd.c (by simp (discharger := decide) only [up_r, upR_r]) (by simp (discharger := decide) only [up_r, upR_r]) (by simp (discharger := decide) only [up_r, upR_r])) (by rw [show shT (upR (up (up (up (up τ 35 0 0 o) 36 0 0 s) 37 0 0 h) 38 0 0 (pgA (shT τ (τ 9 o 0)) s 0)) 18 0 (rwU (τ 18 0) (cOn τ (τ 9 o 0) s) k)) (τ 9 o 0) = shT τ (τ 9 o 0) from shT_c (by simp (discharger := decide) only [up_r, upR_r])]; omega) (by omega)) cv_X5_45 (jG_11 (by simp (discharger := decide) only [up_r, upR_r]; omega)) ⟨_, _, rfl⟩ rfl rfl dX5_load_53 ?_
        rw [show cOn (upR (up (up (up (up τ 35 0 0 o) 36 0 0 s) 37 0 0 h) 38 0 0 (pgA (shT τ (τ 9 o 0)) s 0)) 18 0 (rwU (τ 18 0) (cOn τ (τ 9 o 0) s) k)) (τ 9 o 0) s k = cOn τ (τ 9 o 0) s k from cOn_c (by simp (discharger := decide) only [up_r, upR_r]) (by simp (discharger := decide) only [up_r, upR_r])]
        refine Xa_image_st C (by omega) (by omega) dX5_load_56 ?_
        refine X_iinc_4 C (by decide) rfl dX5_load_57 ?_
        refine X_goto C (tgt := 33) dX5_load_60 (by decide) ?_
        rw [rwU_s (f := τ 18 0) (g := cOn τ (τ 9 o 0) s) hk.1]
        exact ih (k + 1) (by omega) (by omega)
  have h9 := L33 33 0 (by omega) (by omega)
  rw [rwU_0, show upR (up (up (up (up τ 35 0 0 o) 36 0 0 s) 37 0 0 h) 38 0 0 (pgA (shT τ (τ 9 o 0)) s 0)) 18 0 (τ 18 0) = up (up (up (up τ 35 0 0 o) 36 0 0 s) 37 0 0 h) 38 0 0 (pgA (shT τ (τ 9 o 0)) s 0) from by rw [show τ 18 0 = (up (up (up (up τ 35 0 0 o) 36 0 0 s) 37 0 0 h) 38 0 0 (pgA (shT τ (τ 9 o 0)) s 0)) 18 0 from by simp (discharger := decide) only [up_r]]; exact upR_self] at h9
  exact h9
set_option maxRecDepth 100000 in
set_option maxHeartbeats 4000000 in
theorem c_X4_takePrinted {lc : Launch} (hlc : lc.stackTraces = false) {D : va_G} {Y : Nat → ClassId} {A : Nat → Prop} {τ σ : xS} {ρ : xG} {ad : xL} {o s : Int} (h0 : 0 ≤ o) (h1 : o < τ 32 0 0) (hs : 0 ≤ s ∧ s < 3) (hb : 0 ≤ τ 26 (3 * o + s) 0 ∧ τ 26 (3 * o + s) 0 ≤ 1) : Ct lc yX4_takePrinted cX4_takePrinted 4 none (rmL 1 0 0) D Y A ad (jG Y τ σ ρ ad) [.ref (ad 15 o), .int (iI s), .ref (ad 10 0)] (pE none ad (jG Y (tpS τ o s) σ ρ ad)) (pF) := by
  refine Ct_of hlc (by decide +kernel) rfl rfl (own := RX4) (nm := "takePrinted") (l0 := [some (.ref (ad 15 o)), some (.int (iI s)), some (.ref (ad 10 0)), none]) rfl (Nat.le_of_ble_eq_true rfl) (fun κ C M => ?_)
  refine X_aload_n C rfl dX4_takePrinted_0 ?_
  refine Xg_X4_records C (by omega) fl_X4_27 dX4_takePrinted_1 ?_
  refine X_iload_n C rfl dX4_takePrinted_4 ?_
  refine Xa_recs_ld C (by omega) (by omega) (by omega) dX4_takePrinted_5 ?_
  refine X_astore_3 C (by decide) rfl dX4_takePrinted_6 ?_
  refine X_aload_n C rfl dX4_takePrinted_7 ?_
  refine Xg_X6_isPrinted C (by omega) rfl fl_X4_32 dX4_takePrinted_8 ?_
  refine X_if_eq C (tgt := 27) dX4_takePrinted_11 (by decide) ⟨by omega, by omega⟩ (fun c_11 => ?_) (fun c_11 => ?_)
  · refine X_aload_n C rfl dX4_takePrinted_27 ?_
    refine X_aload_n C rfl dX4_takePrinted_28 ?_
    refine X_callVE0_1 C (c_X6_takePrinted C.hlc (by omega) (by (try simp (discharger := decide) only [up_r]); omega)) cv_X4_39 (jG_17 (by (try simp (discharger := decide) only [up_r, upR_r]); omega)) ⟨_, _, rfl⟩ rfl rfl dX4_takePrinted_29 ?_
    exact X_return C M (by decide) (by decide) dX4_takePrinted_32 ⟨rfl, rfl, by unfold tpS; rw [if_pos c_11]⟩
  · refine X_aload_n C rfl dX4_takePrinted_14 ?_
    refine X_dup C rfl dX4_takePrinted_15 ?_
    refine Xg_X4_paperWasted C (by omega) rfl fl_X4_36 dX4_takePrinted_16 ?_
    refine X_aload_n C rfl dX4_takePrinted_19 ?_
    refine Xg_X4_copies C (by omega) rfl fl_X4_19 dX4_takePrinted_20 ?_
    refine X_iadd C dX4_takePrinted_23 ?_
    refine Xp_X4_paperWasted C (by omega) fw_X4_36 dX4_takePrinted_24 ?_
    refine X_aload_n C rfl dX4_takePrinted_27 ?_
    refine X_aload_n C rfl dX4_takePrinted_28 ?_
    refine X_callVE0_1 C (c_X6_takePrinted C.hlc (by omega) (by (try simp (discharger := decide) only [up_r]); omega)) cv_X4_39 (jG_17 (by (try simp (discharger := decide) only [up_r, upR_r]); omega)) ⟨_, _, rfl⟩ rfl rfl dX4_takePrinted_29 ?_
    exact X_return C M (by decide) (by decide) dX4_takePrinted_32 ⟨rfl, rfl, by unfold tpS; rw [if_neg c_11]; simp (discharger := decide) only [up_r]⟩
set_option maxRecDepth 100000 in
set_option maxHeartbeats 4000000 in
theorem c_X5_unload {lc : Launch} (hlc : lc.stackTraces = false) {D : va_G} {Y : Nat → ClassId} {A : Nat → Prop} {τ σ : xS} {ρ : xG} {ad : xL}  (hpn : ¬ τ 35 0 0 = -1) (hpr : 0 ≤ τ 35 0 0 ∧ τ 35 0 0 < τ 32 0 0) (hs : 0 ≤ τ 36 0 0 ∧ τ 36 0 0 < 3) (hb : ∀ i, 0 ≤ τ 26 i 0 ∧ τ 26 i 0 ≤ 1) : Ct lc yX5_unload cX5_unload 1 none (rmL 2 0 0) D Y A ad (jG Y τ σ ρ ad) [.ref (ad 9 0)] (pE none ad (jG Y (unlS τ) σ ρ ad)) (pF) := by
  refine Ct_of hlc (by decide +kernel) rfl rfl (own := RX5) (nm := "unload") (l0 := [some (.ref (ad 9 0))]) rfl (Nat.le_of_ble_eq_true rfl) (fun κ C M => ?_)
  refine X_aload_n C rfl dX5_unload_0 ?_
  refine Xg_X5_order_S C rfl hpn fl_X5_15 dX5_unload_1 ?_
  refine X_ifnullR C dX5_unload_4 ?_
  refine X_aload_n C rfl dX5_unload_7 ?_
  refine Xg_X5_order_S C rfl hpn fl_X5_15 dX5_unload_8 ?_
  refine X_aload_n C rfl dX5_unload_11 ?_
  refine Xg_X5_sheet C rfl fl_X5_19 dX5_unload_12 ?_
  refine X_aload_n C rfl dX5_unload_15 ?_
  refine Xg_X5_image C fl_X5_9 dX5_unload_16 ?_
  refine X_callVE0_2 C (c_X4_takePrinted C.hlc hpr.1 hpr.2 hs (hb _)) cv_X5_48 (jG_15 (by omega)) ⟨_, _, rfl⟩ rfl rfl dX5_unload_19 ?_
  refine X_aload_n C rfl dX5_unload_22 ?_
  refine X_null C dX5_unload_23 ?_
  refine Xp_X5_order_N C fw_X5_15 dX5_unload_24 ?_
  exact X_return C M (by decide) (by decide) dX5_unload_27 ⟨rfl, rfl, rfl⟩
