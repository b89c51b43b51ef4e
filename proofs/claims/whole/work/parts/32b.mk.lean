set_option maxRecDepth 100000 in
set_option maxHeartbeats 4000000 in
theorem c_X8_addDocument {lc : Launch} (hlc : lc.stackTraces = false) {D : va_G} {Y : Nat → ClassId} {A : Nat → Prop} {τ σ : xS} {ρ : xG} {ad : xL} {n : Int} (I : xI n τ) : Ct lc yX8_addDocument cX8_addDocument 2 (some .int) (rmL 2 5 171) D Y A ad (jG Y τ σ ρ ad) [.ref (ad 0 0)] (fun r ad2 g2 => kAdd τ = 0 ∧ r = some (.int (iI (τ 30 0 0))) ∧ xKp ad2 ad ∧ g2 = jG Y (addS τ) σ ρ ad2) (pT (fun E => exn [eS] (kAdd τ) = some E) ad (jG Y τ σ ρ ad)) := by
  refine Ct_of hlc (by decide +kernel) rfl rfl (own := RX8) (nm := "addDocument") (l0 := [some (.ref (ad 0 0)), none]) rfl (Nat.le_of_ble_eq_true rfl) (fun κ C M => ?_)
  have Ind := I.nd
  have Inc := I.nc
  have Ino := I.no
  have In := I.n0
  refine X_aload_n C rfl dX8_addDocument_0 ?_
  refine Xg_X8_documentCount C rfl fl_X8_41 dX8_addDocument_1 ?_
  refine X_iconst C dX8_addDocument_4 ?_
  refine X_icmp_lt C (tgt := 18) dX8_addDocument_5 (by decide) ⟨by omega, by omega⟩ ⟨by omega, by omega⟩ (fun c_5 => ?_) (fun c_5 => ?_)
  · refine X_aload_n C rfl dX8_addDocument_18 ?_
    refine Xg_X8_documentCount C rfl fl_X8_41 dX8_addDocument_19 ?_
    refine X_istore_1 C (by decide) rfl dX8_addDocument_22 ?_
    refine X_aload_n C rfl dX8_addDocument_23 ?_
    refine Xg_X8_documents C fl_X8_11 dX8_addDocument_24 ?_
    refine X_iload_n C rfl dX8_addDocument_27 ?_
    have g0z := jG_0 (Y := Y) (τ := τ) (σ := σ) (ρ := ρ) (ad := ad) (n := 0) rfl
    have g1z := jG_1 (Y := Y) (τ := τ) (σ := σ) (ρ := ρ) (ad := ad) (n := 0) rfl
    have f0 : jG Y τ σ ρ ad 11 (τ 30 0 0) = none := by
      show cG11 Y τ ad _ = none
      unfold cG11
      exact if_neg (by omega)
    have f1 : jG Y τ σ ρ ad 12 (2 * τ 30 0 0) = none := by
      show cG12 Y τ ad _ = none
      unfold cG12
      exact if_neg (by omega)
    have f2 : jG Y τ σ ρ ad 12 (2 * τ 30 0 0 + 1) = none := by
      show cG12 Y τ ad _ = none
      unfold cG12
      exact if_neg (by omega)
    have f3 : jG Y τ σ ρ ad 13 (2 * τ 30 0 0) = none := by
      show cG13 Y τ ad _ = none
      unfold cG13
      exact if_neg (by omega)
    have f4 : jG Y τ σ ρ ad 13 (2 * τ 30 0 0 + 1) = none := by
      show cG13 Y τ ad _ = none
      unfold cG13
      exact if_neg (by omega)
    refine X_mkO C (k := 11) (n := τ 30 0 0) (fs := [.int (iI 0), .null, .null, .int (iI 0), .int (iI 0), .int (iI 0), .int (iI 0)]) (by repeat (first | exact xup_s | assumption | rw [xup_n (by omega)])) xcl_X1 nw_X8_9 (fun j hj => match j, hj with | 0, _ => rfl | 1, _ => rfl | 2, _ => rfl | 3, _ => rfl | 4, _ => rfl | 5, _ => rfl | 6, _ => rfl | (j + 7), h => absurd h (by omega)) (by decide) (by decide) dX8_addDocument_28 (fun a1 o1 => ?_)
    try rw [← o1 0 (0) (by omega)]
    try rw [← o1 1 (0) (by omega)]
    refine X_dup C rfl dX8_addDocument_31 ?_
    refine X_iload_n C rfl dX8_addDocument_32 ?_
    refine X_callIg C (c_X1_init C.hlc (z := τ 30 0 0) (by repeat (first | exact xup_s | assumption | rw [xup_n (by omega)])) (by repeat (first | exact xup_s | assumption | rw [xup_n (by omega)])) (by repeat (first | exact xup_s | assumption | rw [xup_n (by omega)])) (by repeat (first | exact xup_s | assumption | rw [xup_n (by omega)])) (by repeat (first | exact xup_s | assumption | rw [xup_n (by omega)]))) ci_X8_52 rfl rfl rfl rfl dX8_addDocument_33 (fun r9 a2 g9 hp => ?_)
    obtain ⟨rfl, o2, rfl⟩ := hp
    try rw [← o2 0 (0) (by omega)]
    try rw [← o2 1 (0) (by omega)]
    try rw [← o2 11 (τ 30 0 0) (by omega)]
    refine X_aast C (k := 1) (n := 0) (t := 4) (ci := 3) (r := (RX1, TX1, 7)) (k2 := 11) (n2 := τ 30 0 0) (by repeat (first | exact xup_s | assumption | rw [xup_n (by omega)])) rfl rfl (by repeat (first | exact xup_s | assumption | rw [xup_n (by omega)])) (by omega) (by omega) (by decide) dX8_addDocument_36 ?_
    refine X_aload_n C rfl dX8_addDocument_37 ?_
    refine X_dup C rfl dX8_addDocument_38 ?_
    refine X_get C (k := 0) (n := 0) (fs := [.ref (ad 1 (0)), .int (iI (τ 30 0 0)), .ref (ad 2 (0)), .int (iI (τ 31 0 0)), .ref (ad 3 (0)), .int (iI (τ 32 0 0)), .ref (ad 4 (0)), .ref (ad 9 (0)), .int (iI (τ 33 0 0)), .int (iI (τ 34 0 0)), .int (iI (τ 39 0 0))]) (v := .int (iI (τ 30 0 0))) (by repeat (first | exact xup_s | assumption | rw [xup_n (by omega)])) fl_X8_41 rfl dX8_addDocument_39 ?_
    refine X_iconst C dX8_addDocument_42 ?_
    refine X_iadd C dX8_addDocument_43 ?_
    refine X_put C (k := 0) (n := 0) (fs := [.ref (ad 1 (0)), .int (iI (τ 30 0 0)), .ref (ad 2 (0)), .int (iI (τ 31 0 0)), .ref (ad 3 (0)), .int (iI (τ 32 0 0)), .ref (ad 4 (0)), .ref (ad 9 (0)), .int (iI (τ 33 0 0)), .int (iI (τ 34 0 0)), .int (iI (τ 39 0 0))]) (by repeat (first | exact xup_s | assumption | rw [xup_n (by omega)])) fw_X8_41 rfl rfl (Nat.le_of_ble_eq_true rfl) dX8_addDocument_44 ?_
    refine X_iload_n C rfl dX8_addDocument_47 ?_
    have hk : ∀ k n9, ¬ (k = 11 ∧ n9 = τ 30 0 0 ∨ (k = 12 ∨ k = 13) ∧ (n9 = 2 * τ 30 0 0 ∨ n9 = 2 * τ 30 0 0 + 1)) → a2 k n9 = ad k n9 := by
      intro k n9 h9
      rw [o2 k n9 (by omega)]
      rw [o1 k n9 (by omega)]
    refine X_ireturn C M rfl (by decide) (by decide) dX8_addDocument_48 ⟨(by unfold kAdd; (repeat' split) <;> omega), rfl, (fun k n9 h9 => hk k n9 (by omega)), ?_⟩
    have hkp : xKp a2 ad := fun k n9 h9 => hk k n9 (by omega)
    have hr0 : (addS τ) 0 = τ 0 := addS_r (by decide) (by decide) (by decide)
    have hr1 : (addS τ) 1 = τ 1 := addS_r (by decide) (by decide) (by decide)
    have hr2 : (addS τ) 2 = τ 2 := addS_r (by decide) (by decide) (by decide)
    have hr5 : (addS τ) 5 = τ 5 := addS_r (by decide) (by decide) (by decide)
    have hr6 : (addS τ) 6 = τ 6 := addS_r (by decide) (by decide) (by decide)
    have hr7 : (addS τ) 7 = τ 7 := addS_r (by decide) (by decide) (by decide)
    have hr8 : (addS τ) 8 = τ 8 := addS_r (by decide) (by decide) (by decide)
    have hr9 : (addS τ) 9 = τ 9 := addS_r (by decide) (by decide) (by decide)
    have hr10 : (addS τ) 10 = τ 10 := addS_r (by decide) (by decide) (by decide)
    have hr11 : (addS τ) 11 = τ 11 := addS_r (by decide) (by decide) (by decide)
    have hr12 : (addS τ) 12 = τ 12 := addS_r (by decide) (by decide) (by decide)
    have hr13 : (addS τ) 13 = τ 13 := addS_r (by decide) (by decide) (by decide)
    have hr14 : (addS τ) 14 = τ 14 := addS_r (by decide) (by decide) (by decide)
    have hr15 : (addS τ) 15 = τ 15 := addS_r (by decide) (by decide) (by decide)
    have hr16 : (addS τ) 16 = τ 16 := addS_r (by decide) (by decide) (by decide)
    have hr17 : (addS τ) 17 = τ 17 := addS_r (by decide) (by decide) (by decide)
    have hr18 : (addS τ) 18 = τ 18 := addS_r (by decide) (by decide) (by decide)
    have hr20 : (addS τ) 20 = τ 20 := addS_r (by decide) (by decide) (by decide)
    have hr21 : (addS τ) 21 = τ 21 := addS_r (by decide) (by decide) (by decide)
    have hr22 : (addS τ) 22 = τ 22 := addS_r (by decide) (by decide) (by decide)
    have hr23 : (addS τ) 23 = τ 23 := addS_r (by decide) (by decide) (by decide)
    have hr24 : (addS τ) 24 = τ 24 := addS_r (by decide) (by decide) (by decide)
    have hr25 : (addS τ) 25 = τ 25 := addS_r (by decide) (by decide) (by decide)
    have hr26 : (addS τ) 26 = τ 26 := addS_r (by decide) (by decide) (by decide)
    have hr27 : (addS τ) 27 = τ 27 := addS_r (by decide) (by decide) (by decide)
    have hr28 : (addS τ) 28 = τ 28 := addS_r (by decide) (by decide) (by decide)
    have hr31 : (addS τ) 31 = τ 31 := addS_r (by decide) (by decide) (by decide)
    have hr32 : (addS τ) 32 = τ 32 := addS_r (by decide) (by decide) (by decide)
    have hr33 : (addS τ) 33 = τ 33 := addS_r (by decide) (by decide) (by decide)
    have hr34 : (addS τ) 34 = τ 34 := addS_r (by decide) (by decide) (by decide)
    have hr35 : (addS τ) 35 = τ 35 := addS_r (by decide) (by decide) (by decide)
    have hr36 : (addS τ) 36 = τ 36 := addS_r (by decide) (by decide) (by decide)
    have hr37 : (addS τ) 37 = τ 37 := addS_r (by decide) (by decide) (by decide)
    have hr38 : (addS τ) 38 = τ 38 := addS_r (by decide) (by decide) (by decide)
    have hr39 : (addS τ) 39 = τ 39 := addS_r (by decide) (by decide) (by decide)
    have hr41 : (addS τ) 41 = τ 41 := addS_r (by decide) (by decide) (by decide)
    have hp3 : ∀ i : Int, i ≠ τ 30 0 0 → (addS τ) 3 i 0 = τ 3 i 0 := by
      intro i hi
      unfold addS
      simp (discharger := decide) only [up_r, up_n (show ¬ (i = τ 30 0 0 ∧ (0 : Int) = 0) by omega)]
    have hp4 : ∀ i : Int, i ≠ τ 30 0 0 → (addS τ) 4 i 0 = τ 4 i 0 := by
      intro i hi
      unfold addS
      simp (discharger := decide) only [up_r, up_n (show ¬ (i = τ 30 0 0 ∧ (0 : Int) = 0) by omega)]
    have h30 : (addS τ) 30 0 0 = τ 30 0 0 + 1 := by unfold addS; rw [up_s]
    have h31 : (addS τ) 31 0 0 = τ 31 0 0 := by rw [hr31]
    have h32 : (addS τ) 32 0 0 = τ 32 0 0 := by rw [hr32]
    have v3 : (addS τ) 3 (τ 30 0 0) 0 = -1 := by unfold addS; simp (discharger := decide) only [up_r, up_s]
    have v4 : (addS τ) 4 (τ 30 0 0) 0 = 999 := by unfold addS; simp (discharger := decide) only [up_r, up_s]
    obtain ⟨z1, z2, z3, z4⟩ := I.vd (τ 30 0 0) (Int.le_refl _)
    have z5 : τ 24 (τ 30 0 0) 0 = 0 := by rw [I.sh]; unfold shT; rw [z3]; rfl
    have ha1 : a2 1 = ad 1 := funext fun n9 => hk 1 n9 (by omega)
    have ha2 : a2 2 = ad 2 := funext fun n9 => hk 2 n9 (by omega)
    have ha3 : a2 3 = ad 3 := funext fun n9 => hk 3 n9 (by omega)
    have ha4 : a2 4 = ad 4 := funext fun n9 => hk 4 n9 (by omega)
    have ha5 : a2 5 = ad 5 := funext fun n9 => hk 5 n9 (by omega)
    have ha6 : a2 6 = ad 6 := funext fun n9 => hk 6 n9 (by omega)
    have ha7 : a2 7 = ad 7 := funext fun n9 => hk 7 n9 (by omega)
    have ha8 : a2 8 = ad 8 := funext fun n9 => hk 8 n9 (by omega)
    have ha9 : a2 9 = ad 9 := funext fun n9 => hk 9 n9 (by omega)
    have ha10 : a2 10 = ad 10 := funext fun n9 => hk 10 n9 (by omega)
    have ha14 : a2 14 = ad 14 := funext fun n9 => hk 14 n9 (by omega)
    have ha15 : a2 15 = ad 15 := funext fun n9 => hk 15 n9 (by omega)
    have ha16 : a2 16 = ad 16 := funext fun n9 => hk 16 n9 (by omega)
    have ha17 : a2 17 = ad 17 := funext fun n9 => hk 17 n9 (by omega)
    have ha18 : a2 18 = ad 18 := funext fun n9 => hk 18 n9 (by omega)
    have ha19 : a2 19 = ad 19 := funext fun n9 => hk 19 n9 (by omega)
    funext k n9
    by_cases c0 : k = 12 ∧ n9 = 2 * τ 30 0 0
    · rw [c0.1, c0.2]
      simp only [xup_s, xup_n (show ¬ ((12 : Nat) = 13 ∧ (2 * τ 30 0 0 : Int) = 2 * τ 30 0 0) by omega), xup_n (show ¬ ((12 : Nat) = 12 ∧ (2 * τ 30 0 0 : Int) = 2 * τ 30 0 0 + 1) by omega), xup_n (show ¬ ((12 : Nat) = 13 ∧ (2 * τ 30 0 0 : Int) = 2 * τ 30 0 0 + 1) by omega), xup_n (show ¬ ((12 : Nat) = 11 ∧ (2 * τ 30 0 0 : Int) = τ 30 0 0) by omega), xup_n (show ¬ ((12 : Nat) = 1 ∧ (2 * τ 30 0 0 : Int) = 0) by omega), xup_n (show ¬ ((12 : Nat) = 0 ∧ (2 * τ 30 0 0 : Int) = 0) by omega)]
      rw [jG_12 (by omega), hr1, z2]
      all_goals rfl
    by_cases c1 : k = 13 ∧ n9 = 2 * τ 30 0 0
    · rw [c1.1, c1.2]
      simp only [xup_s, xup_n (show ¬ ((13 : Nat) = 12 ∧ (2 * τ 30 0 0 : Int) = 2 * τ 30 0 0) by omega), xup_n (show ¬ ((13 : Nat) = 12 ∧ (2 * τ 30 0 0 : Int) = 2 * τ 30 0 0 + 1) by omega), xup_n (show ¬ ((13 : Nat) = 13 ∧ (2 * τ 30 0 0 : Int) = 2 * τ 30 0 0 + 1) by omega), xup_n (show ¬ ((13 : Nat) = 11 ∧ (2 * τ 30 0 0 : Int) = τ 30 0 0) by omega), xup_n (show ¬ ((13 : Nat) = 1 ∧ (2 * τ 30 0 0 : Int) = 0) by omega), xup_n (show ¬ ((13 : Nat) = 0 ∧ (2 * τ 30 0 0 : Int) = 0) by omega)]
      rw [jG_13 (by omega), hr0]
      simp only [(z4 _).1]
      all_goals rfl
    by_cases c2 : k = 12 ∧ n9 = 2 * τ 30 0 0 + 1
    · rw [c2.1, c2.2]
      simp only [xup_s, xup_n (show ¬ ((12 : Nat) = 12 ∧ (2 * τ 30 0 0 + 1 : Int) = 2 * τ 30 0 0) by omega), xup_n (show ¬ ((12 : Nat) = 13 ∧ (2 * τ 30 0 0 + 1 : Int) = 2 * τ 30 0 0) by omega), xup_n (show ¬ ((12 : Nat) = 13 ∧ (2 * τ 30 0 0 + 1 : Int) = 2 * τ 30 0 0 + 1) by omega), xup_n (show ¬ ((12 : Nat) = 11 ∧ (2 * τ 30 0 0 + 1 : Int) = τ 30 0 0) by omega), xup_n (show ¬ ((12 : Nat) = 1 ∧ (2 * τ 30 0 0 + 1 : Int) = 0) by omega), xup_n (show ¬ ((12 : Nat) = 0 ∧ (2 * τ 30 0 0 + 1 : Int) = 0) by omega)]
      rw [jG_12 (by omega), hr1, z3]
      all_goals rfl
    by_cases c3 : k = 13 ∧ n9 = 2 * τ 30 0 0 + 1
    · rw [c3.1, c3.2]
      simp only [xup_s, xup_n (show ¬ ((13 : Nat) = 12 ∧ (2 * τ 30 0 0 + 1 : Int) = 2 * τ 30 0 0) by omega), xup_n (show ¬ ((13 : Nat) = 13 ∧ (2 * τ 30 0 0 + 1 : Int) = 2 * τ 30 0 0) by omega), xup_n (show ¬ ((13 : Nat) = 12 ∧ (2 * τ 30 0 0 + 1 : Int) = 2 * τ 30 0 0 + 1) by omega), xup_n (show ¬ ((13 : Nat) = 11 ∧ (2 * τ 30 0 0 + 1 : Int) = τ 30 0 0) by omega), xup_n (show ¬ ((13 : Nat) = 1 ∧ (2 * τ 30 0 0 + 1 : Int) = 0) by omega), xup_n (show ¬ ((13 : Nat) = 0 ∧ (2 * τ 30 0 0 + 1 : Int) = 0) by omega)]
      rw [jG_13 (by omega), hr0]
      simp only [(z4 _).2]
      all_goals rfl
    by_cases c4 : k = 11 ∧ n9 = τ 30 0 0
    · rw [c4.1, c4.2]
      simp only [xup_s, xup_n (show ¬ ((11 : Nat) = 12 ∧ (τ 30 0 0 : Int) = 2 * τ 30 0 0) by omega), xup_n (show ¬ ((11 : Nat) = 13 ∧ (τ 30 0 0 : Int) = 2 * τ 30 0 0) by omega), xup_n (show ¬ ((11 : Nat) = 12 ∧ (τ 30 0 0 : Int) = 2 * τ 30 0 0 + 1) by omega), xup_n (show ¬ ((11 : Nat) = 13 ∧ (τ 30 0 0 : Int) = 2 * τ 30 0 0 + 1) by omega), xup_n (show ¬ ((11 : Nat) = 1 ∧ (τ 30 0 0 : Int) = 0) by omega), xup_n (show ¬ ((11 : Nat) = 0 ∧ (τ 30 0 0 : Int) = 0) by omega)]
      rw [jG_11 (by omega), hr2, hr24, v3, v4, z1, z5]
      all_goals rfl
    by_cases c5 : k = 1 ∧ n9 = 0
    · rw [c5.1, c5.2]
      simp only [xup_s, xup_n (show ¬ ((1 : Nat) = 12 ∧ (0 : Int) = 2 * τ 30 0 0) by omega), xup_n (show ¬ ((1 : Nat) = 13 ∧ (0 : Int) = 2 * τ 30 0 0) by omega), xup_n (show ¬ ((1 : Nat) = 12 ∧ (0 : Int) = 2 * τ 30 0 0 + 1) by omega), xup_n (show ¬ ((1 : Nat) = 13 ∧ (0 : Int) = 2 * τ 30 0 0 + 1) by omega), xup_n (show ¬ ((1 : Nat) = 11 ∧ (0 : Int) = τ 30 0 0) by omega), xup_n (show ¬ ((1 : Nat) = 0 ∧ (0 : Int) = 0) by omega)]
      rw [jG_1 rfl, h30]
      congr 6
      funext j
      unfold va_up
      by_cases e : j = (τ 30 0 0).toNat
      · rw [if_pos e, if_pos (by omega), e, show (((τ 30 0 0).toNat : Nat) : Int) = τ 30 0 0 by omega]
      · rw [if_neg e]
        by_cases e2 : (j : Int) < τ 30 0 0
        · rw [if_pos e2, if_pos (by omega), hk 11 (j : Int) (by omega)]
        · rw [if_neg e2, if_neg (by omega)]
    by_cases c6 : k = 0 ∧ n9 = 0
    · rw [c6.1, c6.2]
      simp only [xup_s, xup_n (show ¬ ((0 : Nat) = 12 ∧ (0 : Int) = 2 * τ 30 0 0) by omega), xup_n (show ¬ ((0 : Nat) = 13 ∧ (0 : Int) = 2 * τ 30 0 0) by omega), xup_n (show ¬ ((0 : Nat) = 12 ∧ (0 : Int) = 2 * τ 30 0 0 + 1) by omega), xup_n (show ¬ ((0 : Nat) = 13 ∧ (0 : Int) = 2 * τ 30 0 0 + 1) by omega), xup_n (show ¬ ((0 : Nat) = 11 ∧ (0 : Int) = τ 30 0 0) by omega), xup_n (show ¬ ((0 : Nat) = 1 ∧ (0 : Int) = 0) by omega)]
      rw [jG_0 rfl, h30, hr31, hr32, hr33, hr34, hr39, ha1, ha2, ha3, ha4, ha9]
      all_goals rfl
    simp only [xup_n c0, xup_n c1, xup_n c2, xup_n c3, xup_n c4, xup_n c5, xup_n c6]
    by_cases hm : 20 ≤ k
    · exact (jG_m hkp hm n9).symm
    have hl : k < 20 := by omega
    clear hm
    match k, hl with
    | (k + 20), h => exact absurd h (by omega)
    | 0, _ =>
      show cG0 Y τ ad n9 = cG0 Y (addS τ) a2 n9
      unfold cG0
      rw [if_neg (by omega), if_neg (by omega)]
    | 1, _ =>
      show cG1 Y τ ad n9 = cG1 Y (addS τ) a2 n9
      unfold cG1
      rw [if_neg (by omega), if_neg (by omega)]
    | 2, _ =>
      show cG2 Y τ ad n9 = cG2 Y (addS τ) a2 n9
      unfold cG2
      by_cases hh : n9 = 0
      · rw [if_pos hh, if_pos (by omega), hr31, ha14]
      · rw [if_neg hh, if_neg (by omega)]
    | 3, _ =>
      show cG3 Y τ ad n9 = cG3 Y (addS τ) a2 n9
      unfold cG3
      by_cases hh : n9 = 0
      · rw [if_pos hh, if_pos (by omega), hr32, ha15]
      · rw [if_neg hh, if_neg (by omega)]
    | 4, _ =>
      show cG4 Y τ ad n9 = cG4 Y (addS τ) a2 n9
      unfold cG4
      by_cases hh : n9 = 0
      · rw [if_pos hh, if_pos (by omega), ha5, ha6, ha7, ha8, hr41]
      · rw [if_neg hh, if_neg (by omega)]
    | 5, _ =>
      show cG5 Y τ ad n9 = cG5 Y (addS τ) a2 n9
      unfold cG5
      by_cases hh : n9 = 0
      · rw [if_pos hh, if_pos (by omega), hr20]
      · rw [if_neg hh, if_neg (by omega)]
    | 6, _ =>
      show cG6 Y τ ad n9 = cG6 Y (addS τ) a2 n9
      unfold cG6
      by_cases hh : n9 = 0
      · rw [if_pos hh, if_pos (by omega), hr21]
      · rw [if_neg hh, if_neg (by omega)]
    | 7, _ =>
      show cG7 Y τ ad n9 = cG7 Y (addS τ) a2 n9
      unfold cG7
      by_cases hh : n9 = 0
      · rw [if_pos hh, if_pos (by omega), hr22]
      · rw [if_neg hh, if_neg (by omega)]
    | 8, _ =>
      show cG8 Y τ ad n9 = cG8 Y (addS τ) a2 n9
      unfold cG8
      by_cases hh : n9 = 0
      · rw [if_pos hh, if_pos (by omega), hr23]
      · rw [if_neg hh, if_neg (by omega)]
    | 9, _ =>
      show cG9 Y τ ad n9 = cG9 Y (addS τ) a2 n9
      unfold cG9
      unfold xpo
      by_cases hh : n9 = 0
      · rw [if_pos hh, if_pos (by omega), hr35, ha15, hr36, hr37, hr38, ha10]
      · rw [if_neg hh, if_neg (by omega)]
    | 10, _ =>
      show cG10 Y τ ad n9 = cG10 Y (addS τ) a2 n9
      unfold cG10
      by_cases hh : n9 = 0
      · rw [if_pos hh, if_pos (by omega), hr18]
      · rw [if_neg hh, if_neg (by omega)]
    | 11, _ =>
      show cG11 Y τ ad n9 = cG11 Y (addS τ) a2 n9
      unfold cG11
      by_cases hh : 0 ≤ n9 ∧ n9 < τ 30 0 0
      · rw [if_pos hh, if_pos (by omega), hk 12 (2 * n9) (by omega), hk 12 (2 * n9 + 1) (by omega), hr2, hp3 (n9) (by omega), hr24, hp4 (n9) (by omega)]
      · rw [if_neg hh, if_neg (by omega)]
    | 12, _ =>
      show cG12 Y τ ad n9 = cG12 Y (addS τ) a2 n9
      unfold cG12
      by_cases hh : 0 ≤ n9 ∧ n9 < 2 * τ 30 0 0
      · rw [if_pos hh, if_pos (by omega), hk 13 (n9) (by omega), hr1]
      · rw [if_neg hh, if_neg (by omega)]
    | 13, _ =>
      show cG13 Y τ ad n9 = cG13 Y (addS τ) a2 n9
      unfold cG13
      by_cases hh : 0 ≤ n9 ∧ n9 < 2 * τ 30 0 0
      · rw [if_pos hh, if_pos (by omega), hr0]
      · rw [if_neg hh, if_neg (by omega)]
    | 14, _ =>
      show cG14 Y τ ad n9 = cG14 Y (addS τ) a2 n9
      unfold cG14
      by_cases hh : 0 ≤ n9 ∧ n9 < τ 31 0 0
      · rw [if_pos hh, if_pos (by omega), hr5, hk 11 (τ 5 n9 0) (by have := I.on n9 (by omega) (by omega); omega), hr6, hr7, hr8]
      · rw [if_neg hh, if_neg (by omega)]
    | 15, _ =>
      show cG15 Y τ ad n9 = cG15 Y (addS τ) a2 n9
      unfold cG15
      by_cases hh : 0 ≤ n9 ∧ n9 < τ 32 0 0
      · rw [if_pos hh, if_pos (by omega), hr9, hk 11 (τ 9 n9 0) (by have := I.od n9 (by omega) (by omega); omega), hr10, hr11, ha16, hr12, hr25, hr13]
      · rw [if_neg hh, if_neg (by omega)]
    | 16, _ =>
      show cG16 Y τ ad n9 = cG16 Y (addS τ) a2 n9
      unfold cG16
      by_cases hh : 0 ≤ n9 ∧ n9 < τ 32 0 0
      · rw [if_pos hh, if_pos (by omega), ha17]
      · rw [if_neg hh, if_neg (by omega)]
    | 17, _ =>
      show cG17 Y τ ad n9 = cG17 Y (addS τ) a2 n9
      unfold cG17
      by_cases hh : 0 ≤ n9 ∧ n9 < 3 * τ 32 0 0
      · rw [if_pos hh, if_pos (by omega), ha18, hr26, ha19, hr27, hr28]
      · rw [if_neg hh, if_neg (by omega)]
    | 18, _ =>
      show cG18 Y τ ad n9 = cG18 Y (addS τ) a2 n9
      unfold cG18
      by_cases hh : 0 ≤ n9 ∧ n9 < 3 * τ 32 0 0
      · rw [if_pos hh, if_pos (by omega), hr16]
      · rw [if_neg hh, if_neg (by omega)]
    | 19, _ =>
      show cG19 Y τ ad n9 = cG19 Y (addS τ) a2 n9
      unfold cG19
      by_cases hh : 0 ≤ n9 ∧ n9 < 3 * τ 32 0 0
      · rw [if_pos hh, if_pos (by omega), hr17]
      · rw [if_neg hh, if_neg (by omega)]
  · exact X_throw C M tw_X8_45_49 xs_X8_47 dX8_addDocument_8 dX8_addDocument_11 dX8_addDocument_12 dX8_addDocument_14 dX8_addDocument_17 (by decide) (by decide) (by decide) (by decide) ⟨by rw [show kAdd τ = 1 from by unfold kAdd; (repeat' split) <;> omega]; rfl, rfl, rfl⟩
set_option maxRecDepth 100000 in
set_option maxHeartbeats 4000000 in
theorem c_X8_comment {lc : Launch} (hlc : lc.stackTraces = false) {D : va_G} {Y : Nat → ClassId} {A : Nat → Prop} {τ σ : xS} {ρ : xG} {ad : xL} {n z f t : Int} (I : xI n τ) (hz0 : rg z) (hz1 : rg f) (hz2 : rg t) : Ct lc yX8_comment cX8_comment 6 (some .int) (rmL 1 2 12) D Y A ad (jG Y τ σ ρ ad) [.ref (ad 0 0), .int (iI z), .int (iI f), .int (iI t)] (fun r ad2 g2 => kCom τ z f t = 0 ∧ r = some (.int (iI (τ 31 0 0))) ∧ xKp ad2 ad ∧ g2 = jG Y (comS τ z f t) σ ρ ad2) (pT (fun E => exn [nX, eI, eS] (kCom τ z f t) = some E) ad (jG Y τ σ ρ ad)) := by
  refine Ct_of hlc (by decide +kernel) rfl rfl (own := RX8) (nm := "comment") (l0 := [some (.ref (ad 0 0)), some (.int (iI z)), some (.int (iI f)), some (.int (iI t)), none, none]) rfl (Nat.le_of_ble_eq_true rfl) (fun κ C M => ?_)
  have Ind := I.nd
  have Inc := I.nc
  have Ino := I.no
  have In := I.n0
  refine X_aload_n C rfl dX8_comment_0 ?_
  refine X_iload_n C rfl dX8_comment_1 ?_
  refine X_callVC_1 C M (c_X8_documentOf C.hlc (by assumption) (by omega)) cv_X8_55 (jG_0 rfl) ⟨_, _, rfl⟩ rfl rfl dX8_comment_2 (fun E h => ⟨by obtain ⟨rfl, h⟩ := h; rw [show kCom τ z f t = 1 from by unfold kCom; (repeat' split) <;> omega]; rfl, rfl, rfl⟩) (fun h_2 => ?_)
  refine X_astore_4 C (by decide) rfl dX8_comment_5 ?_
  have k1 := I.sz (2 * z) 0
  refine X_iload_n C rfl dX8_comment_7 ?_
  refine X_if_lt C (tgt := 28) dX8_comment_8 (by decide) ⟨by omega, by omega⟩ (fun c_8 => ?_) (fun c_8 => ?_)
  · exact X_throw C M tw_X8_123_127 xs_X8_168 dX8_comment_28 dX8_comment_31 dX8_comment_32 dX8_comment_34 dX8_comment_37 (by decide) (by decide) (by decide) (by decide) ⟨by rw [show kCom τ z f t = 2 from by unfold kCom; (repeat' split) <;> omega]; rfl, rfl, rfl⟩
  · refine X_iload_n C rfl dX8_comment_11 ?_
    refine X_iload_n C rfl dX8_comment_12 ?_
    refine X_icmp_ge C (tgt := 28) dX8_comment_13 (by decide) ⟨by omega, by omega⟩ ⟨by omega, by omega⟩ (fun c_13 => ?_) (fun c_13 => ?_)
    · exact X_throw C M tw_X8_123_127 xs_X8_168 dX8_comment_28 dX8_comment_31 dX8_comment_32 dX8_comment_34 dX8_comment_37 (by decide) (by decide) (by decide) (by decide) ⟨by rw [show kCom τ z f t = 2 from by unfold kCom; (repeat' split) <;> omega]; rfl, rfl, rfl⟩
    · refine X_iload_n C rfl dX8_comment_16 ?_
      refine X_aload C rfl dX8_comment_17 ?_
      refine Xg_X1_text C (by omega) fl_X8_72 dX8_comment_19 ?_
      refine Xg_X7_size C (by omega) rfl fl_X8_76 dX8_comment_22 ?_
      refine X_icmp_le C (tgt := 38) dX8_comment_25 (by decide) ⟨by omega, by omega⟩ ⟨by omega, by omega⟩ (fun c_25 => ?_) (fun c_25 => ?_)
      · refine X_aload_n C rfl dX8_comment_38 ?_
        refine Xg_X8_commentCount C rfl fl_X8_151 dX8_comment_39 ?_
        refine X_bipush C ⟨by decide, by decide⟩ dX8_comment_42 ?_
        refine X_icmp_lt C (tgt := 57) dX8_comment_44 (by decide) ⟨by omega, by omega⟩ ⟨by omega, by omega⟩ (fun c_44 => ?_) (fun c_44 => ?_)
        · refine X_aload_n C rfl dX8_comment_57 ?_
          refine Xg_X8_commentCount C rfl fl_X8_151 dX8_comment_58 ?_
          refine X_istore_5 C (by decide) rfl dX8_comment_61 ?_
          refine X_aload_n C rfl dX8_comment_63 ?_
          refine Xg_X8_comments C fl_X8_17 dX8_comment_64 ?_
          refine X_iload C rfl dX8_comment_67 ?_
          have g0z := jG_0 (Y := Y) (τ := τ) (σ := σ) (ρ := ρ) (ad := ad) (n := 0) rfl
          have g2z := jG_2 (Y := Y) (τ := τ) (σ := σ) (ρ := ρ) (ad := ad) (n := 0) rfl
          have f0 : jG Y τ σ ρ ad 14 (τ 31 0 0) = none := by
            show cG14 Y τ ad _ = none
            unfold cG14
            exact if_neg (by omega)
          refine X_mkO C (k := 14) (n := τ 31 0 0) (fs := [.null, .int (iI 0), .int (iI 0), .int (iI 0)]) (by repeat (first | exact xup_s | assumption | rw [xup_n (by omega)])) xcl_X0 nw_X8_15 (fun j hj => match j, hj with | 0, _ => rfl | 1, _ => rfl | 2, _ => rfl | 3, _ => rfl | (j + 4), h => absurd h (by omega)) (by decide) (by decide) dX8_comment_69 (fun a1 o1 => ?_)
          try rw [← o1 0 (0) (by omega)]
          try rw [← o1 2 (0) (by omega)]
          try rw [← o1 11 (z) (by omega)]
          refine X_dup C rfl dX8_comment_72 ?_
          refine X_aload C rfl dX8_comment_73 ?_
          refine X_iload_n C rfl dX8_comment_75 ?_
          refine X_iload_n C rfl dX8_comment_76 ?_
          refine X_callIg C (c_X0_init C.hlc (c := τ 31 0 0) (by repeat (first | exact xup_s | assumption | rw [xup_n (by omega)]))) ci_X8_172 rfl rfl rfl rfl dX8_comment_77 (fun r9 a2 g9 hp => ?_)
          obtain ⟨rfl, e9, rfl⟩ := hp
          rw [e9]
          refine X_aast C (k := 2) (n := 0) (t := 5) (ci := 2) (r := (RX0, TX0, 4)) (k2 := 14) (n2 := τ 31 0 0) (by repeat (first | exact xup_s | assumption | rw [xup_n (by omega)])) rfl rfl (by repeat (first | exact xup_s | assumption | rw [xup_n (by omega)])) (by omega) (by omega) (by decide) dX8_comment_80 ?_
          refine X_aload_n C rfl dX8_comment_81 ?_
          refine X_dup C rfl dX8_comment_82 ?_
          refine X_get C (k := 0) (n := 0) (fs := [.ref (ad 1 (0)), .int (iI (τ 30 0 0)), .ref (ad 2 (0)), .int (iI (τ 31 0 0)), .ref (ad 3 (0)), .int (iI (τ 32 0 0)), .ref (ad 4 (0)), .ref (ad 9 (0)), .int (iI (τ 33 0 0)), .int (iI (τ 34 0 0)), .int (iI (τ 39 0 0))]) (v := .int (iI (τ 31 0 0))) (by repeat (first | exact xup_s | assumption | rw [xup_n (by omega)])) fl_X8_151 rfl dX8_comment_83 ?_
          refine X_iconst C dX8_comment_86 ?_
          refine X_iadd C dX8_comment_87 ?_
          refine X_put C (k := 0) (n := 0) (fs := [.ref (ad 1 (0)), .int (iI (τ 30 0 0)), .ref (ad 2 (0)), .int (iI (τ 31 0 0)), .ref (ad 3 (0)), .int (iI (τ 32 0 0)), .ref (ad 4 (0)), .ref (ad 9 (0)), .int (iI (τ 33 0 0)), .int (iI (τ 34 0 0)), .int (iI (τ 39 0 0))]) (by repeat (first | exact xup_s | assumption | rw [xup_n (by omega)])) fw_X8_151 rfl rfl (Nat.le_of_ble_eq_true rfl) dX8_comment_88 ?_
          refine X_iload C rfl dX8_comment_91 ?_
          have hk : ∀ k n9, ¬ (k = 14 ∧ n9 = τ 31 0 0) → a1 k n9 = ad k n9 := by
            intro k n9 h9
            rw [o1 k n9 (by omega)]
          refine X_ireturn C M rfl (by decide) (by decide) dX8_comment_93 ⟨(by unfold kCom; (repeat' split) <;> omega), rfl, (fun k n9 h9 => hk k n9 (by omega)), ?_⟩
          have hkp : xKp a1 ad := fun k n9 h9 => hk k n9 (by omega)
          have hr0 : (comS τ z f t) 0 = τ 0 := comS_r (by decide) (by decide) (by decide) (by decide) (by decide)
          have hr1 : (comS τ z f t) 1 = τ 1 := comS_r (by decide) (by decide) (by decide) (by decide) (by decide)
          have hr2 : (comS τ z f t) 2 = τ 2 := comS_r (by decide) (by decide) (by decide) (by decide) (by decide)
          have hr3 : (comS τ z f t) 3 = τ 3 := comS_r (by decide) (by decide) (by decide) (by decide) (by decide)
          have hr4 : (comS τ z f t) 4 = τ 4 := comS_r (by decide) (by decide) (by decide) (by decide) (by decide)
          have hr9 : (comS τ z f t) 9 = τ 9 := comS_r (by decide) (by decide) (by decide) (by decide) (by decide)
          have hr10 : (comS τ z f t) 10 = τ 10 := comS_r (by decide) (by decide) (by decide) (by decide) (by decide)
          have hr11 : (comS τ z f t) 11 = τ 11 := comS_r (by decide) (by decide) (by decide) (by decide) (by decide)
          have hr12 : (comS τ z f t) 12 = τ 12 := comS_r (by decide) (by decide) (by decide) (by decide) (by decide)
          have hr13 : (comS τ z f t) 13 = τ 13 := comS_r (by decide) (by decide) (by decide) (by decide) (by decide)
          have hr14 : (comS τ z f t) 14 = τ 14 := comS_r (by decide) (by decide) (by decide) (by decide) (by decide)
          have hr15 : (comS τ z f t) 15 = τ 15 := comS_r (by decide) (by decide) (by decide) (by decide) (by decide)
          have hr16 : (comS τ z f t) 16 = τ 16 := comS_r (by decide) (by decide) (by decide) (by decide) (by decide)
          have hr17 : (comS τ z f t) 17 = τ 17 := comS_r (by decide) (by decide) (by decide) (by decide) (by decide)
          have hr18 : (comS τ z f t) 18 = τ 18 := comS_r (by decide) (by decide) (by decide) (by decide) (by decide)
          have hr20 : (comS τ z f t) 20 = τ 20 := comS_r (by decide) (by decide) (by decide) (by decide) (by decide)
          have hr21 : (comS τ z f t) 21 = τ 21 := comS_r (by decide) (by decide) (by decide) (by decide) (by decide)
          have hr22 : (comS τ z f t) 22 = τ 22 := comS_r (by decide) (by decide) (by decide) (by decide) (by decide)
          have hr23 : (comS τ z f t) 23 = τ 23 := comS_r (by decide) (by decide) (by decide) (by decide) (by decide)
          have hr24 : (comS τ z f t) 24 = τ 24 := comS_r (by decide) (by decide) (by decide) (by decide) (by decide)
          have hr25 : (comS τ z f t) 25 = τ 25 := comS_r (by decide) (by decide) (by decide) (by decide) (by decide)
          have hr26 : (comS τ z f t) 26 = τ 26 := comS_r (by decide) (by decide) (by decide) (by decide) (by decide)
          have hr27 : (comS τ z f t) 27 = τ 27 := comS_r (by decide) (by decide) (by decide) (by decide) (by decide)
          have hr28 : (comS τ z f t) 28 = τ 28 := comS_r (by decide) (by decide) (by decide) (by decide) (by decide)
          have hr30 : (comS τ z f t) 30 = τ 30 := comS_r (by decide) (by decide) (by decide) (by decide) (by decide)
          have hr32 : (comS τ z f t) 32 = τ 32 := comS_r (by decide) (by decide) (by decide) (by decide) (by decide)
          have hr33 : (comS τ z f t) 33 = τ 33 := comS_r (by decide) (by decide) (by decide) (by decide) (by decide)
          have hr34 : (comS τ z f t) 34 = τ 34 := comS_r (by decide) (by decide) (by decide) (by decide) (by decide)
          have hr35 : (comS τ z f t) 35 = τ 35 := comS_r (by decide) (by decide) (by decide) (by decide) (by decide)
          have hr36 : (comS τ z f t) 36 = τ 36 := comS_r (by decide) (by decide) (by decide) (by decide) (by decide)
          have hr37 : (comS τ z f t) 37 = τ 37 := comS_r (by decide) (by decide) (by decide) (by decide) (by decide)
          have hr38 : (comS τ z f t) 38 = τ 38 := comS_r (by decide) (by decide) (by decide) (by decide) (by decide)
          have hr39 : (comS τ z f t) 39 = τ 39 := comS_r (by decide) (by decide) (by decide) (by decide) (by decide)
          have hr41 : (comS τ z f t) 41 = τ 41 := comS_r (by decide) (by decide) (by decide) (by decide) (by decide)
          have hp5 : ∀ i : Int, i ≠ τ 31 0 0 → (comS τ z f t) 5 i 0 = τ 5 i 0 := by
            intro i hi
            unfold comS
            simp (discharger := decide) only [up_r, up_n (show ¬ (i = τ 31 0 0 ∧ (0 : Int) = 0) by omega)]
          have hp6 : ∀ i : Int, i ≠ τ 31 0 0 → (comS τ z f t) 6 i 0 = τ 6 i 0 := by
            intro i hi
            unfold comS
            simp (discharger := decide) only [up_r, up_n (show ¬ (i = τ 31 0 0 ∧ (0 : Int) = 0) by omega)]
          have hp7 : ∀ i : Int, i ≠ τ 31 0 0 → (comS τ z f t) 7 i 0 = τ 7 i 0 := by
            intro i hi
            unfold comS
            simp (discharger := decide) only [up_r, up_n (show ¬ (i = τ 31 0 0 ∧ (0 : Int) = 0) by omega)]
          have hp8 : ∀ i : Int, i ≠ τ 31 0 0 → (comS τ z f t) 8 i 0 = τ 8 i 0 := by
            intro i hi
            unfold comS
            simp (discharger := decide) only [up_r, up_n (show ¬ (i = τ 31 0 0 ∧ (0 : Int) = 0) by omega)]
          have h30 : (comS τ z f t) 30 0 0 = τ 30 0 0 := by rw [hr30]
          have h31 : (comS τ z f t) 31 0 0 = τ 31 0 0 + 1 := by unfold comS; rw [up_s]
          have h32 : (comS τ z f t) 32 0 0 = τ 32 0 0 := by rw [hr32]
          have v5 : (comS τ z f t) 5 (τ 31 0 0) 0 = z := by unfold comS; simp (discharger := decide) only [up_r, up_s]
          have v6 : (comS τ z f t) 6 (τ 31 0 0) 0 = f := by unfold comS; simp (discharger := decide) only [up_r, up_s]
          have v7 : (comS τ z f t) 7 (τ 31 0 0) 0 = t := by unfold comS; simp (discharger := decide) only [up_r, up_s]
          have v8 : (comS τ z f t) 8 (τ 31 0 0) 0 = 1 := by unfold comS; simp (discharger := decide) only [up_r, up_s]
          have ha1 : a1 1 = ad 1 := funext fun n9 => hk 1 n9 (by omega)
          have ha2 : a1 2 = ad 2 := funext fun n9 => hk 2 n9 (by omega)
          have ha3 : a1 3 = ad 3 := funext fun n9 => hk 3 n9 (by omega)
          have ha4 : a1 4 = ad 4 := funext fun n9 => hk 4 n9 (by omega)
          have ha5 : a1 5 = ad 5 := funext fun n9 => hk 5 n9 (by omega)
          have ha6 : a1 6 = ad 6 := funext fun n9 => hk 6 n9 (by omega)
          have ha7 : a1 7 = ad 7 := funext fun n9 => hk 7 n9 (by omega)
          have ha8 : a1 8 = ad 8 := funext fun n9 => hk 8 n9 (by omega)
          have ha9 : a1 9 = ad 9 := funext fun n9 => hk 9 n9 (by omega)
          have ha10 : a1 10 = ad 10 := funext fun n9 => hk 10 n9 (by omega)
          have ha11 : a1 11 = ad 11 := funext fun n9 => hk 11 n9 (by omega)
          have ha12 : a1 12 = ad 12 := funext fun n9 => hk 12 n9 (by omega)
          have ha13 : a1 13 = ad 13 := funext fun n9 => hk 13 n9 (by omega)
          have ha15 : a1 15 = ad 15 := funext fun n9 => hk 15 n9 (by omega)
          have ha16 : a1 16 = ad 16 := funext fun n9 => hk 16 n9 (by omega)
          have ha17 : a1 17 = ad 17 := funext fun n9 => hk 17 n9 (by omega)
          have ha18 : a1 18 = ad 18 := funext fun n9 => hk 18 n9 (by omega)
          have ha19 : a1 19 = ad 19 := funext fun n9 => hk 19 n9 (by omega)
          funext k n9
          by_cases c0 : k = 14 ∧ n9 = τ 31 0 0
          · rw [c0.1, c0.2]
            simp only [xup_s, xup_n (show ¬ ((14 : Nat) = 2 ∧ (τ 31 0 0 : Int) = 0) by omega), xup_n (show ¬ ((14 : Nat) = 0 ∧ (τ 31 0 0 : Int) = 0) by omega)]
            rw [jG_14 (by omega), v5, v6, v7, v8]
            all_goals rfl
          by_cases c1 : k = 2 ∧ n9 = 0
          · rw [c1.1, c1.2]
            simp only [xup_s, xup_n (show ¬ ((2 : Nat) = 14 ∧ (0 : Int) = τ 31 0 0) by omega), xup_n (show ¬ ((2 : Nat) = 0 ∧ (0 : Int) = 0) by omega)]
            rw [jG_2 rfl, h31]
            congr 6
            funext j
            unfold va_up
            by_cases e : j = (τ 31 0 0).toNat
            · rw [if_pos e, if_pos (by omega), e, show (((τ 31 0 0).toNat : Nat) : Int) = τ 31 0 0 by omega]
            · rw [if_neg e]
              by_cases e2 : (j : Int) < τ 31 0 0
              · rw [if_pos e2, if_pos (by omega), hk 14 (j : Int) (by omega)]
              · rw [if_neg e2, if_neg (by omega)]
          by_cases c2 : k = 0 ∧ n9 = 0
          · rw [c2.1, c2.2]
            simp only [xup_s, xup_n (show ¬ ((0 : Nat) = 14 ∧ (0 : Int) = τ 31 0 0) by omega), xup_n (show ¬ ((0 : Nat) = 2 ∧ (0 : Int) = 0) by omega)]
            rw [jG_0 rfl, h31, hr30, hr32, hr33, hr34, hr39, ha1, ha2, ha3, ha4, ha9]
            all_goals rfl
          simp only [xup_n c0, xup_n c1, xup_n c2]
          by_cases hm : 20 ≤ k
          · exact (jG_m hkp hm n9).symm
          have hl : k < 20 := by omega
          clear hm
          match k, hl with
          | (k + 20), h => exact absurd h (by omega)
          | 0, _ =>
            show cG0 Y τ ad n9 = cG0 Y (comS τ z f t) a1 n9
            unfold cG0
            rw [if_neg (by omega), if_neg (by omega)]
          | 1, _ =>
            show cG1 Y τ ad n9 = cG1 Y (comS τ z f t) a1 n9
            unfold cG1
            by_cases hh : n9 = 0
            · rw [if_pos hh, if_pos (by omega), hr30, ha11]
            · rw [if_neg hh, if_neg (by omega)]
          | 2, _ =>
            show cG2 Y τ ad n9 = cG2 Y (comS τ z f t) a1 n9
            unfold cG2
            rw [if_neg (by omega), if_neg (by omega)]
          | 3, _ =>
            show cG3 Y τ ad n9 = cG3 Y (comS τ z f t) a1 n9
            unfold cG3
            by_cases hh : n9 = 0
            · rw [if_pos hh, if_pos (by omega), hr32, ha15]
            · rw [if_neg hh, if_neg (by omega)]
          | 4, _ =>
            show cG4 Y τ ad n9 = cG4 Y (comS τ z f t) a1 n9
            unfold cG4
            by_cases hh : n9 = 0
            · rw [if_pos hh, if_pos (by omega), ha5, ha6, ha7, ha8, hr41]
            · rw [if_neg hh, if_neg (by omega)]
          | 5, _ =>
            show cG5 Y τ ad n9 = cG5 Y (comS τ z f t) a1 n9
            unfold cG5
            by_cases hh : n9 = 0
            · rw [if_pos hh, if_pos (by omega), hr20]
            · rw [if_neg hh, if_neg (by omega)]
          | 6, _ =>
            show cG6 Y τ ad n9 = cG6 Y (comS τ z f t) a1 n9
            unfold cG6
            by_cases hh : n9 = 0
            · rw [if_pos hh, if_pos (by omega), hr21]
            · rw [if_neg hh, if_neg (by omega)]
          | 7, _ =>
            show cG7 Y τ ad n9 = cG7 Y (comS τ z f t) a1 n9
            unfold cG7
            by_cases hh : n9 = 0
            · rw [if_pos hh, if_pos (by omega), hr22]
            · rw [if_neg hh, if_neg (by omega)]
          | 8, _ =>
            show cG8 Y τ ad n9 = cG8 Y (comS τ z f t) a1 n9
            unfold cG8
            by_cases hh : n9 = 0
            · rw [if_pos hh, if_pos (by omega), hr23]
            · rw [if_neg hh, if_neg (by omega)]
          | 9, _ =>
            show cG9 Y τ ad n9 = cG9 Y (comS τ z f t) a1 n9
            unfold cG9
            unfold xpo
            by_cases hh : n9 = 0
            · rw [if_pos hh, if_pos (by omega), hr35, ha15, hr36, hr37, hr38, ha10]
            · rw [if_neg hh, if_neg (by omega)]
          | 10, _ =>
            show cG10 Y τ ad n9 = cG10 Y (comS τ z f t) a1 n9
            unfold cG10
            by_cases hh : n9 = 0
            · rw [if_pos hh, if_pos (by omega), hr18]
            · rw [if_neg hh, if_neg (by omega)]
          | 11, _ =>
            show cG11 Y τ ad n9 = cG11 Y (comS τ z f t) a1 n9
            unfold cG11
            by_cases hh : 0 ≤ n9 ∧ n9 < τ 30 0 0
            · rw [if_pos hh, if_pos (by omega), ha12, hr2, hr3, hr24, hr4]
            · rw [if_neg hh, if_neg (by omega)]
          | 12, _ =>
            show cG12 Y τ ad n9 = cG12 Y (comS τ z f t) a1 n9
            unfold cG12
            by_cases hh : 0 ≤ n9 ∧ n9 < 2 * τ 30 0 0
            · rw [if_pos hh, if_pos (by omega), ha13, hr1]
            · rw [if_neg hh, if_neg (by omega)]
          | 13, _ =>
            show cG13 Y τ ad n9 = cG13 Y (comS τ z f t) a1 n9
            unfold cG13
            by_cases hh : 0 ≤ n9 ∧ n9 < 2 * τ 30 0 0
            · rw [if_pos hh, if_pos (by omega), hr0]
            · rw [if_neg hh, if_neg (by omega)]
          | 14, _ =>
            show cG14 Y τ ad n9 = cG14 Y (comS τ z f t) a1 n9
            unfold cG14
            by_cases hh : 0 ≤ n9 ∧ n9 < τ 31 0 0
            · rw [if_pos hh, if_pos (by omega), hp5 (n9) (by omega), ha11, hp6 (n9) (by omega), hp7 (n9) (by omega), hp8 (n9) (by omega)]
            · rw [if_neg hh, if_neg (by omega)]
          | 15, _ =>
            show cG15 Y τ ad n9 = cG15 Y (comS τ z f t) a1 n9
            unfold cG15
            by_cases hh : 0 ≤ n9 ∧ n9 < τ 32 0 0
            · rw [if_pos hh, if_pos (by omega), hr9, ha11, hr10, hr11, ha16, hr12, hr25, hr13]
            · rw [if_neg hh, if_neg (by omega)]
          | 16, _ =>
            show cG16 Y τ ad n9 = cG16 Y (comS τ z f t) a1 n9
            unfold cG16
            by_cases hh : 0 ≤ n9 ∧ n9 < τ 32 0 0
            · rw [if_pos hh, if_pos (by omega), ha17]
            · rw [if_neg hh, if_neg (by omega)]
          | 17, _ =>
            show cG17 Y τ ad n9 = cG17 Y (comS τ z f t) a1 n9
            unfold cG17
            by_cases hh : 0 ≤ n9 ∧ n9 < 3 * τ 32 0 0
            · rw [if_pos hh, if_pos (by omega), ha18, hr26, ha19, hr27, hr28]
            · rw [if_neg hh, if_neg (by omega)]
          | 18, _ =>
            show cG18 Y τ ad n9 = cG18 Y (comS τ z f t) a1 n9
            unfold cG18
            by_cases hh : 0 ≤ n9 ∧ n9 < 3 * τ 32 0 0
            · rw [if_pos hh, if_pos (by omega), hr16]
            · rw [if_neg hh, if_neg (by omega)]
          | 19, _ =>
            show cG19 Y τ ad n9 = cG19 Y (comS τ z f t) a1 n9
            unfold cG19
            by_cases hh : 0 ≤ n9 ∧ n9 < 3 * τ 32 0 0
            · rw [if_pos hh, if_pos (by omega), hr17]
            · rw [if_neg hh, if_neg (by omega)]
        · exact X_throw C M tw_X8_45_49 xs_X8_170 dX8_comment_47 dX8_comment_50 dX8_comment_51 dX8_comment_53 dX8_comment_56 (by decide) (by decide) (by decide) (by decide) ⟨by rw [show kCom τ z f t = 3 from by unfold kCom; (repeat' split) <;> omega]; rfl, rfl, rfl⟩
      · exact X_throw C M tw_X8_123_127 xs_X8_168 dX8_comment_28 dX8_comment_31 dX8_comment_32 dX8_comment_34 dX8_comment_37 (by decide) (by decide) (by decide) (by decide) ⟨by rw [show kCom τ z f t = 2 from by unfold kCom; (repeat' split) <;> omega]; rfl, rfl, rfl⟩
set_option maxRecDepth 100000 in
set_option maxHeartbeats 4000000 in
theorem c_X8_order {lc : Launch} (hlc : lc.stackTraces = false) {D : va_G} {Y : Nat → ClassId} {A : Nat → Prop} {τ σ : xS} {ρ : xG} {ad : xL} {n z c u : Int} (I : xI n τ) (hz0 : rg z) (hz1 : rg c) (hz2 : rg u) : Ct lc yX8_order cX8_order 6 (some .int) (rmL 6 12 224) D Y A ad (jG Y τ σ ρ ad) [.ref (ad 0 0), .int (iI z), .int (iI c), .int (iI u)] (fun r ad2 g2 => kOrd τ z c u = 0 ∧ r = some (.int (iI (τ 32 0 0))) ∧ xKp ad2 ad ∧ g2 = jG Y (ordS τ z c u) σ ρ ad2) (pT (fun E => exn [nX, eA, eS, eU] (kOrd τ z c u) = some E) ad (jG Y τ σ ρ ad)) := by
  refine Ct_of hlc (by decide +kernel) rfl rfl (own := RX8) (nm := "order") (l0 := [some (.ref (ad 0 0)), some (.int (iI z)), some (.int (iI c)), some (.int (iI u)), none, none]) rfl (Nat.le_of_ble_eq_true rfl) (fun κ C M => ?_)
  have Ind := I.nd
  have Inc := I.nc
  have Ino := I.no
  have In := I.n0
  refine X_aload_n C rfl dX8_order_0 ?_
  refine X_iload_n C rfl dX8_order_1 ?_
  refine X_callVC_1 C M (c_X8_documentOf C.hlc (by assumption) (by omega)) cv_X8_55 (jG_0 rfl) ⟨_, _, rfl⟩ rfl rfl dX8_order_2 (fun E h => ⟨by obtain ⟨rfl, h⟩ := h; rw [show kOrd τ z c u = 1 from by unfold kOrd; (repeat' split) <;> omega]; rfl, rfl, rfl⟩) (fun h_2 => ?_)
  refine X_astore_4 C (by decide) rfl dX8_order_5 ?_
  refine X_iload_n C rfl dX8_order_7 ?_
  refine X_iconst C dX8_order_8 ?_
  refine X_icmp_lt C (tgt := 30) dX8_order_9 (by decide) ⟨by omega, by omega⟩ ⟨by omega, by omega⟩ (fun c_9 => ?_) (fun c_9 => ?_)
  · exact X_throw C M tw_X8_67_71 xs_X8_252 dX8_order_30 dX8_order_33 dX8_order_34 dX8_order_36 dX8_order_39 (by decide) (by decide) (by decide) (by decide) ⟨by rw [show kOrd τ z c u = 2 from by unfold kOrd; (repeat' split) <;> omega]; rfl, rfl, rfl⟩
  · refine X_iload_n C rfl dX8_order_12 ?_
    refine X_sipush C ⟨by decide, by decide⟩ dX8_order_13 ?_
    refine X_icmp_gt C (tgt := 30) dX8_order_16 (by decide) ⟨by omega, by omega⟩ ⟨by omega, by omega⟩ (fun c_16 => ?_) (fun c_16 => ?_)
    · exact X_throw C M tw_X8_67_71 xs_X8_252 dX8_order_30 dX8_order_33 dX8_order_34 dX8_order_36 dX8_order_39 (by decide) (by decide) (by decide) (by decide) ⟨by rw [show kOrd τ z c u = 2 from by unfold kOrd; (repeat' split) <;> omega]; rfl, rfl, rfl⟩
    · refine X_iload_n C rfl dX8_order_19 ?_
      refine X_if_lt C (tgt := 30) dX8_order_20 (by decide) ⟨by omega, by omega⟩ (fun c_20 => ?_) (fun c_20 => ?_)
      · exact X_throw C M tw_X8_67_71 xs_X8_252 dX8_order_30 dX8_order_33 dX8_order_34 dX8_order_36 dX8_order_39 (by decide) (by decide) (by decide) (by decide) ⟨by rw [show kOrd τ z c u = 2 from by unfold kOrd; (repeat' split) <;> omega]; rfl, rfl, rfl⟩
      · refine X_iload_n C rfl dX8_order_23 ?_
        refine X_sipush C ⟨by decide, by decide⟩ dX8_order_24 ?_
        refine X_icmp_le C (tgt := 40) dX8_order_27 (by decide) ⟨by omega, by omega⟩ ⟨by omega, by omega⟩ (fun c_27 => ?_) (fun c_27 => ?_)
        · have k1 := I.sb z
          have k2 := mul_b (x := c) (y := shT τ z) (a := 500) (b := 3) (by omega) k1
          have k3 := frA_b I Ino.1 Ino.2
          refine X_aload C rfl dX8_order_40 ?_
          refine X_callVE_0 C (c_X1_hasProof C.hlc (by omega) (by omega) (by have := I.pv z 0; omega)) cv_X8_242 (jG_11 (by omega)) ⟨_, _, rfl⟩ rfl rfl dX8_order_42 ?_
          refine X_if_eqB C (tgt := 57) dX8_order_45 (by decide) (fun c_45 => ?_) (fun c_45 => ?_)
          · exact X_throwW C M tw_X8_45_49 xs_X8_266 dX8_order_57 dX8_order_60 dX8_order_61 dX8_order_64 dX8_order_67 (by decide) (by decide) (by decide) (by decide) ⟨by rw [show kOrd τ z c u = 3 from by unfold kOrd; (repeat' split) <;> omega]; rfl, rfl, rfl⟩
          · refine X_aload_n C rfl dX8_order_48 ?_
            refine Xg_X8_orderCount C rfl fl_X8_263 dX8_order_49 ?_
            refine X_bipush C ⟨by decide, by decide⟩ dX8_order_52 ?_
            refine X_icmp_lt C (tgt := 68) dX8_order_54 (by decide) ⟨by omega, by omega⟩ ⟨by omega, by omega⟩ (fun c_54 => ?_) (fun c_54 => ?_)
            · refine X_iload_n C rfl dX8_order_68 ?_
              refine X_aload C rfl dX8_order_69 ?_
              refine Xg_X1_proofSheets C (by omega) (v := shT τ z) (I.sh z) fl_X8_216 dX8_order_71 ?_
              refine X_imul C dX8_order_74 ?_
              refine X_aload_n C rfl dX8_order_75 ?_
              refine X_callVE_0 C (c_X8_freePaper C.hlc (by assumption)) cv_X8_268 (jG_0 rfl) ⟨_, _, rfl⟩ rfl rfl dX8_order_76 ?_
              refine X_icmp_le C (tgt := 93) dX8_order_79 (by decide) ⟨by omega, by omega⟩ ⟨by omega, by omega⟩ (fun c_79 => ?_) (fun c_79 => ?_)
              · refine X_aload_n C rfl dX8_order_93 ?_
                refine Xg_X8_orderCount C rfl fl_X8_263 dX8_order_94 ?_
                refine X_istore_5 C (by decide) rfl dX8_order_97 ?_
                refine X_aload_n C rfl dX8_order_99 ?_
                refine Xg_X8_orders C fl_X8_23 dX8_order_100 ?_
                refine X_iload C rfl dX8_order_103 ?_
                have g0z := jG_0 (Y := Y) (τ := τ) (σ := σ) (ρ := ρ) (ad := ad) (n := 0) rfl
                have g3z := jG_3 (Y := Y) (τ := τ) (σ := σ) (ρ := ρ) (ad := ad) (n := 0) rfl
                have f0 : jG Y τ σ ρ ad 15 (τ 32 0 0) = none := by
                  show cG15 Y τ ad _ = none
                  unfold cG15
                  exact if_neg (by omega)
                have f1 : jG Y τ σ ρ ad 16 (τ 32 0 0) = none := by
                  show cG16 Y τ ad _ = none
                  unfold cG16
                  exact if_neg (by omega)
                have f2 : jG Y τ σ ρ ad 17 (3 * τ 32 0 0 + 0) = none := by
                  show cG17 Y τ ad _ = none
                  unfold cG17
                  exact if_neg (by omega)
                have f3 : jG Y τ σ ρ ad 18 (3 * τ 32 0 0 + 0) = none := by
                  show cG18 Y τ ad _ = none
                  unfold cG18
                  exact if_neg (by omega)
                have f4 : jG Y τ σ ρ ad 19 (3 * τ 32 0 0 + 0) = none := by
                  show cG19 Y τ ad _ = none
                  unfold cG19
                  exact if_neg (by omega)
                have f5 : jG Y τ σ ρ ad 17 (3 * τ 32 0 0 + 1) = none := by
                  show cG17 Y τ ad _ = none
                  unfold cG17
                  exact if_neg (by omega)
                have f6 : jG Y τ σ ρ ad 18 (3 * τ 32 0 0 + 1) = none := by
                  show cG18 Y τ ad _ = none
                  unfold cG18
                  exact if_neg (by omega)
                have f7 : jG Y τ σ ρ ad 19 (3 * τ 32 0 0 + 1) = none := by
                  show cG19 Y τ ad _ = none
                  unfold cG19
                  exact if_neg (by omega)
                have f8 : jG Y τ σ ρ ad 17 (3 * τ 32 0 0 + 2) = none := by
                  show cG17 Y τ ad _ = none
                  unfold cG17
                  exact if_neg (by omega)
                have f9 : jG Y τ σ ρ ad 18 (3 * τ 32 0 0 + 2) = none := by
                  show cG18 Y τ ad _ = none
                  unfold cG18
                  exact if_neg (by omega)
                have f10 : jG Y τ σ ρ ad 19 (3 * τ 32 0 0 + 2) = none := by
                  show cG19 Y τ ad _ = none
                  unfold cG19
                  exact if_neg (by omega)
                refine X_mkO C (k := 15) (n := τ 32 0 0) (fs := [.int (iI 0), .null, .int (iI 0), .int (iI 0), .null, .int (iI 0), .int (iI 0), .int (iI 0)]) (by repeat (first | exact xup_s | assumption | rw [xup_n (by omega)])) xcl_X4 nw_X8_21 (fun j hj => match j, hj with | 0, _ => rfl | 1, _ => rfl | 2, _ => rfl | 3, _ => rfl | 4, _ => rfl | 5, _ => rfl | 6, _ => rfl | 7, _ => rfl | (j + 8), h => absurd h (by omega)) (by decide) (by decide) dX8_order_105 (fun a1 o1 => ?_)
                try rw [← o1 0 (0) (by omega)]
                try rw [← o1 3 (0) (by omega)]
                try rw [← o1 11 (z) (by omega)]
                refine X_dup C rfl dX8_order_108 ?_
                refine X_iload C rfl dX8_order_109 ?_
                refine X_aload C rfl dX8_order_111 ?_
                refine X_iload_n C rfl dX8_order_113 ?_
                refine X_iload_n C rfl dX8_order_114 ?_
                refine X_callIg C (c_X4_init C.hlc (o := τ 32 0 0) (by repeat (first | exact xup_s | assumption | rw [xup_n (by omega)])) (by repeat (first | exact xup_s | assumption | rw [xup_n (by omega)])) (by repeat (first | exact xup_s | assumption | rw [xup_n (by omega)])) (by repeat (first | exact xup_s | assumption | rw [xup_n (by omega)])) (by repeat (first | exact xup_s | assumption | rw [xup_n (by omega)])) (by repeat (first | exact xup_s | assumption | rw [xup_n (by omega)])) (by repeat (first | exact xup_s | assumption | rw [xup_n (by omega)])) (by repeat (first | exact xup_s | assumption | rw [xup_n (by omega)])) (by repeat (first | exact xup_s | assumption | rw [xup_n (by omega)])) (by repeat (first | exact xup_s | assumption | rw [xup_n (by omega)])) (by repeat (first | exact xup_s | assumption | rw [xup_n (by omega)]))) ci_X8_274 rfl rfl rfl rfl dX8_order_115 (fun r9 a2 g9 hp => ?_)
                obtain ⟨rfl, o2, rfl⟩ := hp
                try rw [← o2 0 (0) (by omega)]
                try rw [← o2 3 (0) (by omega)]
                try rw [← o2 11 (z) (by omega)]
                try rw [← o2 15 (τ 32 0 0) (by omega)]
                refine X_aast C (k := 3) (n := 0) (t := 6) (ci := 5) (r := (RX4, TX4, 8)) (k2 := 15) (n2 := τ 32 0 0) (by repeat (first | exact xup_s | assumption | rw [xup_n (by omega)])) rfl rfl (by repeat (first | exact xup_s | assumption | rw [xup_n (by omega)])) (by omega) (by omega) (by decide) dX8_order_118 ?_
                refine X_aload_n C rfl dX8_order_119 ?_
                refine X_dup C rfl dX8_order_120 ?_
                refine X_get C (k := 0) (n := 0) (fs := [.ref (ad 1 (0)), .int (iI (τ 30 0 0)), .ref (ad 2 (0)), .int (iI (τ 31 0 0)), .ref (ad 3 (0)), .int (iI (τ 32 0 0)), .ref (ad 4 (0)), .ref (ad 9 (0)), .int (iI (τ 33 0 0)), .int (iI (τ 34 0 0)), .int (iI (τ 39 0 0))]) (v := .int (iI (τ 32 0 0))) (by repeat (first | exact xup_s | assumption | rw [xup_n (by omega)])) fl_X8_263 rfl dX8_order_121 ?_
                refine X_iconst C dX8_order_124 ?_
                refine X_iadd C dX8_order_125 ?_
                refine X_put C (k := 0) (n := 0) (fs := [.ref (ad 1 (0)), .int (iI (τ 30 0 0)), .ref (ad 2 (0)), .int (iI (τ 31 0 0)), .ref (ad 3 (0)), .int (iI (τ 32 0 0)), .ref (ad 4 (0)), .ref (ad 9 (0)), .int (iI (τ 33 0 0)), .int (iI (τ 34 0 0)), .int (iI (τ 39 0 0))]) (by repeat (first | exact xup_s | assumption | rw [xup_n (by omega)])) fw_X8_263 rfl rfl (Nat.le_of_ble_eq_true rfl) dX8_order_126 ?_
                refine X_iload C rfl dX8_order_129 ?_
                have hk : ∀ k n9, ¬ ((k = 15 ∨ k = 16) ∧ n9 = τ 32 0 0 ∨ (k = 17 ∨ k = 18 ∨ k = 19) ∧ (n9 = 3 * τ 32 0 0 ∨ n9 = 3 * τ 32 0 0 + 1 ∨ n9 = 3 * τ 32 0 0 + 2)) → a2 k n9 = ad k n9 := by
                  intro k n9 h9
                  rw [o2 k n9 (by omega)]
                  rw [o1 k n9 (by omega)]
                refine X_ireturn C M rfl (by decide) (by decide) dX8_order_131 ⟨(by unfold kOrd; (repeat' split) <;> omega), rfl, (fun k n9 h9 => hk k n9 (by omega)), ?_⟩
                have hkp : xKp a2 ad := fun k n9 h9 => hk k n9 (by omega)
                have hr0 : (ordS τ z c u) 0 = τ 0 := ordS_r (by decide) (by decide) (by decide) (by decide)
                have hr1 : (ordS τ z c u) 1 = τ 1 := ordS_r (by decide) (by decide) (by decide) (by decide)
                have hr2 : (ordS τ z c u) 2 = τ 2 := ordS_r (by decide) (by decide) (by decide) (by decide)
                have hr3 : (ordS τ z c u) 3 = τ 3 := ordS_r (by decide) (by decide) (by decide) (by decide)
                have hr4 : (ordS τ z c u) 4 = τ 4 := ordS_r (by decide) (by decide) (by decide) (by decide)
                have hr5 : (ordS τ z c u) 5 = τ 5 := ordS_r (by decide) (by decide) (by decide) (by decide)
                have hr6 : (ordS τ z c u) 6 = τ 6 := ordS_r (by decide) (by decide) (by decide) (by decide)
                have hr7 : (ordS τ z c u) 7 = τ 7 := ordS_r (by decide) (by decide) (by decide) (by decide)
                have hr8 : (ordS τ z c u) 8 = τ 8 := ordS_r (by decide) (by decide) (by decide) (by decide)
                have hr12 : (ordS τ z c u) 12 = τ 12 := ordS_r (by decide) (by decide) (by decide) (by decide)
                have hr13 : (ordS τ z c u) 13 = τ 13 := ordS_r (by decide) (by decide) (by decide) (by decide)
                have hr14 : (ordS τ z c u) 14 = τ 14 := ordS_r (by decide) (by decide) (by decide) (by decide)
                have hr15 : (ordS τ z c u) 15 = τ 15 := ordS_r (by decide) (by decide) (by decide) (by decide)
                have hr16 : (ordS τ z c u) 16 = τ 16 := ordS_r (by decide) (by decide) (by decide) (by decide)
                have hr17 : (ordS τ z c u) 17 = τ 17 := ordS_r (by decide) (by decide) (by decide) (by decide)
                have hr18 : (ordS τ z c u) 18 = τ 18 := ordS_r (by decide) (by decide) (by decide) (by decide)
                have hr20 : (ordS τ z c u) 20 = τ 20 := ordS_r (by decide) (by decide) (by decide) (by decide)
                have hr21 : (ordS τ z c u) 21 = τ 21 := ordS_r (by decide) (by decide) (by decide) (by decide)
                have hr22 : (ordS τ z c u) 22 = τ 22 := ordS_r (by decide) (by decide) (by decide) (by decide)
                have hr23 : (ordS τ z c u) 23 = τ 23 := ordS_r (by decide) (by decide) (by decide) (by decide)
                have hr24 : (ordS τ z c u) 24 = τ 24 := ordS_r (by decide) (by decide) (by decide) (by decide)
                have hr25 : (ordS τ z c u) 25 = τ 25 := ordS_r (by decide) (by decide) (by decide) (by decide)
                have hr26 : (ordS τ z c u) 26 = τ 26 := ordS_r (by decide) (by decide) (by decide) (by decide)
                have hr27 : (ordS τ z c u) 27 = τ 27 := ordS_r (by decide) (by decide) (by decide) (by decide)
                have hr28 : (ordS τ z c u) 28 = τ 28 := ordS_r (by decide) (by decide) (by decide) (by decide)
                have hr30 : (ordS τ z c u) 30 = τ 30 := ordS_r (by decide) (by decide) (by decide) (by decide)
                have hr31 : (ordS τ z c u) 31 = τ 31 := ordS_r (by decide) (by decide) (by decide) (by decide)
                have hr33 : (ordS τ z c u) 33 = τ 33 := ordS_r (by decide) (by decide) (by decide) (by decide)
                have hr34 : (ordS τ z c u) 34 = τ 34 := ordS_r (by decide) (by decide) (by decide) (by decide)
                have hr35 : (ordS τ z c u) 35 = τ 35 := ordS_r (by decide) (by decide) (by decide) (by decide)
                have hr36 : (ordS τ z c u) 36 = τ 36 := ordS_r (by decide) (by decide) (by decide) (by decide)
                have hr37 : (ordS τ z c u) 37 = τ 37 := ordS_r (by decide) (by decide) (by decide) (by decide)
                have hr38 : (ordS τ z c u) 38 = τ 38 := ordS_r (by decide) (by decide) (by decide) (by decide)
                have hr39 : (ordS τ z c u) 39 = τ 39 := ordS_r (by decide) (by decide) (by decide) (by decide)
                have hr41 : (ordS τ z c u) 41 = τ 41 := ordS_r (by decide) (by decide) (by decide) (by decide)
                have hp9 : ∀ i : Int, i ≠ τ 32 0 0 → (ordS τ z c u) 9 i 0 = τ 9 i 0 := by
                  intro i hi
                  unfold ordS
                  simp (discharger := decide) only [up_r, up_n (show ¬ (i = τ 32 0 0 ∧ (0 : Int) = 0) by omega)]
                have hp10 : ∀ i : Int, i ≠ τ 32 0 0 → (ordS τ z c u) 10 i 0 = τ 10 i 0 := by
                  intro i hi
                  unfold ordS
                  simp (discharger := decide) only [up_r, up_n (show ¬ (i = τ 32 0 0 ∧ (0 : Int) = 0) by omega)]
                have hp11 : ∀ i : Int, i ≠ τ 32 0 0 → (ordS τ z c u) 11 i 0 = τ 11 i 0 := by
                  intro i hi
                  unfold ordS
                  simp (discharger := decide) only [up_r, up_n (show ¬ (i = τ 32 0 0 ∧ (0 : Int) = 0) by omega)]
                have h30 : (ordS τ z c u) 30 0 0 = τ 30 0 0 := by rw [hr30]
                have h31 : (ordS τ z c u) 31 0 0 = τ 31 0 0 := by rw [hr31]
                have h32 : (ordS τ z c u) 32 0 0 = τ 32 0 0 + 1 := by unfold ordS; rw [up_s]
                have v9 : (ordS τ z c u) 9 (τ 32 0 0) 0 = z := by unfold ordS; simp (discharger := decide) only [up_r, up_s]
                have v10 : (ordS τ z c u) 10 (τ 32 0 0) 0 = c := by unfold ordS; simp (discharger := decide) only [up_r, up_s]
                have v11 : (ordS τ z c u) 11 (τ 32 0 0) 0 = u := by unfold ordS; simp (discharger := decide) only [up_r, up_s]
                obtain ⟨w12, w13⟩ := I.vo (τ 32 0 0) (Int.le_refl _)
                obtain ⟨y0, s0, q0, x0⟩ := I.vi (3 * τ 32 0 0 + 0) (by omega)
                obtain ⟨y1, s1, q1, x1⟩ := I.vi (3 * τ 32 0 0 + 1) (by omega)
                obtain ⟨y2, s2, q2, x2⟩ := I.vi (3 * τ 32 0 0 + 2) (by omega)
                have p0 : τ 26 (3 * τ 32 0 0 + 0) 0 = 0 := by rw [I.ip, if_pos y0]
                have p1 : τ 26 (3 * τ 32 0 0 + 1) 0 = 0 := by rw [I.ip, if_pos y1]
                have p2 : τ 26 (3 * τ 32 0 0 + 2) 0 = 0 := by rw [I.ip, if_pos y2]
                have w25 : τ 25 (τ 32 0 0) 0 = 0 := by rw [I.wa]; unfold wsA; rw [show (3 * τ 32 0 0 : Int) = 3 * τ 32 0 0 + 0 by omega, y0, y1, y2]; exact Int.mul_zero _
                have ha1 : a2 1 = ad 1 := funext fun n9 => hk 1 n9 (by omega)
                have ha2 : a2 2 = ad 2 := funext fun n9 => hk 2 n9 (by omega)
                have ha3 : a2 3 = ad 3 := funext fun n9 => hk 3 n9 (by omega)
                have ha4 : a2 4 = ad 4 := funext fun n9 => hk 4 n9 (by omega)
                have ha5 : a2 5 = ad 5 := funext fun n9 => hk 5 n9 (by omega)
                have ha6 : a2 6 = ad 6 := funext fun n9 => hk 6 n9 (by omega)
                have ha7 : a2 7 = ad 7 := funext fun n9 => hk 7 n9 (by omega)
                have ha8 : a2 8 = ad 8 := funext fun n9 => hk 8 n9 (by omega)
                have ha9 : a2 9 = ad 9 := funext fun n9 => hk 9 n9 (by omega)
                have ha10 : a2 10 = ad 10 := funext fun n9 => hk 10 n9 (by omega)
                have ha11 : a2 11 = ad 11 := funext fun n9 => hk 11 n9 (by omega)
                have ha12 : a2 12 = ad 12 := funext fun n9 => hk 12 n9 (by omega)
                have ha13 : a2 13 = ad 13 := funext fun n9 => hk 13 n9 (by omega)
                have ha14 : a2 14 = ad 14 := funext fun n9 => hk 14 n9 (by omega)
                funext k n9
                by_cases c0 : k = 15 ∧ n9 = τ 32 0 0
                · rw [c0.1, c0.2]
                  simp only [xup_s, xup_n (show ¬ ((15 : Nat) = 16 ∧ (τ 32 0 0 : Int) = τ 32 0 0) by omega), xup_n (show ¬ ((15 : Nat) = 17 ∧ (τ 32 0 0 : Int) = 3 * τ 32 0 0 + 0) by omega), xup_n (show ¬ ((15 : Nat) = 18 ∧ (τ 32 0 0 : Int) = 3 * τ 32 0 0 + 0) by omega), xup_n (show ¬ ((15 : Nat) = 19 ∧ (τ 32 0 0 : Int) = 3 * τ 32 0 0 + 0) by omega), xup_n (show ¬ ((15 : Nat) = 17 ∧ (τ 32 0 0 : Int) = 3 * τ 32 0 0 + 1) by omega), xup_n (show ¬ ((15 : Nat) = 18 ∧ (τ 32 0 0 : Int) = 3 * τ 32 0 0 + 1) by omega), xup_n (show ¬ ((15 : Nat) = 19 ∧ (τ 32 0 0 : Int) = 3 * τ 32 0 0 + 1) by omega), xup_n (show ¬ ((15 : Nat) = 17 ∧ (τ 32 0 0 : Int) = 3 * τ 32 0 0 + 2) by omega), xup_n (show ¬ ((15 : Nat) = 18 ∧ (τ 32 0 0 : Int) = 3 * τ 32 0 0 + 2) by omega), xup_n (show ¬ ((15 : Nat) = 19 ∧ (τ 32 0 0 : Int) = 3 * τ 32 0 0 + 2) by omega), xup_n (show ¬ ((15 : Nat) = 3 ∧ (τ 32 0 0 : Int) = 0) by omega), xup_n (show ¬ ((15 : Nat) = 0 ∧ (τ 32 0 0 : Int) = 0) by omega)]
                  rw [jG_15 (by omega), v9, v10, v11, hr12, hr13, hr25, w12, w13, w25]
                  all_goals rfl
                by_cases c1 : k = 16 ∧ n9 = τ 32 0 0
                · rw [c1.1, c1.2]
                  simp only [xup_s, xup_n (show ¬ ((16 : Nat) = 15 ∧ (τ 32 0 0 : Int) = τ 32 0 0) by omega), xup_n (show ¬ ((16 : Nat) = 17 ∧ (τ 32 0 0 : Int) = 3 * τ 32 0 0 + 0) by omega), xup_n (show ¬ ((16 : Nat) = 18 ∧ (τ 32 0 0 : Int) = 3 * τ 32 0 0 + 0) by omega), xup_n (show ¬ ((16 : Nat) = 19 ∧ (τ 32 0 0 : Int) = 3 * τ 32 0 0 + 0) by omega), xup_n (show ¬ ((16 : Nat) = 17 ∧ (τ 32 0 0 : Int) = 3 * τ 32 0 0 + 1) by omega), xup_n (show ¬ ((16 : Nat) = 18 ∧ (τ 32 0 0 : Int) = 3 * τ 32 0 0 + 1) by omega), xup_n (show ¬ ((16 : Nat) = 19 ∧ (τ 32 0 0 : Int) = 3 * τ 32 0 0 + 1) by omega), xup_n (show ¬ ((16 : Nat) = 17 ∧ (τ 32 0 0 : Int) = 3 * τ 32 0 0 + 2) by omega), xup_n (show ¬ ((16 : Nat) = 18 ∧ (τ 32 0 0 : Int) = 3 * τ 32 0 0 + 2) by omega), xup_n (show ¬ ((16 : Nat) = 19 ∧ (τ 32 0 0 : Int) = 3 * τ 32 0 0 + 2) by omega), xup_n (show ¬ ((16 : Nat) = 3 ∧ (τ 32 0 0 : Int) = 0) by omega), xup_n (show ¬ ((16 : Nat) = 0 ∧ (τ 32 0 0 : Int) = 0) by omega)]
                  rw [jG_16 (by omega)]
                  all_goals rfl
                by_cases c2 : k = 17 ∧ n9 = 3 * τ 32 0 0 + 0
                · rw [c2.1, c2.2]
                  simp only [xup_s, xup_n (show ¬ ((17 : Nat) = 15 ∧ (3 * τ 32 0 0 + 0 : Int) = τ 32 0 0) by omega), xup_n (show ¬ ((17 : Nat) = 16 ∧ (3 * τ 32 0 0 + 0 : Int) = τ 32 0 0) by omega), xup_n (show ¬ ((17 : Nat) = 18 ∧ (3 * τ 32 0 0 + 0 : Int) = 3 * τ 32 0 0 + 0) by omega), xup_n (show ¬ ((17 : Nat) = 19 ∧ (3 * τ 32 0 0 + 0 : Int) = 3 * τ 32 0 0 + 0) by omega), xup_n (show ¬ ((17 : Nat) = 17 ∧ (3 * τ 32 0 0 + 0 : Int) = 3 * τ 32 0 0 + 1) by omega), xup_n (show ¬ ((17 : Nat) = 18 ∧ (3 * τ 32 0 0 + 0 : Int) = 3 * τ 32 0 0 + 1) by omega), xup_n (show ¬ ((17 : Nat) = 19 ∧ (3 * τ 32 0 0 + 0 : Int) = 3 * τ 32 0 0 + 1) by omega), xup_n (show ¬ ((17 : Nat) = 17 ∧ (3 * τ 32 0 0 + 0 : Int) = 3 * τ 32 0 0 + 2) by omega), xup_n (show ¬ ((17 : Nat) = 18 ∧ (3 * τ 32 0 0 + 0 : Int) = 3 * τ 32 0 0 + 2) by omega), xup_n (show ¬ ((17 : Nat) = 19 ∧ (3 * τ 32 0 0 + 0 : Int) = 3 * τ 32 0 0 + 2) by omega), xup_n (show ¬ ((17 : Nat) = 3 ∧ (3 * τ 32 0 0 + 0 : Int) = 0) by omega), xup_n (show ¬ ((17 : Nat) = 0 ∧ (3 * τ 32 0 0 + 0 : Int) = 0) by omega)]
                  rw [jG_17 (by omega), hr26, hr27, hr28, p0, s0, q0]
                  all_goals rfl
                by_cases c3 : k = 18 ∧ n9 = 3 * τ 32 0 0 + 0
                · rw [c3.1, c3.2]
                  simp only [xup_s, xup_n (show ¬ ((18 : Nat) = 15 ∧ (3 * τ 32 0 0 + 0 : Int) = τ 32 0 0) by omega), xup_n (show ¬ ((18 : Nat) = 16 ∧ (3 * τ 32 0 0 + 0 : Int) = τ 32 0 0) by omega), xup_n (show ¬ ((18 : Nat) = 17 ∧ (3 * τ 32 0 0 + 0 : Int) = 3 * τ 32 0 0 + 0) by omega), xup_n (show ¬ ((18 : Nat) = 19 ∧ (3 * τ 32 0 0 + 0 : Int) = 3 * τ 32 0 0 + 0) by omega), xup_n (show ¬ ((18 : Nat) = 17 ∧ (3 * τ 32 0 0 + 0 : Int) = 3 * τ 32 0 0 + 1) by omega), xup_n (show ¬ ((18 : Nat) = 18 ∧ (3 * τ 32 0 0 + 0 : Int) = 3 * τ 32 0 0 + 1) by omega), xup_n (show ¬ ((18 : Nat) = 19 ∧ (3 * τ 32 0 0 + 0 : Int) = 3 * τ 32 0 0 + 1) by omega), xup_n (show ¬ ((18 : Nat) = 17 ∧ (3 * τ 32 0 0 + 0 : Int) = 3 * τ 32 0 0 + 2) by omega), xup_n (show ¬ ((18 : Nat) = 18 ∧ (3 * τ 32 0 0 + 0 : Int) = 3 * τ 32 0 0 + 2) by omega), xup_n (show ¬ ((18 : Nat) = 19 ∧ (3 * τ 32 0 0 + 0 : Int) = 3 * τ 32 0 0 + 2) by omega), xup_n (show ¬ ((18 : Nat) = 3 ∧ (3 * τ 32 0 0 + 0 : Int) = 0) by omega), xup_n (show ¬ ((18 : Nat) = 0 ∧ (3 * τ 32 0 0 + 0 : Int) = 0) by omega)]
                  rw [jG_18 (by omega), hr16]
                  simp only [(x0 _).1]
                  all_goals rfl
                by_cases c4 : k = 19 ∧ n9 = 3 * τ 32 0 0 + 0
                · rw [c4.1, c4.2]
                  simp only [xup_s, xup_n (show ¬ ((19 : Nat) = 15 ∧ (3 * τ 32 0 0 + 0 : Int) = τ 32 0 0) by omega), xup_n (show ¬ ((19 : Nat) = 16 ∧ (3 * τ 32 0 0 + 0 : Int) = τ 32 0 0) by omega), xup_n (show ¬ ((19 : Nat) = 17 ∧ (3 * τ 32 0 0 + 0 : Int) = 3 * τ 32 0 0 + 0) by omega), xup_n (show ¬ ((19 : Nat) = 18 ∧ (3 * τ 32 0 0 + 0 : Int) = 3 * τ 32 0 0 + 0) by omega), xup_n (show ¬ ((19 : Nat) = 17 ∧ (3 * τ 32 0 0 + 0 : Int) = 3 * τ 32 0 0 + 1) by omega), xup_n (show ¬ ((19 : Nat) = 18 ∧ (3 * τ 32 0 0 + 0 : Int) = 3 * τ 32 0 0 + 1) by omega), xup_n (show ¬ ((19 : Nat) = 19 ∧ (3 * τ 32 0 0 + 0 : Int) = 3 * τ 32 0 0 + 1) by omega), xup_n (show ¬ ((19 : Nat) = 17 ∧ (3 * τ 32 0 0 + 0 : Int) = 3 * τ 32 0 0 + 2) by omega), xup_n (show ¬ ((19 : Nat) = 18 ∧ (3 * τ 32 0 0 + 0 : Int) = 3 * τ 32 0 0 + 2) by omega), xup_n (show ¬ ((19 : Nat) = 19 ∧ (3 * τ 32 0 0 + 0 : Int) = 3 * τ 32 0 0 + 2) by omega), xup_n (show ¬ ((19 : Nat) = 3 ∧ (3 * τ 32 0 0 + 0 : Int) = 0) by omega), xup_n (show ¬ ((19 : Nat) = 0 ∧ (3 * τ 32 0 0 + 0 : Int) = 0) by omega)]
                  rw [jG_19 (by omega), hr17]
                  simp only [(x0 _).2]
                  all_goals rfl
                by_cases c5 : k = 17 ∧ n9 = 3 * τ 32 0 0 + 1
                · rw [c5.1, c5.2]
                  simp only [xup_s, xup_n (show ¬ ((17 : Nat) = 15 ∧ (3 * τ 32 0 0 + 1 : Int) = τ 32 0 0) by omega), xup_n (show ¬ ((17 : Nat) = 16 ∧ (3 * τ 32 0 0 + 1 : Int) = τ 32 0 0) by omega), xup_n (show ¬ ((17 : Nat) = 17 ∧ (3 * τ 32 0 0 + 1 : Int) = 3 * τ 32 0 0 + 0) by omega), xup_n (show ¬ ((17 : Nat) = 18 ∧ (3 * τ 32 0 0 + 1 : Int) = 3 * τ 32 0 0 + 0) by omega), xup_n (show ¬ ((17 : Nat) = 19 ∧ (3 * τ 32 0 0 + 1 : Int) = 3 * τ 32 0 0 + 0) by omega), xup_n (show ¬ ((17 : Nat) = 18 ∧ (3 * τ 32 0 0 + 1 : Int) = 3 * τ 32 0 0 + 1) by omega), xup_n (show ¬ ((17 : Nat) = 19 ∧ (3 * τ 32 0 0 + 1 : Int) = 3 * τ 32 0 0 + 1) by omega), xup_n (show ¬ ((17 : Nat) = 17 ∧ (3 * τ 32 0 0 + 1 : Int) = 3 * τ 32 0 0 + 2) by omega), xup_n (show ¬ ((17 : Nat) = 18 ∧ (3 * τ 32 0 0 + 1 : Int) = 3 * τ 32 0 0 + 2) by omega), xup_n (show ¬ ((17 : Nat) = 19 ∧ (3 * τ 32 0 0 + 1 : Int) = 3 * τ 32 0 0 + 2) by omega), xup_n (show ¬ ((17 : Nat) = 3 ∧ (3 * τ 32 0 0 + 1 : Int) = 0) by omega), xup_n (show ¬ ((17 : Nat) = 0 ∧ (3 * τ 32 0 0 + 1 : Int) = 0) by omega)]
                  rw [jG_17 (by omega), hr26, hr27, hr28, p1, s1, q1]
                  all_goals rfl
                by_cases c6 : k = 18 ∧ n9 = 3 * τ 32 0 0 + 1
                · rw [c6.1, c6.2]
                  simp only [xup_s, xup_n (show ¬ ((18 : Nat) = 15 ∧ (3 * τ 32 0 0 + 1 : Int) = τ 32 0 0) by omega), xup_n (show ¬ ((18 : Nat) = 16 ∧ (3 * τ 32 0 0 + 1 : Int) = τ 32 0 0) by omega), xup_n (show ¬ ((18 : Nat) = 17 ∧ (3 * τ 32 0 0 + 1 : Int) = 3 * τ 32 0 0 + 0) by omega), xup_n (show ¬ ((18 : Nat) = 18 ∧ (3 * τ 32 0 0 + 1 : Int) = 3 * τ 32 0 0 + 0) by omega), xup_n (show ¬ ((18 : Nat) = 19 ∧ (3 * τ 32 0 0 + 1 : Int) = 3 * τ 32 0 0 + 0) by omega), xup_n (show ¬ ((18 : Nat) = 17 ∧ (3 * τ 32 0 0 + 1 : Int) = 3 * τ 32 0 0 + 1) by omega), xup_n (show ¬ ((18 : Nat) = 19 ∧ (3 * τ 32 0 0 + 1 : Int) = 3 * τ 32 0 0 + 1) by omega), xup_n (show ¬ ((18 : Nat) = 17 ∧ (3 * τ 32 0 0 + 1 : Int) = 3 * τ 32 0 0 + 2) by omega), xup_n (show ¬ ((18 : Nat) = 18 ∧ (3 * τ 32 0 0 + 1 : Int) = 3 * τ 32 0 0 + 2) by omega), xup_n (show ¬ ((18 : Nat) = 19 ∧ (3 * τ 32 0 0 + 1 : Int) = 3 * τ 32 0 0 + 2) by omega), xup_n (show ¬ ((18 : Nat) = 3 ∧ (3 * τ 32 0 0 + 1 : Int) = 0) by omega), xup_n (show ¬ ((18 : Nat) = 0 ∧ (3 * τ 32 0 0 + 1 : Int) = 0) by omega)]
                  rw [jG_18 (by omega), hr16]
                  simp only [(x1 _).1]
                  all_goals rfl
                by_cases c7 : k = 19 ∧ n9 = 3 * τ 32 0 0 + 1
                · rw [c7.1, c7.2]
                  simp only [xup_s, xup_n (show ¬ ((19 : Nat) = 15 ∧ (3 * τ 32 0 0 + 1 : Int) = τ 32 0 0) by omega), xup_n (show ¬ ((19 : Nat) = 16 ∧ (3 * τ 32 0 0 + 1 : Int) = τ 32 0 0) by omega), xup_n (show ¬ ((19 : Nat) = 17 ∧ (3 * τ 32 0 0 + 1 : Int) = 3 * τ 32 0 0 + 0) by omega), xup_n (show ¬ ((19 : Nat) = 18 ∧ (3 * τ 32 0 0 + 1 : Int) = 3 * τ 32 0 0 + 0) by omega), xup_n (show ¬ ((19 : Nat) = 19 ∧ (3 * τ 32 0 0 + 1 : Int) = 3 * τ 32 0 0 + 0) by omega), xup_n (show ¬ ((19 : Nat) = 17 ∧ (3 * τ 32 0 0 + 1 : Int) = 3 * τ 32 0 0 + 1) by omega), xup_n (show ¬ ((19 : Nat) = 18 ∧ (3 * τ 32 0 0 + 1 : Int) = 3 * τ 32 0 0 + 1) by omega), xup_n (show ¬ ((19 : Nat) = 17 ∧ (3 * τ 32 0 0 + 1 : Int) = 3 * τ 32 0 0 + 2) by omega), xup_n (show ¬ ((19 : Nat) = 18 ∧ (3 * τ 32 0 0 + 1 : Int) = 3 * τ 32 0 0 + 2) by omega), xup_n (show ¬ ((19 : Nat) = 19 ∧ (3 * τ 32 0 0 + 1 : Int) = 3 * τ 32 0 0 + 2) by omega), xup_n (show ¬ ((19 : Nat) = 3 ∧ (3 * τ 32 0 0 + 1 : Int) = 0) by omega), xup_n (show ¬ ((19 : Nat) = 0 ∧ (3 * τ 32 0 0 + 1 : Int) = 0) by omega)]
                  rw [jG_19 (by omega), hr17]
                  simp only [(x1 _).2]
                  all_goals rfl
                by_cases c8 : k = 17 ∧ n9 = 3 * τ 32 0 0 + 2
                · rw [c8.1, c8.2]
                  simp only [xup_s, xup_n (show ¬ ((17 : Nat) = 15 ∧ (3 * τ 32 0 0 + 2 : Int) = τ 32 0 0) by omega), xup_n (show ¬ ((17 : Nat) = 16 ∧ (3 * τ 32 0 0 + 2 : Int) = τ 32 0 0) by omega), xup_n (show ¬ ((17 : Nat) = 17 ∧ (3 * τ 32 0 0 + 2 : Int) = 3 * τ 32 0 0 + 0) by omega), xup_n (show ¬ ((17 : Nat) = 18 ∧ (3 * τ 32 0 0 + 2 : Int) = 3 * τ 32 0 0 + 0) by omega), xup_n (show ¬ ((17 : Nat) = 19 ∧ (3 * τ 32 0 0 + 2 : Int) = 3 * τ 32 0 0 + 0) by omega), xup_n (show ¬ ((17 : Nat) = 17 ∧ (3 * τ 32 0 0 + 2 : Int) = 3 * τ 32 0 0 + 1) by omega), xup_n (show ¬ ((17 : Nat) = 18 ∧ (3 * τ 32 0 0 + 2 : Int) = 3 * τ 32 0 0 + 1) by omega), xup_n (show ¬ ((17 : Nat) = 19 ∧ (3 * τ 32 0 0 + 2 : Int) = 3 * τ 32 0 0 + 1) by omega), xup_n (show ¬ ((17 : Nat) = 18 ∧ (3 * τ 32 0 0 + 2 : Int) = 3 * τ 32 0 0 + 2) by omega), xup_n (show ¬ ((17 : Nat) = 19 ∧ (3 * τ 32 0 0 + 2 : Int) = 3 * τ 32 0 0 + 2) by omega), xup_n (show ¬ ((17 : Nat) = 3 ∧ (3 * τ 32 0 0 + 2 : Int) = 0) by omega), xup_n (show ¬ ((17 : Nat) = 0 ∧ (3 * τ 32 0 0 + 2 : Int) = 0) by omega)]
                  rw [jG_17 (by omega), hr26, hr27, hr28, p2, s2, q2]
                  all_goals rfl
                by_cases c9 : k = 18 ∧ n9 = 3 * τ 32 0 0 + 2
                · rw [c9.1, c9.2]
                  simp only [xup_s, xup_n (show ¬ ((18 : Nat) = 15 ∧ (3 * τ 32 0 0 + 2 : Int) = τ 32 0 0) by omega), xup_n (show ¬ ((18 : Nat) = 16 ∧ (3 * τ 32 0 0 + 2 : Int) = τ 32 0 0) by omega), xup_n (show ¬ ((18 : Nat) = 17 ∧ (3 * τ 32 0 0 + 2 : Int) = 3 * τ 32 0 0 + 0) by omega), xup_n (show ¬ ((18 : Nat) = 18 ∧ (3 * τ 32 0 0 + 2 : Int) = 3 * τ 32 0 0 + 0) by omega), xup_n (show ¬ ((18 : Nat) = 19 ∧ (3 * τ 32 0 0 + 2 : Int) = 3 * τ 32 0 0 + 0) by omega), xup_n (show ¬ ((18 : Nat) = 17 ∧ (3 * τ 32 0 0 + 2 : Int) = 3 * τ 32 0 0 + 1) by omega), xup_n (show ¬ ((18 : Nat) = 18 ∧ (3 * τ 32 0 0 + 2 : Int) = 3 * τ 32 0 0 + 1) by omega), xup_n (show ¬ ((18 : Nat) = 19 ∧ (3 * τ 32 0 0 + 2 : Int) = 3 * τ 32 0 0 + 1) by omega), xup_n (show ¬ ((18 : Nat) = 17 ∧ (3 * τ 32 0 0 + 2 : Int) = 3 * τ 32 0 0 + 2) by omega), xup_n (show ¬ ((18 : Nat) = 19 ∧ (3 * τ 32 0 0 + 2 : Int) = 3 * τ 32 0 0 + 2) by omega), xup_n (show ¬ ((18 : Nat) = 3 ∧ (3 * τ 32 0 0 + 2 : Int) = 0) by omega), xup_n (show ¬ ((18 : Nat) = 0 ∧ (3 * τ 32 0 0 + 2 : Int) = 0) by omega)]
                  rw [jG_18 (by omega), hr16]
                  simp only [(x2 _).1]
                  all_goals rfl
                by_cases c10 : k = 19 ∧ n9 = 3 * τ 32 0 0 + 2
                · rw [c10.1, c10.2]
                  simp only [xup_s, xup_n (show ¬ ((19 : Nat) = 15 ∧ (3 * τ 32 0 0 + 2 : Int) = τ 32 0 0) by omega), xup_n (show ¬ ((19 : Nat) = 16 ∧ (3 * τ 32 0 0 + 2 : Int) = τ 32 0 0) by omega), xup_n (show ¬ ((19 : Nat) = 17 ∧ (3 * τ 32 0 0 + 2 : Int) = 3 * τ 32 0 0 + 0) by omega), xup_n (show ¬ ((19 : Nat) = 18 ∧ (3 * τ 32 0 0 + 2 : Int) = 3 * τ 32 0 0 + 0) by omega), xup_n (show ¬ ((19 : Nat) = 19 ∧ (3 * τ 32 0 0 + 2 : Int) = 3 * τ 32 0 0 + 0) by omega), xup_n (show ¬ ((19 : Nat) = 17 ∧ (3 * τ 32 0 0 + 2 : Int) = 3 * τ 32 0 0 + 1) by omega), xup_n (show ¬ ((19 : Nat) = 18 ∧ (3 * τ 32 0 0 + 2 : Int) = 3 * τ 32 0 0 + 1) by omega), xup_n (show ¬ ((19 : Nat) = 19 ∧ (3 * τ 32 0 0 + 2 : Int) = 3 * τ 32 0 0 + 1) by omega), xup_n (show ¬ ((19 : Nat) = 17 ∧ (3 * τ 32 0 0 + 2 : Int) = 3 * τ 32 0 0 + 2) by omega), xup_n (show ¬ ((19 : Nat) = 18 ∧ (3 * τ 32 0 0 + 2 : Int) = 3 * τ 32 0 0 + 2) by omega), xup_n (show ¬ ((19 : Nat) = 3 ∧ (3 * τ 32 0 0 + 2 : Int) = 0) by omega), xup_n (show ¬ ((19 : Nat) = 0 ∧ (3 * τ 32 0 0 + 2 : Int) = 0) by omega)]
                  rw [jG_19 (by omega), hr17]
                  simp only [(x2 _).2]
                  all_goals rfl
                by_cases c11 : k = 3 ∧ n9 = 0
                · rw [c11.1, c11.2]
                  simp only [xup_s, xup_n (show ¬ ((3 : Nat) = 15 ∧ (0 : Int) = τ 32 0 0) by omega), xup_n (show ¬ ((3 : Nat) = 16 ∧ (0 : Int) = τ 32 0 0) by omega), xup_n (show ¬ ((3 : Nat) = 17 ∧ (0 : Int) = 3 * τ 32 0 0 + 0) by omega), xup_n (show ¬ ((3 : Nat) = 18 ∧ (0 : Int) = 3 * τ 32 0 0 + 0) by omega), xup_n (show ¬ ((3 : Nat) = 19 ∧ (0 : Int) = 3 * τ 32 0 0 + 0) by omega), xup_n (show ¬ ((3 : Nat) = 17 ∧ (0 : Int) = 3 * τ 32 0 0 + 1) by omega), xup_n (show ¬ ((3 : Nat) = 18 ∧ (0 : Int) = 3 * τ 32 0 0 + 1) by omega), xup_n (show ¬ ((3 : Nat) = 19 ∧ (0 : Int) = 3 * τ 32 0 0 + 1) by omega), xup_n (show ¬ ((3 : Nat) = 17 ∧ (0 : Int) = 3 * τ 32 0 0 + 2) by omega), xup_n (show ¬ ((3 : Nat) = 18 ∧ (0 : Int) = 3 * τ 32 0 0 + 2) by omega), xup_n (show ¬ ((3 : Nat) = 19 ∧ (0 : Int) = 3 * τ 32 0 0 + 2) by omega), xup_n (show ¬ ((3 : Nat) = 0 ∧ (0 : Int) = 0) by omega)]
                  rw [jG_3 rfl, h32]
                  congr 6
                  funext j
                  unfold va_up
                  by_cases e : j = (τ 32 0 0).toNat
                  · rw [if_pos e, if_pos (by omega), e, show (((τ 32 0 0).toNat : Nat) : Int) = τ 32 0 0 by omega]
                  · rw [if_neg e]
                    by_cases e2 : (j : Int) < τ 32 0 0
                    · rw [if_pos e2, if_pos (by omega), hk 15 (j : Int) (by omega)]
                    · rw [if_neg e2, if_neg (by omega)]
                by_cases c12 : k = 0 ∧ n9 = 0
                · rw [c12.1, c12.2]
                  simp only [xup_s, xup_n (show ¬ ((0 : Nat) = 15 ∧ (0 : Int) = τ 32 0 0) by omega), xup_n (show ¬ ((0 : Nat) = 16 ∧ (0 : Int) = τ 32 0 0) by omega), xup_n (show ¬ ((0 : Nat) = 17 ∧ (0 : Int) = 3 * τ 32 0 0 + 0) by omega), xup_n (show ¬ ((0 : Nat) = 18 ∧ (0 : Int) = 3 * τ 32 0 0 + 0) by omega), xup_n (show ¬ ((0 : Nat) = 19 ∧ (0 : Int) = 3 * τ 32 0 0 + 0) by omega), xup_n (show ¬ ((0 : Nat) = 17 ∧ (0 : Int) = 3 * τ 32 0 0 + 1) by omega), xup_n (show ¬ ((0 : Nat) = 18 ∧ (0 : Int) = 3 * τ 32 0 0 + 1) by omega), xup_n (show ¬ ((0 : Nat) = 19 ∧ (0 : Int) = 3 * τ 32 0 0 + 1) by omega), xup_n (show ¬ ((0 : Nat) = 17 ∧ (0 : Int) = 3 * τ 32 0 0 + 2) by omega), xup_n (show ¬ ((0 : Nat) = 18 ∧ (0 : Int) = 3 * τ 32 0 0 + 2) by omega), xup_n (show ¬ ((0 : Nat) = 19 ∧ (0 : Int) = 3 * τ 32 0 0 + 2) by omega), xup_n (show ¬ ((0 : Nat) = 3 ∧ (0 : Int) = 0) by omega)]
                  rw [jG_0 rfl, h32, hr30, hr31, hr33, hr34, hr39, ha1, ha2, ha3, ha4, ha9]
                  all_goals rfl
                simp only [xup_n c0, xup_n c1, xup_n c2, xup_n c3, xup_n c4, xup_n c5, xup_n c6, xup_n c7, xup_n c8, xup_n c9, xup_n c10, xup_n c11, xup_n c12]
                by_cases hm : 20 ≤ k
                · exact (jG_m hkp hm n9).symm
                have hl : k < 20 := by omega
                clear hm
                match k, hl with
                | (k + 20), h => exact absurd h (by omega)
                | 0, _ =>
                  show cG0 Y τ ad n9 = cG0 Y (ordS τ z c u) a2 n9
                  unfold cG0
                  rw [if_neg (by omega), if_neg (by omega)]
                | 1, _ =>
                  show cG1 Y τ ad n9 = cG1 Y (ordS τ z c u) a2 n9
                  unfold cG1
                  by_cases hh : n9 = 0
                  · rw [if_pos hh, if_pos (by omega), hr30, ha11]
                  · rw [if_neg hh, if_neg (by omega)]
                | 2, _ =>
                  show cG2 Y τ ad n9 = cG2 Y (ordS τ z c u) a2 n9
                  unfold cG2
                  by_cases hh : n9 = 0
                  · rw [if_pos hh, if_pos (by omega), hr31, ha14]
                  · rw [if_neg hh, if_neg (by omega)]
                | 3, _ =>
                  show cG3 Y τ ad n9 = cG3 Y (ordS τ z c u) a2 n9
                  unfold cG3
                  rw [if_neg (by omega), if_neg (by omega)]
                | 4, _ =>
                  show cG4 Y τ ad n9 = cG4 Y (ordS τ z c u) a2 n9
                  unfold cG4
                  by_cases hh : n9 = 0
                  · rw [if_pos hh, if_pos (by omega), ha5, ha6, ha7, ha8, hr41]
                  · rw [if_neg hh, if_neg (by omega)]
                | 5, _ =>
                  show cG5 Y τ ad n9 = cG5 Y (ordS τ z c u) a2 n9
                  unfold cG5
                  by_cases hh : n9 = 0
                  · rw [if_pos hh, if_pos (by omega), hr20]
                  · rw [if_neg hh, if_neg (by omega)]
                | 6, _ =>
                  show cG6 Y τ ad n9 = cG6 Y (ordS τ z c u) a2 n9
                  unfold cG6
                  by_cases hh : n9 = 0
                  · rw [if_pos hh, if_pos (by omega), hr21]
                  · rw [if_neg hh, if_neg (by omega)]
                | 7, _ =>
                  show cG7 Y τ ad n9 = cG7 Y (ordS τ z c u) a2 n9
                  unfold cG7
                  by_cases hh : n9 = 0
                  · rw [if_pos hh, if_pos (by omega), hr22]
                  · rw [if_neg hh, if_neg (by omega)]
                | 8, _ =>
                  show cG8 Y τ ad n9 = cG8 Y (ordS τ z c u) a2 n9
                  unfold cG8
                  by_cases hh : n9 = 0
                  · rw [if_pos hh, if_pos (by omega), hr23]
                  · rw [if_neg hh, if_neg (by omega)]
                | 9, _ =>
                  show cG9 Y τ ad n9 = cG9 Y (ordS τ z c u) a2 n9
                  unfold cG9
                  unfold xpo
                  by_cases hh : n9 = 0
                  · rw [if_pos hh, if_pos (by omega), hr35, hr36, hr37, hr38, ha10]
                  by_cases e : τ 35 0 0 = -1
                  · rw [if_pos e, if_pos e]
                  · rw [if_neg e, if_neg e, hk 15 (τ 35 0 0) (by have := I.po; omega)]
                  · rw [if_neg hh, if_neg (by omega)]
                | 10, _ =>
                  show cG10 Y τ ad n9 = cG10 Y (ordS τ z c u) a2 n9
                  unfold cG10
                  by_cases hh : n9 = 0
                  · rw [if_pos hh, if_pos (by omega), hr18]
                  · rw [if_neg hh, if_neg (by omega)]
                | 11, _ =>
                  show cG11 Y τ ad n9 = cG11 Y (ordS τ z c u) a2 n9
                  unfold cG11
                  by_cases hh : 0 ≤ n9 ∧ n9 < τ 30 0 0
                  · rw [if_pos hh, if_pos (by omega), ha12, hr2, hr3, hr24, hr4]
                  · rw [if_neg hh, if_neg (by omega)]
                | 12, _ =>
                  show cG12 Y τ ad n9 = cG12 Y (ordS τ z c u) a2 n9
                  unfold cG12
                  by_cases hh : 0 ≤ n9 ∧ n9 < 2 * τ 30 0 0
                  · rw [if_pos hh, if_pos (by omega), ha13, hr1]
                  · rw [if_neg hh, if_neg (by omega)]
                | 13, _ =>
                  show cG13 Y τ ad n9 = cG13 Y (ordS τ z c u) a2 n9
                  unfold cG13
                  by_cases hh : 0 ≤ n9 ∧ n9 < 2 * τ 30 0 0
                  · rw [if_pos hh, if_pos (by omega), hr0]
                  · rw [if_neg hh, if_neg (by omega)]
                | 14, _ =>
                  show cG14 Y τ ad n9 = cG14 Y (ordS τ z c u) a2 n9
                  unfold cG14
                  by_cases hh : 0 ≤ n9 ∧ n9 < τ 31 0 0
                  · rw [if_pos hh, if_pos (by omega), hr5, ha11, hr6, hr7, hr8]
                  · rw [if_neg hh, if_neg (by omega)]
                | 15, _ =>
                  show cG15 Y τ ad n9 = cG15 Y (ordS τ z c u) a2 n9
                  unfold cG15
                  by_cases hh : 0 ≤ n9 ∧ n9 < τ 32 0 0
                  · rw [if_pos hh, if_pos (by omega), hp9 (n9) (by omega), ha11, hp10 (n9) (by omega), hp11 (n9) (by omega), hk 16 (n9) (by omega), hr12, hr25, hr13]
                  · rw [if_neg hh, if_neg (by omega)]
                | 16, _ =>
                  show cG16 Y τ ad n9 = cG16 Y (ordS τ z c u) a2 n9
                  unfold cG16
                  by_cases hh : 0 ≤ n9 ∧ n9 < τ 32 0 0
                  · rw [if_pos hh, if_pos (by omega)]
                  congr 6
                  funext j
                  by_cases e : (j : Int) < 3
                  · rw [if_pos e, if_pos e, hk 17 (3 * n9 + (j : Int)) (by omega)]
                  · rw [if_neg e, if_neg e]
                  · rw [if_neg hh, if_neg (by omega)]
                | 17, _ =>
                  show cG17 Y τ ad n9 = cG17 Y (ordS τ z c u) a2 n9
                  unfold cG17
                  by_cases hh : 0 ≤ n9 ∧ n9 < 3 * τ 32 0 0
                  · rw [if_pos hh, if_pos (by omega), hk 18 (n9) (by omega), hr26, hk 19 (n9) (by omega), hr27, hr28]
                  · rw [if_neg hh, if_neg (by omega)]
                | 18, _ =>
                  show cG18 Y τ ad n9 = cG18 Y (ordS τ z c u) a2 n9
                  unfold cG18
                  by_cases hh : 0 ≤ n9 ∧ n9 < 3 * τ 32 0 0
                  · rw [if_pos hh, if_pos (by omega), hr16]
                  · rw [if_neg hh, if_neg (by omega)]
                | 19, _ =>
                  show cG19 Y τ ad n9 = cG19 Y (ordS τ z c u) a2 n9
                  unfold cG19
                  by_cases hh : 0 ≤ n9 ∧ n9 < 3 * τ 32 0 0
                  · rw [if_pos hh, if_pos (by omega), hr17]
                  · rw [if_neg hh, if_neg (by omega)]
              · exact X_throwW C M tw_X8_135_139 xs_X8_272 dX8_order_82 dX8_order_85 dX8_order_86 dX8_order_89 dX8_order_92 (by decide) (by decide) (by decide) (by decide) ⟨by rw [show kOrd τ z c u = 4 from by unfold kOrd; (repeat' split) <;> omega]; rfl, rfl, rfl⟩
            · exact X_throwW C M tw_X8_45_49 xs_X8_266 dX8_order_57 dX8_order_60 dX8_order_61 dX8_order_64 dX8_order_67 (by decide) (by decide) (by decide) (by decide) ⟨by rw [show kOrd τ z c u = 3 from by unfold kOrd; (repeat' split) <;> omega]; rfl, rfl, rfl⟩
        · exact X_throw C M tw_X8_67_71 xs_X8_252 dX8_order_30 dX8_order_33 dX8_order_34 dX8_order_36 dX8_order_39 (by decide) (by decide) (by decide) (by decide) ⟨by rw [show kOrd τ z c u = 2 from by unfold kOrd; (repeat' split) <;> omega]; rfl, rfl, rfl⟩
