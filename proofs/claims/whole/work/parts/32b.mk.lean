set_option maxRecDepth 100000 in
set_option maxHeartbeats 4000000 in
theorem c_X8_addDocument {lc : Launch} (hlc : lc.stackTraces = false) {D : va_G} {Y : Nat → ClassId} {A : Nat → Prop} {τ σ : xS} {ρ : xG} {ad : xL} {n : Int} (I : xI n τ) : Ct lc yX8_addDocument cX8_addDocument 2 (some .int) (rmL 2 5 171) D Y A ad (jG Y τ σ ρ ad) [.ref (ad 0 0)] (fun r ad2 g2 => kAdd τ = 0 ∧ r = some (.int (iI (τ 30 0 0))) ∧ xKp ad2 ad ∧ g2 = jG Y (addS τ) σ ρ ad2) (pT (fun E => exn [eS] (kAdd τ) = some E) ad (jG Y τ σ ρ ad)) := by
  refine Ct_of hlc (by decide +kernel) rfl rfl (own := RX8) (nm := "addDocument") (l0 := [some (.ref (ad 0 0)), none]) rfl (Nat.le_of_ble_eq_true rfl) (fun κ C M => ?_)
  have Ind := I.nd
  have Inc := I.nc
  have Ino := I.no
  have In := I.n0
  refine X_aload_n C rfl dX8_addDocument_0 ?_
  refine Xg_X8_documentCount C rfl fl_X8_41 dX8_addDocument_1 ?_
  refine X_iconst C dX8_addDocument_4 ?_
  refine X_icmp_lt C (tgt := 18) dX8_addDocument_5 (by decide) ⟨by omega, by omega⟩ ⟨by omega, by omega⟩ (fun c_5 => ?_) (fun c_5 => ?_)
  · refine X_aload_n C rfl dX8_addDocument_18 ?_
    refine Xg_X8_documentCount C rfl fl_X8_41 dX8_addDocument_19 ?_
    refine X_istore_1 C (by decide) rfl dX8_addDocument_22 ?_
    refine X_aload_n C rfl dX8_addDocument_23 ?_
    refine Xg_X8_documents C fl_X8_11 dX8_addDocument_24 ?_
    refine X_iload_n C rfl dX8_addDocument_27 ?_
    have g0z := jG_0 (Y := Y) (τ := τ) (σ := σ) (ρ := ρ) (ad := ad) (n := 0) rfl
    have g1z := jG_1 (Y := Y) (τ := τ) (σ := σ) (ρ := ρ) (ad := ad) (n := 0) rfl
    have f0 : jG Y τ σ ρ ad 11 (τ 30 0 0) = none := by
      show cG11 Y τ ad _ = none
      unfold cG11
      exact if_neg (by omega)
    have f1 : jG Y τ σ ρ ad 12 (2 * τ 30 0 0) = none := by
      show cG12 Y τ ad _ = none
      unfold cG12
      exact if_neg (by omega)
    have f2 : jG Y τ σ ρ ad 12 (2 * τ 30 0 0 + 1) = none := by
      show cG12 Y τ ad _ = none
      unfold cG12
      exact if_neg (by omega)
    have f3 : jG Y τ σ ρ ad 13 (2 * τ 30 0 0) = none := by
      show cG13 Y τ ad _ = none
      unfold cG13
      exact if_neg (by omega)
    have f4 : jG Y τ σ ρ ad 13 (2 * τ 30 0 0 + 1) = none := by
      show cG13 Y τ ad _ = none
      unfold cG13
      exact if_neg (by omega)
    refine X_mkO C (k := 11) (n := τ 30 0 0) (fs := [.int (iI 0), .null, .null, .int (iI 0), .int (iI 0), .int (iI 0), .int (iI 0)]) (by repeat (first | exact xup_s | assumption | rw [xup_n (by omega)])) xcl_X1 nw_X8_9 (fun j hj => match j, hj with | 0, _ => rfl | 1, _ => rfl | 2, _ => rfl | 3, _ => rfl | 4, _ => rfl | 5, _ => rfl | 6, _ => rfl | (j + 7), h => absurd h (by omega)) (by decide) (by decide) dX8_addDocument_28 (fun a1 o1 => ?_)
    try rw [← o1 0 (0) (by omega)]
    try rw [← o1 1 (0) (by omega)]
    refine X_dup C rfl dX8_addDocument_31 ?_
    refine X_iload_n C rfl dX8_addDocument_32 ?_
    refine X_callIg C (c_X1_init C.hlc (z := τ 30 0 0) (by repeat (first | exact xup_s | assumption | rw [xup_n (by omega)])) (by repeat (first | exact xup_s | assumption | rw [xup_n (by omega)])) (by repeat (first | exact xup_s | assumption | rw [xup_n (by omega)])) (by repeat (first | exact xup_s | assumption | rw [xup_n (by omega)])) (by repeat (first | exact xup_s | assumption | rw [xup_n (by omega)]))) ci_X8_52 rfl rfl rfl rfl dX8_addDocument_33 (fun r9 a2 g9 hp => ?_)
    obtain ⟨rfl, o2, rfl⟩ := hp
    try rw [← o2 0 (0) (by omega)]
    try rw [← o2 1 (0) (by omega)]
    try rw [← o2 11 (τ 30 0 0) (by omega)]
    refine X_aast C (k := 1) (n := 0) (t := 4) (ci := 3) (r := (RX1, TX1, 7)) (k2 := 11) (n2 := τ 30 0 0) (by repeat (first | exact xup_s | assumption | rw [xup_n (by omega)])) rfl rfl (by repeat (first | exact xup_s | assumption | rw [xup_n (by omega)])) (by omega) (by omega) (by decide) dX8_addDocument_36 ?_
    refine X_aload_n C rfl dX8_addDocument_37 ?_
    refine X_dup C rfl dX8_addDocument_38 ?_
    refine X_get C (k := 0) (n := 0) (fs := [.ref (ad 1 (0)), .int (iI (τ 30 0 0)), .ref (ad 2 (0)), .int (iI (τ 31 0 0)), .ref (ad 3 (0)), .int (iI (τ 32 0 0)), .ref (ad 4 (0)), .ref (ad 9 (0)), .int (iI (τ 33 0 0)), .int (iI (τ 34 0 0)), .int (iI (τ 39 0 0))]) (v := .int (iI (τ 30 0 0))) (by repeat (first | exact xup_s | assumption | rw [xup_n (by omega)])) fl_X8_41 rfl dX8_addDocument_39 ?_
    refine X_iconst C dX8_addDocument_42 ?_
    refine X_iadd C dX8_addDocument_43 ?_
    refine X_put C (k := 0) (n := 0) (fs := [.ref (ad 1 (0)), .int (iI (τ 30 0 0)), .ref (ad 2 (0)), .int (iI (τ 31 0 0)), .ref (ad 3 (0)), .int (iI (τ 32 0 0)), .ref (ad 4 (0)), .ref (ad 9 (0)), .int (iI (τ 33 0 0)), .int (iI (τ 34 0 0)), .int (iI (τ 39 0 0))]) (by repeat (first | exact xup_s | assumption | rw [xup_n (by omega)])) fw_X8_41 rfl rfl (Nat.le_of_ble_eq_true rfl) dX8_addDocument_44 ?_
    refine X_iload_n C rfl dX8_addDocument_47 ?_
    have hk : ∀ k n9, ¬ (k = 11 ∧ n9 = τ 30 0 0 ∨ (k = 12 ∨ k = 13) ∧ (n9 = 2 * τ 30 0 0 ∨ n9 = 2 * τ 30 0 0 + 1)) → a2 k n9 = ad k n9 := by
      intro k n9 h9
      rw [o2 k n9 (by omega)]
      rw [o1 k n9 (by omega)]
    refine X_ireturn C M rfl (by decide) (by decide) dX8_addDocument_48 ⟨(by unfold kAdd; (repeat' split) <;> omega), rfl, (fun k n9 h9 => hk k n9 (by omega)), ?_⟩
    have hkp : xKp a2 ad := fun k n9 h9 => hk k n9 (by omega)
    have hr0 : (addS τ) 0 = τ 0 := addS_r (by decide) (by decide) (by decide)
    have hr1 : (addS τ) 1 = τ 1 := addS_r (by decide) (by decide) (by decide)
    have hr2 : (addS τ) 2 = τ 2 := addS_r (by decide) (by decide) (by decide)
    have hr5 : (addS τ) 5 = τ 5 := addS_r (by decide) (by decide) (by decide)
    have hr6 : (addS τ) 6 = τ 6 := addS_r (by decide) (by decide) (by decide)
    have hr7 : (addS τ) 7 = τ 7 := addS_r (by decide) (by decide) (by decide)
    have hr8 : (addS τ) 8 = τ 8 := addS_r (by decide) (by decide) (by decide)
    have hr9 : (addS τ) 9 = τ 9 := addS_r (by decide) (by decide) (by decide)
    have hr10 : (addS τ) 10 = τ 10 := addS_r (by decide) (by decide) (by decide)
    have hr11 : (addS τ) 11 = τ 11 := addS_r (by decide) (by decide) (by decide)
    have hr12 : (addS τ) 12 = τ 12 := addS_r (by decide) (by decide) (by decide)
    have hr13 : (addS τ) 13 = τ 13 := addS_r (by decide) (by decide) (by decide)
    have hr14 : (addS τ) 14 = τ 14 := addS_r (by decide) (by decide) (by decide)
    have hr15 : (addS τ) 15 = τ 15 := addS_r (by decide) (by decide) (by decide)
    have hr16 : (addS τ) 16 = τ 16 := addS_r (by decide) (by decide) (by decide)
    have hr17 : (addS τ) 17 = τ 17 := addS_r (by decide) (by decide) (by decide)
    have hr18 : (addS τ) 18 = τ 18 := addS_r (by decide) (by decide) (by decide)
    have hr20 : (addS τ) 20 = τ 20 := addS_r (by decide) (by decide) (by decide)
    have hr21 : (addS τ) 21 = τ 21 := addS_r (by decide) (by decide) (by decide)
    have hr22 : (addS τ) 22 = τ 22 := addS_r (by decide) (by decide) (by decide)
    have hr23 : (addS τ) 23 = τ 23 := addS_r (by decide) (by decide) (by decide)
    have hr24 : (addS τ) 24 = τ 24 := addS_r (by decide) (by decide) (by decide)
    have hr25 : (addS τ) 25 = τ 25 := addS_r (by decide) (by decide) (by decide)
    have hr26 : (addS τ) 26 = τ 26 := addS_r (by decide) (by decide) (by decide)
    have hr27 : (addS τ) 27 = τ 27 := addS_r (by decide) (by decide) (by decide)
    have hr28 : (addS τ) 28 = τ 28 := addS_r (by decide) (by decide) (by decide)
    have hr31 : (addS τ) 31 = τ 31 := addS_r (by decide) (by decide) (by decide)
    have hr32 : (addS τ) 32 = τ 32 := addS_r (by decide) (by decide) (by decide)
    have hr33 : (addS τ) 33 = τ 33 := addS_r (by decide) (by decide) (by decide)
    have hr34 : (addS τ) 34 = τ 34 := addS_r (by decide) (by decide) (by decide)
    have hr35 : (addS τ) 35 = τ 35 := addS_r (by decide) (by decide) (by decide)
    have hr36 : (addS τ) 36 = τ 36 := addS_r (by decide) (by decide) (by decide)
    have hr37 : (addS τ) 37 = τ 37 := addS_r (by decide) (by decide) (by decide)
    have hr38 : (addS τ) 38 = τ 38 := addS_r (by decide) (by decide) (by decide)
    have hr39 : (addS τ) 39 = τ 39 := addS_r (by decide) (by decide) (by decide)
    have hr41 : (addS τ) 41 = τ 41 := addS_r (by decide) (by decide) (by decide)
    have hp3 : ∀ i : Int, i ≠ τ 30 0 0 → (addS τ) 3 i 0 = τ 3 i 0 := by
      intro i hi
      unfold addS
      simp (discharger := decide) only [up_r, up_n (show ¬ (i = τ 30 0 0 ∧ (0 : Int) = 0) by omega)]
    have hp4 : ∀ i : Int, i ≠ τ 30 0 0 → (addS τ) 4 i 0 = τ 4 i 0 := by
      intro i hi
      unfold addS
      simp (discharger := decide) only [up_r, up_n (show ¬ (i = τ 30 0 0 ∧ (0 : Int) = 0) by omega)]
    have h30 : (addS τ) 30 0 0 = τ 30 0 0 + 1 := by unfold addS; rw [up_s]
    have h31 : (addS τ) 31 0 0 = τ 31 0 0 := by rw [hr31]
    have h32 : (addS τ) 32 0 0 = τ 32 0 0 := by rw [hr32]
    have v3 : (addS τ) 3 (τ 30 0 0) 0 = -1 := by unfold addS; simp (discharger := decide) only [up_r, up_s]
    have v4 : (addS τ) 4 (τ 30 0 0) 0 = 999 := by unfold addS; simp (discharger := decide) only [up_r, up_s]
    obtain ⟨z1, z2, z3, z4⟩ := I.vd (τ 30 0 0) (Int.le_refl _)
    have z5 : τ 24 (τ 30 0 0) 0 = 0 := by rw [I.sh]; unfold shT; rw [z3]; rfl
    have ha1 : a2 1 = ad 1 := funext fun n9 => hk 1 n9 (by omega)
    have ha2 : a2 2 = ad 2 := funext fun n9 => hk 2 n9 (by omega)
    have ha3 : a2 3 = ad 3 := funext fun n9 => hk 3 n9 (by omega)
    have ha4 : a2 4 = ad 4 := funext fun n9 => hk 4 n9 (by omega)
    have ha5 : a2 5 = ad 5 := funext fun n9 => hk 5 n9 (by omega)
    have ha6 : a2 6 = ad 6 := funext fun n9 => hk 6 n9 (by omega)
    have ha7 : a2 7 = ad 7 := funext fun n9 => hk 7 n9 (by omega)
    have ha8 : a2 8 = ad 8 := funext fun n9 => hk 8 n9 (by omega)
    have ha9 : a2 9 = ad 9 := funext fun n9 => hk 9 n9 (by omega)
    have ha10 : a2 10 = ad 10 := funext fun n9 => hk 10 n9 (by omega)
    have ha14 : a2 14 = ad 14 := funext fun n9 => hk 14 n9 (by omega)
    have ha15 : a2 15 = ad 15 := funext fun n9 => hk 15 n9 (by omega)
    have ha16 : a2 16 = ad 16 := funext fun n9 => hk 16 n9 (by omega)
    have ha17 : a2 17 = ad 17 := funext fun n9 => hk 17 n9 (by omega)
    have ha18 : a2 18 = ad 18 := funext fun n9 => hk 18 n9 (by omega)
    have ha19 : a2 19 = ad 19 := funext fun n9 => hk 19 n9 (by omega)
    funext k n9
    by_cases c0 : k = 12 ∧ n9 = 2 * τ 30 0 0
    · rw [c0.1, c0.2]
      simp only [xup_s, xup_n (show ¬ ((12 : Nat) = 13 ∧ (2 * τ 30 0 0 : Int) = 2 * τ 30 0 0) by omega), xup_n (show ¬ ((12 : Nat) = 12 ∧ (2 * τ 30 0 0 : Int) = 2 * τ 30 0 0 + 1) by omega), xup_n (show ¬ ((12 : Nat) = 13 ∧ (2 * τ 30 0 0 : Int) = 2 * τ 30 0 0 + 1) by omega), xup_n (show ¬ ((12 : Nat) = 11 ∧ (2 * τ 30 0 0 : Int) = τ 30 0 0) by omega), xup_n (show ¬ ((12 : Nat) = 1 ∧ (2 * τ 30 0 0 : Int) = 0) by omega), xup_n (show ¬ ((12 : Nat) = 0 ∧ (2 * τ 30 0 0 : Int) = 0) by omega)]
      rw [jG_12 (by omega), hr1, z2]
      all_goals rfl
    by_cases c1 : k = 13 ∧ n9 = 2 * τ 30 0 0
    · rw [c1.1, c1.2]
      simp only [xup_s, xup_n (show ¬ ((13 : Nat) = 12 ∧ (2 * τ 30 0 0 : Int) = 2 * τ 30 0 0) by omega), xup_n (show ¬ ((13 : Nat) = 12 ∧ (2 * τ 30 0 0 : Int) = 2 * τ 30 0 0 + 1) by omega), xup_n (show ¬ ((13 : Nat) = 13 ∧ (2 * τ 30 0 0 : Int) = 2 * τ 30 0 0 + 1) by omega), xup_n (show ¬ ((13 : Nat) = 11 ∧ (2 * τ 30 0 0 : Int) = τ 30 0 0) by omega), xup_n (show ¬ ((13 : Nat) = 1 ∧ (2 * τ 30 0 0 : Int) = 0) by omega), xup_n (show ¬ ((13 : Nat) = 0 ∧ (2 * τ 30 0 0 : Int) = 0) by omega)]
      rw [jG_13 (by omega), hr0]
      simp only [(z4 _).1]
      all_goals rfl
    by_cases c2 : k = 12 ∧ n9 = 2 * τ 30 0 0 + 1
    · rw [c2.1, c2.2]
      simp only [xup_s, xup_n (show ¬ ((12 : Nat) = 12 ∧ (2 * τ 30 0 0 + 1 : Int) = 2 * τ 30 0 0) by omega), xup_n (show ¬ ((12 : Nat) = 13 ∧ (2 * τ 30 0 0 + 1 : Int) = 2 * τ 30 0 0) by omega), xup_n (show ¬ ((12 : Nat) = 13 ∧ (2 * τ 30 0 0 + 1 : Int) = 2 * τ 30 0 0 + 1) by omega), xup_n (show ¬ ((12 : Nat) = 11 ∧ (2 * τ 30 0 0 + 1 : Int) = τ 30 0 0) by omega), xup_n (show ¬ ((12 : Nat) = 1 ∧ (2 * τ 30 0 0 + 1 : Int) = 0) by omega), xup_n (show ¬ ((12 : Nat) = 0 ∧ (2 * τ 30 0 0 + 1 : Int) = 0) by omega)]
      rw [jG_12 (by omega), hr1, z3]
      all_goals rfl
    by_cases c3 : k = 13 ∧ n9 = 2 * τ 30 0 0 + 1
    · rw [c3.1, c3.2]
      simp only [xup_s, xup_n (show ¬ ((13 : Nat) = 12 ∧ (2 * τ 30 0 0 + 1 : Int) = 2 * τ 30 0 0) by omega), xup_n (show ¬ ((13 : Nat) = 13 ∧ (2 * τ 30 0 0 + 1 : Int) = 2 * τ 30 0 0) by omega), xup_n (show ¬ ((13 : Nat) = 12 ∧ (2 * τ 30 0 0 + 1 : Int) = 2 * τ 30 0 0 + 1) by omega), xup_n (show ¬ ((13 : Nat) = 11 ∧ (2 * τ 30 0 0 + 1 : Int) = τ 30 0 0) by omega), xup_n (show ¬ ((13 : Nat) = 1 ∧ (2 * τ 30 0 0 + 1 : Int) = 0) by omega), xup_n (show ¬ ((13 : Nat) = 0 ∧ (2 * τ 30 0 0 + 1 : Int) = 0) by omega)]
      rw [jG_13 (by omega), hr0]
      simp only [(z4 _).2]
      all_goals rfl
    by_cases c4 : k = 11 ∧ n9 = τ 30 0 0
    · rw [c4.1, c4.2]
      simp only [xup_s, xup_n (show ¬ ((11 : Nat) = 12 ∧ (τ 30 0 0 : Int) = 2 * τ 30 0 0) by omega), xup_n (show ¬ ((11 : Nat) = 13 ∧ (τ 30 0 0 : Int) = 2 * τ 30 0 0) by omega), xup_n (show ¬ ((11 : Nat) = 12 ∧ (τ 30 0 0 : Int) = 2 * τ 30 0 0 + 1) by omega), xup_n (show ¬ ((11 : Nat) = 13 ∧ (τ 30 0 0 : Int) = 2 * τ 30 0 0 + 1) by omega), xup_n (show ¬ ((11 : Nat) = 1 ∧ (τ 30 0 0 : Int) = 0) by omega), xup_n (show ¬ ((11 : Nat) = 0 ∧ (τ 30 0 0 : Int) = 0) by omega)]
      rw [jG_11 (by omega), hr2, hr24, v3, v4, z1, z5]
      all_goals rfl
    by_cases c5 : k = 1 ∧ n9 = 0
    · rw [c5.1, c5.2]
      simp only [xup_s, xup_n (show ¬ ((1 : Nat) = 12 ∧ (0 : Int) = 2 * τ 30 0 0) by omega), xup_n (show ¬ ((1 : Nat) = 13 ∧ (0 : Int) = 2 * τ 30 0 0) by omega), xup_n (show ¬ ((1 : Nat) = 12 ∧ (0 : Int) = 2 * τ 30 0 0 + 1) by omega), xup_n (show ¬ ((1 : Nat) = 13 ∧ (0 : Int) = 2 * τ 30 0 0 + 1) by omega), xup_n (show ¬ ((1 : Nat) = 11 ∧ (0 : Int) = τ 30 0 0) by omega), xup_n (show ¬ ((1 : Nat) = 0 ∧ (0 : Int) = 0) by omega)]
      rw [jG_1 rfl, h30]
      congr 8
      funext j
      unfold va_up
      by_cases e : j = (τ 30 0 0).toNat
      · rw [if_pos e, if_pos (by omega), e, show (((τ 30 0 0).toNat : Nat) : Int) = τ 30 0 0 by omega]
      · rw [if_neg e]
        show (if (j : Int) < τ 30 0 0 then some (ad 11 (j : Int)) else none) = _
        by_cases e2 : (j : Int) < τ 30 0 0
        · rw [if_pos e2, if_pos (by omega), hk 11 (j : Int) (by omega)]
        · rw [if_neg e2, if_neg (by omega)]
    by_cases c6 : k = 0 ∧ n9 = 0
    · rw [c6.1, c6.2]
      simp only [xup_s, xup_n (show ¬ ((0 : Nat) = 12 ∧ (0 : Int) = 2 * τ 30 0 0) by omega), xup_n (show ¬ ((0 : Nat) = 13 ∧ (0 : Int) = 2 * τ 30 0 0) by omega), xup_n (show ¬ ((0 : Nat) = 12 ∧ (0 : Int) = 2 * τ 30 0 0 + 1) by omega), xup_n (show ¬ ((0 : Nat) = 13 ∧ (0 : Int) = 2 * τ 30 0 0 + 1) by omega), xup_n (show ¬ ((0 : Nat) = 11 ∧ (0 : Int) = τ 30 0 0) by omega), xup_n (show ¬ ((0 : Nat) = 1 ∧ (0 : Int) = 0) by omega)]
      rw [jG_0 rfl, h30, hr31, hr32, hr33, hr34, hr39, ha1, ha2, ha3, ha4, ha9]
      all_goals rfl
    simp only [xup_n c0, xup_n c1, xup_n c2, xup_n c3, xup_n c4, xup_n c5, xup_n c6]
    by_cases hm : 20 ≤ k
    · exact (jG_m hkp hm n9).symm
    have hl : k < 20 := by omega
    clear hm
    match k, hl with
    | (k + 20), h => exact absurd h (by omega)
    | 0, _ =>
      have d6 : n9 ≠ 0 := fun e => c6 ⟨rfl, e⟩
      clear c0 c1 c2 c3 c4 c5 c6
      show cG0 Y τ ad n9 = cG0 Y (addS τ) a2 n9
      unfold cG0
      rw [if_neg (by omega), if_neg (by omega)]
    | 1, _ =>
      have d5 : n9 ≠ 0 := fun e => c5 ⟨rfl, e⟩
      clear c0 c1 c2 c3 c4 c5 c6
      show cG1 Y τ ad n9 = cG1 Y (addS τ) a2 n9
      unfold cG1
      rw [if_neg (by omega), if_neg (by omega)]
    | 2, _ =>
      clear c0 c1 c2 c3 c4 c5 c6
      show cG2 Y τ ad n9 = cG2 Y (addS τ) a2 n9
      unfold cG2
      by_cases hh : n9 = 0
      · rw [if_pos hh, if_pos hh, hr31, ha14]
      · rw [if_neg hh, if_neg hh]
    | 3, _ =>
      clear c0 c1 c2 c3 c4 c5 c6
      show cG3 Y τ ad n9 = cG3 Y (addS τ) a2 n9
      unfold cG3
      by_cases hh : n9 = 0
      · rw [if_pos hh, if_pos hh, hr32, ha15]
      · rw [if_neg hh, if_neg hh]
    | 4, _ =>
      clear c0 c1 c2 c3 c4 c5 c6
      show cG4 Y τ ad n9 = cG4 Y (addS τ) a2 n9
      unfold cG4
      by_cases hh : n9 = 0
      · rw [if_pos hh, if_pos hh, ha5, ha6, ha7, ha8, hr41]
      · rw [if_neg hh, if_neg hh]
    | 5, _ =>
      clear c0 c1 c2 c3 c4 c5 c6
      show cG5 Y τ ad n9 = cG5 Y (addS τ) a2 n9
      unfold cG5
      by_cases hh : n9 = 0
      · rw [if_pos hh, if_pos hh, hr20]
      · rw [if_neg hh, if_neg hh]
    | 6, _ =>
      clear c0 c1 c2 c3 c4 c5 c6
      show cG6 Y τ ad n9 = cG6 Y (addS τ) a2 n9
      unfold cG6
      by_cases hh : n9 = 0
      · rw [if_pos hh, if_pos hh, hr21]
      · rw [if_neg hh, if_neg hh]
    | 7, _ =>
      clear c0 c1 c2 c3 c4 c5 c6
      show cG7 Y τ ad n9 = cG7 Y (addS τ) a2 n9
      unfold cG7
      by_cases hh : n9 = 0
      · rw [if_pos hh, if_pos hh, hr22]
      · rw [if_neg hh, if_neg hh]
    | 8, _ =>
      clear c0 c1 c2 c3 c4 c5 c6
      show cG8 Y τ ad n9 = cG8 Y (addS τ) a2 n9
      unfold cG8
      by_cases hh : n9 = 0
      · rw [if_pos hh, if_pos hh, hr23]
      · rw [if_neg hh, if_neg hh]
    | 9, _ =>
      clear c0 c1 c2 c3 c4 c5 c6
      show cG9 Y τ ad n9 = cG9 Y (addS τ) a2 n9
      unfold cG9
      unfold xpo
      by_cases hh : n9 = 0
      · rw [if_pos hh, if_pos hh, hr35, ha15, hr36, hr37, hr38, ha10]
      · rw [if_neg hh, if_neg hh]
    | 10, _ =>
      clear c0 c1 c2 c3 c4 c5 c6
      show cG10 Y τ ad n9 = cG10 Y (addS τ) a2 n9
      unfold cG10
      by_cases hh : n9 = 0
      · rw [if_pos hh, if_pos hh, hr18]
      · rw [if_neg hh, if_neg hh]
    | 11, _ =>
      have d4 : n9 ≠ τ 30 0 0 := fun e => c4 ⟨rfl, e⟩
      clear c0 c1 c2 c3 c4 c5 c6
      show cG11 Y τ ad n9 = cG11 Y (addS τ) a2 n9
      unfold cG11
      by_cases hh : 0 ≤ n9 ∧ n9 < τ 30 0 0
      · rw [if_pos hh, if_pos (by omega), hk 12 (2 * n9) (by omega), hk 12 (2 * n9 + 1) (by omega), hr2, hp3 (n9) (by omega), hr24, hp4 (n9) (by omega)]
      · rw [if_neg hh, if_neg (by omega)]
    | 12, _ =>
      have d0 : n9 ≠ 2 * τ 30 0 0 := fun e => c0 ⟨rfl, e⟩
      have d2 : n9 ≠ 2 * τ 30 0 0 + 1 := fun e => c2 ⟨rfl, e⟩
      clear c0 c1 c2 c3 c4 c5 c6
      show cG12 Y τ ad n9 = cG12 Y (addS τ) a2 n9
      unfold cG12
      by_cases hh : 0 ≤ n9 ∧ n9 < 2 * τ 30 0 0
      · rw [if_pos hh, if_pos (by omega), hk 13 (n9) (by omega), hr1]
      · rw [if_neg hh, if_neg (by omega)]
    | 13, _ =>
      have d1 : n9 ≠ 2 * τ 30 0 0 := fun e => c1 ⟨rfl, e⟩
      have d3 : n9 ≠ 2 * τ 30 0 0 + 1 := fun e => c3 ⟨rfl, e⟩
      clear c0 c1 c2 c3 c4 c5 c6
      show cG13 Y τ ad n9 = cG13 Y (addS τ) a2 n9
      unfold cG13
      by_cases hh : 0 ≤ n9 ∧ n9 < 2 * τ 30 0 0
      · rw [if_pos hh, if_pos (by omega), hr0]
      · rw [if_neg hh, if_neg (by omega)]
    | 14, _ =>
      clear c0 c1 c2 c3 c4 c5 c6
      show cG14 Y τ ad n9 = cG14 Y (addS τ) a2 n9
      unfold cG14
      by_cases hh : 0 ≤ n9 ∧ n9 < τ 31 0 0
      · rw [if_pos hh, if_pos (by omega), hr5, hk 11 (τ 5 n9 0) (by have := I.on n9 (by omega) (by omega); omega), hr6, hr7, hr8]
      · rw [if_neg hh, if_neg (by omega)]
    | 15, _ =>
      clear c0 c1 c2 c3 c4 c5 c6
      show cG15 Y τ ad n9 = cG15 Y (addS τ) a2 n9
      unfold cG15
      by_cases hh : 0 ≤ n9 ∧ n9 < τ 32 0 0
      · rw [if_pos hh, if_pos (by omega), hr9, hk 11 (τ 9 n9 0) (by have := I.od n9 (by omega) (by omega); omega), hr10, hr11, ha16, hr12, hr25, hr13]
      · rw [if_neg hh, if_neg (by omega)]
    | 16, _ =>
      clear c0 c1 c2 c3 c4 c5 c6
      show cG16 Y τ ad n9 = cG16 Y (addS τ) a2 n9
      unfold cG16
      by_cases hh : 0 ≤ n9 ∧ n9 < τ 32 0 0
      · rw [if_pos hh, if_pos (by omega), ha17]
      · rw [if_neg hh, if_neg (by omega)]
    | 17, _ =>
      clear c0 c1 c2 c3 c4 c5 c6
      show cG17 Y τ ad n9 = cG17 Y (addS τ) a2 n9
      unfold cG17
      by_cases hh : 0 ≤ n9 ∧ n9 < 3 * τ 32 0 0
      · rw [if_pos hh, if_pos (by omega), ha18, hr26, ha19, hr27, hr28]
      · rw [if_neg hh, if_neg (by omega)]
    | 18, _ =>
      clear c0 c1 c2 c3 c4 c5 c6
      show cG18 Y τ ad n9 = cG18 Y (addS τ) a2 n9
      unfold cG18
      by_cases hh : 0 ≤ n9 ∧ n9 < 3 * τ 32 0 0
      · rw [if_pos hh, if_pos (by omega), hr16]
      · rw [if_neg hh, if_neg (by omega)]
    | 19, _ =>
      clear c0 c1 c2 c3 c4 c5 c6
      show cG19 Y τ ad n9 = cG19 Y (addS τ) a2 n9
      unfold cG19
      by_cases hh : 0 ≤ n9 ∧ n9 < 3 * τ 32 0 0
      · rw [if_pos hh, if_pos (by omega), hr17]
      · rw [if_neg hh, if_neg (by omega)]
  · exact X_throw C M tw_X8_45_49 xs_X8_47 dX8_addDocument_8 dX8_addDocument_11 dX8_addDocument_12 dX8_addDocument_14 dX8_addDocument_17 (by decide) (by decide) (by decide) (by decide) ⟨by rw [show kAdd τ = 1 from by unfold kAdd; (repeat' split) <;> omega]; rfl, rfl, rfl⟩
