set_option maxRecDepth 100000 in
set_option maxHeartbeats 4000000 in
theorem c_X8_comment {lc : Launch} (hlc : lc.stackTraces = false) {D : va_G} {Y : Nat → ClassId} {A : Nat → Prop} {τ σ : xS} {ρ : xG} {ad : xL} {n z f t : Int} (I : xI n τ) (hz0 : rg z) (hz1 : rg f) (hz2 : rg t) : Ct lc yX8_comment cX8_comment 6 (some .int) (rmL 1 2 12) D Y A ad (jG Y τ σ ρ ad) [.ref (ad 0 0), .int (iI z), .int (iI f), .int (iI t)] (fun r ad2 g2 => kCom τ z f t = 0 ∧ r = some (.int (iI (τ 31 0 0))) ∧ xKp ad2 ad ∧ g2 = jG Y (comS τ z f t) σ ρ ad2) (pT (fun E => exn [nX, eI, eS] (kCom τ z f t) = some E) ad (jG Y τ σ ρ ad)) := by
  refine Ct_of hlc (by decide +kernel) rfl rfl (own := RX8) (nm := "comment") (l0 := [some (.ref (ad 0 0)), some (.int (iI z)), some (.int (iI f)), some (.int (iI t)), none, none]) rfl (Nat.le_of_ble_eq_true rfl) (fun κ C M => ?_)
  have Ind := I.nd
  have Inc := I.nc
  have Ino := I.no
  have In := I.n0
  refine X_aload_n C rfl dX8_comment_0 ?_
  refine X_iload_n C rfl dX8_comment_1 ?_
  refine X_callVC_1 C M (c_X8_documentOf C.hlc (by assumption) (by omega)) cv_X8_55 (jG_0 rfl) ⟨_, _, rfl⟩ rfl rfl dX8_comment_2 (fun E h => ⟨by obtain ⟨rfl, h⟩ := h; rw [show kCom τ z f t = 1 from by unfold kCom; (repeat' split) <;> omega]; rfl, rfl, rfl⟩) (fun h_2 => ?_)
  refine X_astore_4 C (by decide) rfl dX8_comment_5 ?_
  have k1 := I.sz (2 * z) 0
  refine X_iload_n C rfl dX8_comment_7 ?_
  refine X_if_lt C (tgt := 28) dX8_comment_8 (by decide) ⟨by omega, by omega⟩ (fun c_8 => ?_) (fun c_8 => ?_)
  · exact X_throw C M tw_X8_123_127 xs_X8_168 dX8_comment_28 dX8_comment_31 dX8_comment_32 dX8_comment_34 dX8_comment_37 (by decide) (by decide) (by decide) (by decide) ⟨by rw [show kCom τ z f t = 2 from by unfold kCom; (repeat' split) <;> omega]; rfl, rfl, rfl⟩
  · refine X_iload_n C rfl dX8_comment_11 ?_
    refine X_iload_n C rfl dX8_comment_12 ?_
    refine X_icmp_ge C (tgt := 28) dX8_comment_13 (by decide) ⟨by omega, by omega⟩ ⟨by omega, by omega⟩ (fun c_13 => ?_) (fun c_13 => ?_)
    · exact X_throw C M tw_X8_123_127 xs_X8_168 dX8_comment_28 dX8_comment_31 dX8_comment_32 dX8_comment_34 dX8_comment_37 (by decide) (by decide) (by decide) (by decide) ⟨by rw [show kCom τ z f t = 2 from by unfold kCom; (repeat' split) <;> omega]; rfl, rfl, rfl⟩
    · refine X_iload_n C rfl dX8_comment_16 ?_
      refine X_aload C rfl dX8_comment_17 ?_
      refine Xg_X1_text C (by omega) fl_X8_72 dX8_comment_19 ?_
      refine Xg_X7_size C (by omega) rfl fl_X8_76 dX8_comment_22 ?_
      refine X_icmp_le C (tgt := 38) dX8_comment_25 (by decide) ⟨by omega, by omega⟩ ⟨by omega, by omega⟩ (fun c_25 => ?_) (fun c_25 => ?_)
      · refine X_aload_n C rfl dX8_comment_38 ?_
        refine Xg_X8_commentCount C rfl fl_X8_151 dX8_comment_39 ?_
        refine X_bipush C ⟨by decide, by decide⟩ dX8_comment_42 ?_
        refine X_icmp_lt C (tgt := 57) dX8_comment_44 (by decide) ⟨by omega, by omega⟩ ⟨by omega, by omega⟩ (fun c_44 => ?_) (fun c_44 => ?_)
        · refine X_aload_n C rfl dX8_comment_57 ?_
          refine Xg_X8_commentCount C rfl fl_X8_151 dX8_comment_58 ?_
          refine X_istore_5 C (by decide) rfl dX8_comment_61 ?_
          refine X_aload_n C rfl dX8_comment_63 ?_
          refine Xg_X8_comments C fl_X8_17 dX8_comment_64 ?_
          refine X_iload C rfl dX8_comment_67 ?_
          have g0z := jG_0 (Y := Y) (τ := τ) (σ := σ) (ρ := ρ) (ad := ad) (n := 0) rfl
          have g2z := jG_2 (Y := Y) (τ := τ) (σ := σ) (ρ := ρ) (ad := ad) (n := 0) rfl
          have f0 : jG Y τ σ ρ ad 14 (τ 31 0 0) = none := by
            show cG14 Y τ ad _ = none
            unfold cG14
            exact if_neg (by omega)
          refine X_mkO C (k := 14) (n := τ 31 0 0) (fs := [.null, .int (iI 0), .int (iI 0), .int (iI 0)]) (by repeat (first | exact xup_s | assumption | rw [xup_n (by omega)])) xcl_X0 nw_X8_15 (fun j hj => match j, hj with | 0, _ => rfl | 1, _ => rfl | 2, _ => rfl | 3, _ => rfl | (j + 4), h => absurd h (by omega)) (by decide) (by decide) dX8_comment_69 (fun a1 o1 => ?_)
          try rw [← o1 0 (0) (by omega)]
          try rw [← o1 2 (0) (by omega)]
          try rw [← o1 11 (z) (by omega)]
          refine X_dup C rfl dX8_comment_72 ?_
          refine X_aload C rfl dX8_comment_73 ?_
          refine X_iload_n C rfl dX8_comment_75 ?_
          refine X_iload_n C rfl dX8_comment_76 ?_
          refine X_callIg C (c_X0_init C.hlc (c := τ 31 0 0) (by repeat (first | exact xup_s | assumption | rw [xup_n (by omega)]))) ci_X8_172 rfl rfl rfl rfl dX8_comment_77 (fun r9 a2 g9 hp => ?_)
          obtain ⟨rfl, e9, rfl⟩ := hp
          rw [e9]
          refine X_aast C (k := 2) (n := 0) (t := 5) (ci := 2) (r := (RX0, TX0, 4)) (k2 := 14) (n2 := τ 31 0 0) (by repeat (first | exact xup_s | assumption | rw [xup_n (by omega)])) rfl rfl (by repeat (first | exact xup_s | assumption | rw [xup_n (by omega)])) (by omega) (by omega) (by decide) dX8_comment_80 ?_
          refine X_aload_n C rfl dX8_comment_81 ?_
          refine X_dup C rfl dX8_comment_82 ?_
          refine X_get C (k := 0) (n := 0) (fs := [.ref (ad 1 (0)), .int (iI (τ 30 0 0)), .ref (ad 2 (0)), .int (iI (τ 31 0 0)), .ref (ad 3 (0)), .int (iI (τ 32 0 0)), .ref (ad 4 (0)), .ref (ad 9 (0)), .int (iI (τ 33 0 0)), .int (iI (τ 34 0 0)), .int (iI (τ 39 0 0))]) (v := .int (iI (τ 31 0 0))) (by repeat (first | exact xup_s | assumption | rw [xup_n (by omega)])) fl_X8_151 rfl dX8_comment_83 ?_
          refine X_iconst C dX8_comment_86 ?_
          refine X_iadd C dX8_comment_87 ?_
          refine X_put C (k := 0) (n := 0) (fs := [.ref (ad 1 (0)), .int (iI (τ 30 0 0)), .ref (ad 2 (0)), .int (iI (τ 31 0 0)), .ref (ad 3 (0)), .int (iI (τ 32 0 0)), .ref (ad 4 (0)), .ref (ad 9 (0)), .int (iI (τ 33 0 0)), .int (iI (τ 34 0 0)), .int (iI (τ 39 0 0))]) (by repeat (first | exact xup_s | assumption | rw [xup_n (by omega)])) fw_X8_151 rfl rfl (Nat.le_of_ble_eq_true rfl) dX8_comment_88 ?_
          refine X_iload C rfl dX8_comment_91 ?_
          have hk : ∀ k n9, ¬ (k = 14 ∧ n9 = τ 31 0 0) → a1 k n9 = ad k n9 := by
            intro k n9 h9
            rw [o1 k n9 (by omega)]
          refine X_ireturn C M rfl (by decide) (by decide) dX8_comment_93 ⟨(by unfold kCom; (repeat' split) <;> omega), rfl, (fun k n9 h9 => hk k n9 (by omega)), ?_⟩
          have hkp : xKp a1 ad := fun k n9 h9 => hk k n9 (by omega)
          have hr0 : (comS τ z f t) 0 = τ 0 := comS_r (by decide) (by decide) (by decide) (by decide) (by decide)
          have hr1 : (comS τ z f t) 1 = τ 1 := comS_r (by decide) (by decide) (by decide) (by decide) (by decide)
          have hr2 : (comS τ z f t) 2 = τ 2 := comS_r (by decide) (by decide) (by decide) (by decide) (by decide)
          have hr3 : (comS τ z f t) 3 = τ 3 := comS_r (by decide) (by decide) (by decide) (by decide) (by decide)
          have hr4 : (comS τ z f t) 4 = τ 4 := comS_r (by decide) (by decide) (by decide) (by decide) (by decide)
          have hr9 : (comS τ z f t) 9 = τ 9 := comS_r (by decide) (by decide) (by decide) (by decide) (by decide)
          have hr10 : (comS τ z f t) 10 = τ 10 := comS_r (by decide) (by decide) (by decide) (by decide) (by decide)
          have hr11 : (comS τ z f t) 11 = τ 11 := comS_r (by decide) (by decide) (by decide) (by decide) (by decide)
          have hr12 : (comS τ z f t) 12 = τ 12 := comS_r (by decide) (by decide) (by decide) (by decide) (by decide)
          have hr13 : (comS τ z f t) 13 = τ 13 := comS_r (by decide) (by decide) (by decide) (by decide) (by decide)
          have hr14 : (comS τ z f t) 14 = τ 14 := comS_r (by decide) (by decide) (by decide) (by decide) (by decide)
          have hr15 : (comS τ z f t) 15 = τ 15 := comS_r (by decide) (by decide) (by decide) (by decide) (by decide)
          have hr16 : (comS τ z f t) 16 = τ 16 := comS_r (by decide) (by decide) (by decide) (by decide) (by decide)
          have hr17 : (comS τ z f t) 17 = τ 17 := comS_r (by decide) (by decide) (by decide) (by decide) (by decide)
          have hr18 : (comS τ z f t) 18 = τ 18 := comS_r (by decide) (by decide) (by decide) (by decide) (by decide)
          have hr20 : (comS τ z f t) 20 = τ 20 := comS_r (by decide) (by decide) (by decide) (by decide) (by decide)
          have hr21 : (comS τ z f t) 21 = τ 21 := comS_r (by decide) (by decide) (by decide) (by decide) (by decide)
          have hr22 : (comS τ z f t) 22 = τ 22 := comS_r (by decide) (by decide) (by decide) (by decide) (by decide)
          have hr23 : (comS τ z f t) 23 = τ 23 := comS_r (by decide) (by decide) (by decide) (by decide) (by decide)
          have hr24 : (comS τ z f t) 24 = τ 24 := comS_r (by decide) (by decide) (by decide) (by decide) (by decide)
          have hr25 : (comS τ z f t) 25 = τ 25 := comS_r (by decide) (by decide) (by decide) (by decide) (by decide)
          have hr26 : (comS τ z f t) 26 = τ 26 := comS_r (by decide) (by decide) (by decide) (by decide) (by decide)
          have hr27 : (comS τ z f t) 27 = τ 27 := comS_r (by decide) (by decide) (by decide) (by decide) (by decide)
          have hr28 : (comS τ z f t) 28 = τ 28 := comS_r (by decide) (by decide) (by decide) (by decide) (by decide)
          have hr30 : (comS τ z f t) 30 = τ 30 := comS_r (by decide) (by decide) (by decide) (by decide) (by decide)
          have hr32 : (comS τ z f t) 32 = τ 32 := comS_r (by decide) (by decide) (by decide) (by decide) (by decide)
          have hr33 : (comS τ z f t) 33 = τ 33 := comS_r (by decide) (by decide) (by decide) (by decide) (by decide)
          have hr34 : (comS τ z f t) 34 = τ 34 := comS_r (by decide) (by decide) (by decide) (by decide) (by decide)
          have hr35 : (comS τ z f t) 35 = τ 35 := comS_r (by decide) (by decide) (by decide) (by decide) (by decide)
          have hr36 : (comS τ z f t) 36 = τ 36 := comS_r (by decide) (by decide) (by decide) (by decide) (by decide)
          have hr37 : (comS τ z f t) 37 = τ 37 := comS_r (by decide) (by decide) (by decide) (by decide) (by decide)
          have hr38 : (comS τ z f t) 38 = τ 38 := comS_r (by decide) (by decide) (by decide) (by decide) (by decide)
          have hr39 : (comS τ z f t) 39 = τ 39 := comS_r (by decide) (by decide) (by decide) (by decide) (by decide)
          have hr41 : (comS τ z f t) 41 = τ 41 := comS_r (by decide) (by decide) (by decide) (by decide) (by decide)
          have hp5 : ∀ i : Int, i ≠ τ 31 0 0 → (comS τ z f t) 5 i 0 = τ 5 i 0 := by
            intro i hi
            unfold comS
            simp (discharger := decide) only [up_r, up_n (show ¬ (i = τ 31 0 0 ∧ (0 : Int) = 0) by omega)]
          have hp6 : ∀ i : Int, i ≠ τ 31 0 0 → (comS τ z f t) 6 i 0 = τ 6 i 0 := by
            intro i hi
            unfold comS
            simp (discharger := decide) only [up_r, up_n (show ¬ (i = τ 31 0 0 ∧ (0 : Int) = 0) by omega)]
          have hp7 : ∀ i : Int, i ≠ τ 31 0 0 → (comS τ z f t) 7 i 0 = τ 7 i 0 := by
            intro i hi
            unfold comS
            simp (discharger := decide) only [up_r, up_n (show ¬ (i = τ 31 0 0 ∧ (0 : Int) = 0) by omega)]
          have hp8 : ∀ i : Int, i ≠ τ 31 0 0 → (comS τ z f t) 8 i 0 = τ 8 i 0 := by
            intro i hi
            unfold comS
            simp (discharger := decide) only [up_r, up_n (show ¬ (i = τ 31 0 0 ∧ (0 : Int) = 0) by omega)]
          have h30 : (comS τ z f t) 30 0 0 = τ 30 0 0 := by rw [hr30]
          have h31 : (comS τ z f t) 31 0 0 = τ 31 0 0 + 1 := by unfold comS; rw [up_s]
          have h32 : (comS τ z f t) 32 0 0 = τ 32 0 0 := by rw [hr32]
          have v5 : (comS τ z f t) 5 (τ 31 0 0) 0 = z := by unfold comS; simp (discharger := decide) only [up_r, up_s]
          have v6 : (comS τ z f t) 6 (τ 31 0 0) 0 = f := by unfold comS; simp (discharger := decide) only [up_r, up_s]
          have v7 : (comS τ z f t) 7 (τ 31 0 0) 0 = t := by unfold comS; simp (discharger := decide) only [up_r, up_s]
          have v8 : (comS τ z f t) 8 (τ 31 0 0) 0 = 1 := by unfold comS; simp (discharger := decide) only [up_r, up_s]
          have ha1 : a1 1 = ad 1 := funext fun n9 => hk 1 n9 (by omega)
          have ha2 : a1 2 = ad 2 := funext fun n9 => hk 2 n9 (by omega)
          have ha3 : a1 3 = ad 3 := funext fun n9 => hk 3 n9 (by omega)
          have ha4 : a1 4 = ad 4 := funext fun n9 => hk 4 n9 (by omega)
          have ha5 : a1 5 = ad 5 := funext fun n9 => hk 5 n9 (by omega)
          have ha6 : a1 6 = ad 6 := funext fun n9 => hk 6 n9 (by omega)
          have ha7 : a1 7 = ad 7 := funext fun n9 => hk 7 n9 (by omega)
          have ha8 : a1 8 = ad 8 := funext fun n9 => hk 8 n9 (by omega)
          have ha9 : a1 9 = ad 9 := funext fun n9 => hk 9 n9 (by omega)
          have ha10 : a1 10 = ad 10 := funext fun n9 => hk 10 n9 (by omega)
          have ha11 : a1 11 = ad 11 := funext fun n9 => hk 11 n9 (by omega)
          have ha12 : a1 12 = ad 12 := funext fun n9 => hk 12 n9 (by omega)
          have ha13 : a1 13 = ad 13 := funext fun n9 => hk 13 n9 (by omega)
          have ha15 : a1 15 = ad 15 := funext fun n9 => hk 15 n9 (by omega)
          have ha16 : a1 16 = ad 16 := funext fun n9 => hk 16 n9 (by omega)
          have ha17 : a1 17 = ad 17 := funext fun n9 => hk 17 n9 (by omega)
          have ha18 : a1 18 = ad 18 := funext fun n9 => hk 18 n9 (by omega)
          have ha19 : a1 19 = ad 19 := funext fun n9 => hk 19 n9 (by omega)
          funext k n9
          by_cases c0 : k = 14 ∧ n9 = τ 31 0 0
          · rw [c0.1, c0.2]
            simp only [xup_s, xup_n (show ¬ ((14 : Nat) = 2 ∧ (τ 31 0 0 : Int) = 0) by omega), xup_n (show ¬ ((14 : Nat) = 0 ∧ (τ 31 0 0 : Int) = 0) by omega)]
            rw [jG_14 (by omega), v5, v6, v7, v8]
            all_goals rfl
          by_cases c1 : k = 2 ∧ n9 = 0
          · rw [c1.1, c1.2]
            simp only [xup_s, xup_n (show ¬ ((2 : Nat) = 14 ∧ (0 : Int) = τ 31 0 0) by omega), xup_n (show ¬ ((2 : Nat) = 0 ∧ (0 : Int) = 0) by omega)]
            rw [jG_2 rfl, h31]
            congr 8
            funext j
            unfold va_up
            by_cases e : j = (τ 31 0 0).toNat
            · rw [if_pos e, if_pos (by omega), e, show (((τ 31 0 0).toNat : Nat) : Int) = τ 31 0 0 by omega]
            · rw [if_neg e]
              show (if (j : Int) < τ 31 0 0 then some (ad 14 (j : Int)) else none) = _
              by_cases e2 : (j : Int) < τ 31 0 0
              · rw [if_pos e2, if_pos (by omega), hk 14 (j : Int) (by omega)]
              · rw [if_neg e2, if_neg (by omega)]
          by_cases c2 : k = 0 ∧ n9 = 0
          · rw [c2.1, c2.2]
            simp only [xup_s, xup_n (show ¬ ((0 : Nat) = 14 ∧ (0 : Int) = τ 31 0 0) by omega), xup_n (show ¬ ((0 : Nat) = 2 ∧ (0 : Int) = 0) by omega)]
            rw [jG_0 rfl, h31, hr30, hr32, hr33, hr34, hr39, ha1, ha2, ha3, ha4, ha9]
            all_goals rfl
          simp only [xup_n c0, xup_n c1, xup_n c2]
          by_cases hm : 20 ≤ k
          · exact (jG_m hkp hm n9).symm
          have hl : k < 20 := by omega
          clear hm
          match k, hl with
          | (k + 20), h => exact absurd h (by omega)
          | 0, _ =>
            have d2 : n9 ≠ 0 := fun e => c2 ⟨rfl, e⟩
            clear c0 c1 c2
            show cG0 Y τ ad n9 = cG0 Y (comS τ z f t) a1 n9
            unfold cG0
            rw [if_neg (by omega), if_neg (by omega)]
          | 1, _ =>
            clear c0 c1 c2
            show cG1 Y τ ad n9 = cG1 Y (comS τ z f t) a1 n9
            unfold cG1
            by_cases hh : n9 = 0
            · rw [if_pos hh, if_pos hh, hr30, ha11]
            · rw [if_neg hh, if_neg hh]
          | 2, _ =>
            have d1 : n9 ≠ 0 := fun e => c1 ⟨rfl, e⟩
            clear c0 c1 c2
            show cG2 Y τ ad n9 = cG2 Y (comS τ z f t) a1 n9
            unfold cG2
            rw [if_neg (by omega), if_neg (by omega)]
          | 3, _ =>
            clear c0 c1 c2
            show cG3 Y τ ad n9 = cG3 Y (comS τ z f t) a1 n9
            unfold cG3
            by_cases hh : n9 = 0
            · rw [if_pos hh, if_pos hh, hr32, ha15]
            · rw [if_neg hh, if_neg hh]
          | 4, _ =>
            clear c0 c1 c2
            show cG4 Y τ ad n9 = cG4 Y (comS τ z f t) a1 n9
            unfold cG4
            by_cases hh : n9 = 0
            · rw [if_pos hh, if_pos hh, ha5, ha6, ha7, ha8, hr41]
            · rw [if_neg hh, if_neg hh]
          | 5, _ =>
            clear c0 c1 c2
            show cG5 Y τ ad n9 = cG5 Y (comS τ z f t) a1 n9
            unfold cG5
            by_cases hh : n9 = 0
            · rw [if_pos hh, if_pos hh, hr20]
            · rw [if_neg hh, if_neg hh]
          | 6, _ =>
            clear c0 c1 c2
            show cG6 Y τ ad n9 = cG6 Y (comS τ z f t) a1 n9
            unfold cG6
            by_cases hh : n9 = 0
            · rw [if_pos hh, if_pos hh, hr21]
            · rw [if_neg hh, if_neg hh]
          | 7, _ =>
            clear c0 c1 c2
            show cG7 Y τ ad n9 = cG7 Y (comS τ z f t) a1 n9
            unfold cG7
            by_cases hh : n9 = 0
            · rw [if_pos hh, if_pos hh, hr22]
            · rw [if_neg hh, if_neg hh]
          | 8, _ =>
            clear c0 c1 c2
            show cG8 Y τ ad n9 = cG8 Y (comS τ z f t) a1 n9
            unfold cG8
            by_cases hh : n9 = 0
            · rw [if_pos hh, if_pos hh, hr23]
            · rw [if_neg hh, if_neg hh]
          | 9, _ =>
            clear c0 c1 c2
            show cG9 Y τ ad n9 = cG9 Y (comS τ z f t) a1 n9
            unfold cG9
            unfold xpo
            by_cases hh : n9 = 0
            · rw [if_pos hh, if_pos hh, hr35, ha15, hr36, hr37, hr38, ha10]
            · rw [if_neg hh, if_neg hh]
          | 10, _ =>
            clear c0 c1 c2
            show cG10 Y τ ad n9 = cG10 Y (comS τ z f t) a1 n9
            unfold cG10
            by_cases hh : n9 = 0
            · rw [if_pos hh, if_pos hh, hr18]
            · rw [if_neg hh, if_neg hh]
          | 11, _ =>
            clear c0 c1 c2
            show cG11 Y τ ad n9 = cG11 Y (comS τ z f t) a1 n9
            unfold cG11
            by_cases hh : 0 ≤ n9 ∧ n9 < τ 30 0 0
            · rw [if_pos hh, if_pos (by omega), ha12, hr2, hr3, hr24, hr4]
            · rw [if_neg hh, if_neg (by omega)]
          | 12, _ =>
            clear c0 c1 c2
            show cG12 Y τ ad n9 = cG12 Y (comS τ z f t) a1 n9
            unfold cG12
            by_cases hh : 0 ≤ n9 ∧ n9 < 2 * τ 30 0 0
            · rw [if_pos hh, if_pos (by omega), ha13, hr1]
            · rw [if_neg hh, if_neg (by omega)]
          | 13, _ =>
            clear c0 c1 c2
            show cG13 Y τ ad n9 = cG13 Y (comS τ z f t) a1 n9
            unfold cG13
            by_cases hh : 0 ≤ n9 ∧ n9 < 2 * τ 30 0 0
            · rw [if_pos hh, if_pos (by omega), hr0]
            · rw [if_neg hh, if_neg (by omega)]
          | 14, _ =>
            have d0 : n9 ≠ τ 31 0 0 := fun e => c0 ⟨rfl, e⟩
            clear c0 c1 c2
            show cG14 Y τ ad n9 = cG14 Y (comS τ z f t) a1 n9
            unfold cG14
            by_cases hh : 0 ≤ n9 ∧ n9 < τ 31 0 0
            · rw [if_pos hh, if_pos (by omega), hp5 (n9) (by omega), ha11, hp6 (n9) (by omega), hp7 (n9) (by omega), hp8 (n9) (by omega)]
            · rw [if_neg hh, if_neg (by omega)]
          | 15, _ =>
            clear c0 c1 c2
            show cG15 Y τ ad n9 = cG15 Y (comS τ z f t) a1 n9
            unfold cG15
            by_cases hh : 0 ≤ n9 ∧ n9 < τ 32 0 0
            · rw [if_pos hh, if_pos (by omega), hr9, ha11, hr10, hr11, ha16, hr12, hr25, hr13]
            · rw [if_neg hh, if_neg (by omega)]
          | 16, _ =>
            clear c0 c1 c2
            show cG16 Y τ ad n9 = cG16 Y (comS τ z f t) a1 n9
            unfold cG16
            by_cases hh : 0 ≤ n9 ∧ n9 < τ 32 0 0
            · rw [if_pos hh, if_pos (by omega), ha17]
            · rw [if_neg hh, if_neg (by omega)]
          | 17, _ =>
            clear c0 c1 c2
            show cG17 Y τ ad n9 = cG17 Y (comS τ z f t) a1 n9
            unfold cG17
            by_cases hh : 0 ≤ n9 ∧ n9 < 3 * τ 32 0 0
            · rw [if_pos hh, if_pos (by omega), ha18, hr26, ha19, hr27, hr28]
            · rw [if_neg hh, if_neg (by omega)]
          | 18, _ =>
            clear c0 c1 c2
            show cG18 Y τ ad n9 = cG18 Y (comS τ z f t) a1 n9
            unfold cG18
            by_cases hh : 0 ≤ n9 ∧ n9 < 3 * τ 32 0 0
            · rw [if_pos hh, if_pos (by omega), hr16]
            · rw [if_neg hh, if_neg (by omega)]
          | 19, _ =>
            clear c0 c1 c2
            show cG19 Y τ ad n9 = cG19 Y (comS τ z f t) a1 n9
            unfold cG19
            by_cases hh : 0 ≤ n9 ∧ n9 < 3 * τ 32 0 0
            · rw [if_pos hh, if_pos (by omega), hr17]
            · rw [if_neg hh, if_neg (by omega)]
        · exact X_throw C M tw_X8_45_49 xs_X8_170 dX8_comment_47 dX8_comment_50 dX8_comment_51 dX8_comment_53 dX8_comment_56 (by decide) (by decide) (by decide) (by decide) ⟨by rw [show kCom τ z f t = 3 from by unfold kCom; (repeat' split) <;> omega]; rfl, rfl, rfl⟩
      · exact X_throw C M tw_X8_123_127 xs_X8_168 dX8_comment_28 dX8_comment_31 dX8_comment_32 dX8_comment_34 dX8_comment_37 (by decide) (by decide) (by decide) (by decide) ⟨by rw [show kCom τ z f t = 2 from by unfold kCom; (repeat' split) <;> omega]; rfl, rfl, rfl⟩
