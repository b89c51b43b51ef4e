set_option maxRecDepth 100000 in
set_option maxHeartbeats 4000000 in
theorem c_X8_order {lc : Launch} (hlc : lc.stackTraces = false) {D : va_G} {Y : Nat → ClassId} {A : Nat → Prop} {τ σ : xS} {ρ : xG} {ad : xL} {n z c u : Int} (I : xI n τ) (hz0 : rg z) (hz1 : rg c) (hz2 : rg u) : Ct lc yX8_order cX8_order 6 (some .int) (rmL 6 12 224) D Y A ad (jG Y τ σ ρ ad) [.ref (ad 0 0), .int (iI z), .int (iI c), .int (iI u)] (fun r ad2 g2 => kOrd τ z c u = 0 ∧ r = some (.int (iI (τ 32 0 0))) ∧ xKp ad2 ad ∧ g2 = jG Y (ordS τ z c u) σ ρ ad2) (pT (fun E => exn [nX, eA, eS, eU] (kOrd τ z c u) = some E) ad (jG Y τ σ ρ ad)) := by
  refine Ct_of hlc (by decide +kernel) rfl rfl (own := RX8) (nm := "order") (l0 := [some (.ref (ad 0 0)), some (.int (iI z)), some (.int (iI c)), some (.int (iI u)), none, none]) rfl (Nat.le_of_ble_eq_true rfl) (fun κ C M => ?_)
  have Ind := I.nd
  have Inc := I.nc
  have Ino := I.no
  have In := I.n0
  refine X_aload_n C rfl dX8_order_0 ?_
  refine X_iload_n C rfl dX8_order_1 ?_
  refine X_callVC_1 C M (c_X8_documentOf C.hlc (by assumption) (by omega)) cv_X8_55 (jG_0 rfl) ⟨_, _, rfl⟩ rfl rfl dX8_order_2 (fun E h => ⟨by obtain ⟨rfl, h⟩ := h; rw [show kOrd τ z c u = 1 from by unfold kOrd; (repeat' split) <;> omega]; rfl, rfl, rfl⟩) (fun h_2 => ?_)
  refine X_astore_4 C (by decide) rfl dX8_order_5 ?_
  refine X_iload_n C rfl dX8_order_7 ?_
  refine X_iconst C dX8_order_8 ?_
  refine X_icmp_lt C (tgt := 30) dX8_order_9 (by decide) ⟨by omega, by omega⟩ ⟨by omega, by omega⟩ (fun c_9 => ?_) (fun c_9 => ?_)
  · exact X_throw C M tw_X8_67_71 xs_X8_252 dX8_order_30 dX8_order_33 dX8_order_34 dX8_order_36 dX8_order_39 (by decide) (by decide) (by decide) (by decide) ⟨by rw [show kOrd τ z c u = 2 from by unfold kOrd; (repeat' split) <;> omega]; rfl, rfl, rfl⟩
  · refine X_iload_n C rfl dX8_order_12 ?_
    refine X_sipush C ⟨by decide, by decide⟩ dX8_order_13 ?_
    refine X_icmp_gt C (tgt := 30) dX8_order_16 (by decide) ⟨by omega, by omega⟩ ⟨by omega, by omega⟩ (fun c_16 => ?_) (fun c_16 => ?_)
    · exact X_throw C M tw_X8_67_71 xs_X8_252 dX8_order_30 dX8_order_33 dX8_order_34 dX8_order_36 dX8_order_39 (by decide) (by decide) (by decide) (by decide) ⟨by rw [show kOrd τ z c u = 2 from by unfold kOrd; (repeat' split) <;> omega]; rfl, rfl, rfl⟩
    · refine X_iload_n C rfl dX8_order_19 ?_
      refine X_if_lt C (tgt := 30) dX8_order_20 (by decide) ⟨by omega, by omega⟩ (fun c_20 => ?_) (fun c_20 => ?_)
      · exact X_throw C M tw_X8_67_71 xs_X8_252 dX8_order_30 dX8_order_33 dX8_order_34 dX8_order_36 dX8_order_39 (by decide) (by decide) (by decide) (by decide) ⟨by rw [show kOrd τ z c u = 2 from by unfold kOrd; (repeat' split) <;> omega]; rfl, rfl, rfl⟩
      · refine X_iload_n C rfl dX8_order_23 ?_
        refine X_sipush C ⟨by decide, by decide⟩ dX8_order_24 ?_
        refine X_icmp_le C (tgt := 40) dX8_order_27 (by decide) ⟨by omega, by omega⟩ ⟨by omega, by omega⟩ (fun c_27 => ?_) (fun c_27 => ?_)
        · have k1 := I.sb z
          have k2 := mul_b (x := c) (y := shT τ z) (a := 500) (b := 3) (by omega) k1
          have k3 := frA_b I Ino.1 Ino.2
          refine X_aload C rfl dX8_order_40 ?_
          refine X_callVE_0 C (c_X1_hasProof C.hlc (by omega) (by omega) (by have := I.pv z 0; omega)) cv_X8_242 (jG_11 (by omega)) ⟨_, _, rfl⟩ rfl rfl dX8_order_42 ?_
          refine X_if_eqB C (tgt := 57) dX8_order_45 (by decide) (fun c_45 => ?_) (fun c_45 => ?_)
          · exact X_throwW C M tw_X8_45_49 xs_X8_266 dX8_order_57 dX8_order_60 dX8_order_61 dX8_order_64 dX8_order_67 (by decide) (by decide) (by decide) (by decide) ⟨by rw [show kOrd τ z c u = 3 from by unfold kOrd; (repeat' split) <;> omega]; rfl, rfl, rfl⟩
          · refine X_aload_n C rfl dX8_order_48 ?_
            refine Xg_X8_orderCount C rfl fl_X8_263 dX8_order_49 ?_
            refine X_bipush C ⟨by decide, by decide⟩ dX8_order_52 ?_
            refine X_icmp_lt C (tgt := 68) dX8_order_54 (by decide) ⟨by omega, by omega⟩ ⟨by omega, by omega⟩ (fun c_54 => ?_) (fun c_54 => ?_)
            · refine X_iload_n C rfl dX8_order_68 ?_
              refine X_aload C rfl dX8_order_69 ?_
              refine Xg_X1_proofSheets C (by omega) (v := shT τ z) (I.sh z) fl_X8_216 dX8_order_71 ?_
              refine X_imul C dX8_order_74 ?_
              refine X_aload_n C rfl dX8_order_75 ?_
              refine X_callVE_0 C (c_X8_freePaper C.hlc (by assumption)) cv_X8_268 (jG_0 rfl) ⟨_, _, rfl⟩ rfl rfl dX8_order_76 ?_
              refine X_icmp_le C (tgt := 93) dX8_order_79 (by decide) ⟨by omega, by omega⟩ ⟨by omega, by omega⟩ (fun c_79 => ?_) (fun c_79 => ?_)
              · refine X_aload_n C rfl dX8_order_93 ?_
                refine Xg_X8_orderCount C rfl fl_X8_263 dX8_order_94 ?_
                refine X_istore_5 C (by decide) rfl dX8_order_97 ?_
                refine X_aload_n C rfl dX8_order_99 ?_
                refine Xg_X8_orders C fl_X8_23 dX8_order_100 ?_
                refine X_iload C rfl dX8_order_103 ?_
                have g0z := jG_0 (Y := Y) (τ := τ) (σ := σ) (ρ := ρ) (ad := ad) (n := 0) rfl
                have g3z := jG_3 (Y := Y) (τ := τ) (σ := σ) (ρ := ρ) (ad := ad) (n := 0) rfl
                have f0 : jG Y τ σ ρ ad 15 (τ 32 0 0) = none := by
                  show cG15 Y τ ad _ = none
                  unfold cG15
                  exact if_neg (by omega)
                have f1 : jG Y τ σ ρ ad 16 (τ 32 0 0) = none := by
                  show cG16 Y τ ad _ = none
                  unfold cG16
                  exact if_neg (by omega)
                have f2 : jG Y τ σ ρ ad 17 (3 * τ 32 0 0 + 0) = none := by
                  show cG17 Y τ ad _ = none
                  unfold cG17
                  exact if_neg (by omega)
                have f3 : jG Y τ σ ρ ad 18 (3 * τ 32 0 0 + 0) = none := by
                  show cG18 Y τ ad _ = none
                  unfold cG18
                  exact if_neg (by omega)
                have f4 : jG Y τ σ ρ ad 19 (3 * τ 32 0 0 + 0) = none := by
                  show cG19 Y τ ad _ = none
                  unfold cG19
                  exact if_neg (by omega)
                have f5 : jG Y τ σ ρ ad 17 (3 * τ 32 0 0 + 1) = none := by
                  show cG17 Y τ ad _ = none
                  unfold cG17
                  exact if_neg (by omega)
                have f6 : jG Y τ σ ρ ad 18 (3 * τ 32 0 0 + 1) = none := by
                  show cG18 Y τ ad _ = none
                  unfold cG18
                  exact if_neg (by omega)
                have f7 : jG Y τ σ ρ ad 19 (3 * τ 32 0 0 + 1) = none := by
                  show cG19 Y τ ad _ = none
                  unfold cG19
                  exact if_neg (by omega)
                have f8 : jG Y τ σ ρ ad 17 (3 * τ 32 0 0 + 2) = none := by
                  show cG17 Y τ ad _ = none
                  unfold cG17
                  exact if_neg (by omega)
                have f9 : jG Y τ σ ρ ad 18 (3 * τ 32 0 0 + 2) = none := by
                  show cG18 Y τ ad _ = none
                  unfold cG18
                  exact if_neg (by omega)
                have f10 : jG Y τ σ ρ ad 19 (3 * τ 32 0 0 + 2) = none := by
                  show cG19 Y τ ad _ = none
                  unfold cG19
                  exact if_neg (by omega)
                refine X_mkO C (k := 15) (n := τ 32 0 0) (fs := [.int (iI 0), .null, .int (iI 0), .int (iI 0), .null, .int (iI 0), .int (iI 0), .int (iI 0)]) (by repeat (first | exact xup_s | assumption | rw [xup_n (by omega)])) xcl_X4 nw_X8_21 (fun j hj => match j, hj with | 0, _ => rfl | 1, _ => rfl | 2, _ => rfl | 3, _ => rfl | 4, _ => rfl | 5, _ => rfl | 6, _ => rfl | 7, _ => rfl | (j + 8), h => absurd h (by omega)) (by decide) (by decide) dX8_order_105 (fun a1 o1 => ?_)
                try rw [← o1 0 (0) (by omega)]
                try rw [← o1 3 (0) (by omega)]
                try rw [← o1 11 (z) (by omega)]
                refine X_dup C rfl dX8_order_108 ?_
                refine X_iload C rfl dX8_order_109 ?_
                refine X_aload C rfl dX8_order_111 ?_
                refine X_iload_n C rfl dX8_order_113 ?_
                refine X_iload_n C rfl dX8_order_114 ?_
                refine X_callIg C (c_X4_init C.hlc (o := τ 32 0 0) (by repeat (first | exact xup_s | assumption | rw [xup_n (by omega)])) (by repeat (first | exact xup_s | assumption | rw [xup_n (by omega)])) (by repeat (first | exact xup_s | assumption | rw [xup_n (by omega)])) (by repeat (first | exact xup_s | assumption | rw [xup_n (by omega)])) (by repeat (first | exact xup_s | assumption | rw [xup_n (by omega)])) (by repeat (first | exact xup_s | assumption | rw [xup_n (by omega)])) (by repeat (first | exact xup_s | assumption | rw [xup_n (by omega)])) (by repeat (first | exact xup_s | assumption | rw [xup_n (by omega)])) (by repeat (first | exact xup_s | assumption | rw [xup_n (by omega)])) (by repeat (first | exact xup_s | assumption | rw [xup_n (by omega)])) (by repeat (first | exact xup_s | assumption | rw [xup_n (by omega)]))) ci_X8_274 rfl rfl rfl rfl dX8_order_115 (fun r9 a2 g9 hp => ?_)
                obtain ⟨rfl, o2, rfl⟩ := hp
                try rw [← o2 0 (0) (by omega)]
                try rw [← o2 3 (0) (by omega)]
                try rw [← o2 11 (z) (by omega)]
                try rw [← o2 15 (τ 32 0 0) (by omega)]
                refine X_aast C (k := 3) (n := 0) (t := 6) (ci := 5) (r := (RX4, TX4, 8)) (k2 := 15) (n2 := τ 32 0 0) (by repeat (first | exact xup_s | assumption | rw [xup_n (by omega)])) rfl rfl (by repeat (first | exact xup_s | assumption | rw [xup_n (by omega)])) (by omega) (by omega) (by decide) dX8_order_118 ?_
                refine X_aload_n C rfl dX8_order_119 ?_
                refine X_dup C rfl dX8_order_120 ?_
                refine X_get C (k := 0) (n := 0) (fs := [.ref (ad 1 (0)), .int (iI (τ 30 0 0)), .ref (ad 2 (0)), .int (iI (τ 31 0 0)), .ref (ad 3 (0)), .int (iI (τ 32 0 0)), .ref (ad 4 (0)), .ref (ad 9 (0)), .int (iI (τ 33 0 0)), .int (iI (τ 34 0 0)), .int (iI (τ 39 0 0))]) (v := .int (iI (τ 32 0 0))) (by repeat (first | exact xup_s | assumption | rw [xup_n (by omega)])) fl_X8_263 rfl dX8_order_121 ?_
                refine X_iconst C dX8_order_124 ?_
                refine X_iadd C dX8_order_125 ?_
                refine X_put C (k := 0) (n := 0) (fs := [.ref (ad 1 (0)), .int (iI (τ 30 0 0)), .ref (ad 2 (0)), .int (iI (τ 31 0 0)), .ref (ad 3 (0)), .int (iI (τ 32 0 0)), .ref (ad 4 (0)), .ref (ad 9 (0)), .int (iI (τ 33 0 0)), .int (iI (τ 34 0 0)), .int (iI (τ 39 0 0))]) (by repeat (first | exact xup_s | assumption | rw [xup_n (by omega)])) fw_X8_263 rfl rfl (Nat.le_of_ble_eq_true rfl) dX8_order_126 ?_
                refine X_iload C rfl dX8_order_129 ?_
                have hk : ∀ k n9, ¬ ((k = 15 ∨ k = 16) ∧ n9 = τ 32 0 0 ∨ (k = 17 ∨ k = 18 ∨ k = 19) ∧ (n9 = 3 * τ 32 0 0 ∨ n9 = 3 * τ 32 0 0 + 1 ∨ n9 = 3 * τ 32 0 0 + 2)) → a2 k n9 = ad k n9 := by
                  intro k n9 h9
                  rw [o2 k n9 (by omega)]
                  rw [o1 k n9 (by omega)]
                refine X_ireturn C M rfl (by decide) (by decide) dX8_order_131 ⟨(by unfold kOrd; (repeat' split) <;> omega), rfl, (fun k n9 h9 => hk k n9 (by omega)), ?_⟩
                have hkp : xKp a2 ad := fun k n9 h9 => hk k n9 (by omega)
                have hr0 : (ordS τ z c u) 0 = τ 0 := ordS_r (by decide) (by decide) (by decide) (by decide)
                have hr1 : (ordS τ z c u) 1 = τ 1 := ordS_r (by decide) (by decide) (by decide) (by decide)
                have hr2 : (ordS τ z c u) 2 = τ 2 := ordS_r (by decide) (by decide) (by decide) (by decide)
                have hr3 : (ordS τ z c u) 3 = τ 3 := ordS_r (by decide) (by decide) (by decide) (by decide)
                have hr4 : (ordS τ z c u) 4 = τ 4 := ordS_r (by decide) (by decide) (by decide) (by decide)
                have hr5 : (ordS τ z c u) 5 = τ 5 := ordS_r (by decide) (by decide) (by decide) (by decide)
                have hr6 : (ordS τ z c u) 6 = τ 6 := ordS_r (by decide) (by decide) (by decide) (by decide)
                have hr7 : (ordS τ z c u) 7 = τ 7 := ordS_r (by decide) (by decide) (by decide) (by decide)
                have hr8 : (ordS τ z c u) 8 = τ 8 := ordS_r (by decide) (by decide) (by decide) (by decide)
                have hr12 : (ordS τ z c u) 12 = τ 12 := ordS_r (by decide) (by decide) (by decide) (by decide)
                have hr13 : (ordS τ z c u) 13 = τ 13 := ordS_r (by decide) (by decide) (by decide) (by decide)
                have hr14 : (ordS τ z c u) 14 = τ 14 := ordS_r (by decide) (by decide) (by decide) (by decide)
                have hr15 : (ordS τ z c u) 15 = τ 15 := ordS_r (by decide) (by decide) (by decide) (by decide)
                have hr16 : (ordS τ z c u) 16 = τ 16 := ordS_r (by decide) (by decide) (by decide) (by decide)
                have hr17 : (ordS τ z c u) 17 = τ 17 := ordS_r (by decide) (by decide) (by decide) (by decide)
                have hr18 : (ordS τ z c u) 18 = τ 18 := ordS_r (by decide) (by decide) (by decide) (by decide)
                have hr20 : (ordS τ z c u) 20 = τ 20 := ordS_r (by decide) (by decide) (by decide) (by decide)
                have hr21 : (ordS τ z c u) 21 = τ 21 := ordS_r (by decide) (by decide) (by decide) (by decide)
                have hr22 : (ordS τ z c u) 22 = τ 22 := ordS_r (by decide) (by decide) (by decide) (by decide)
                have hr23 : (ordS τ z c u) 23 = τ 23 := ordS_r (by decide) (by decide) (by decide) (by decide)
                have hr24 : (ordS τ z c u) 24 = τ 24 := ordS_r (by decide) (by decide) (by decide) (by decide)
                have hr25 : (ordS τ z c u) 25 = τ 25 := ordS_r (by decide) (by decide) (by decide) (by decide)
                have hr26 : (ordS τ z c u) 26 = τ 26 := ordS_r (by decide) (by decide) (by decide) (by decide)
                have hr27 : (ordS τ z c u) 27 = τ 27 := ordS_r (by decide) (by decide) (by decide) (by decide)
                have hr28 : (ordS τ z c u) 28 = τ 28 := ordS_r (by decide) (by decide) (by decide) (by decide)
                have hr30 : (ordS τ z c u) 30 = τ 30 := ordS_r (by decide) (by decide) (by decide) (by decide)
                have hr31 : (ordS τ z c u) 31 = τ 31 := ordS_r (by decide) (by decide) (by decide) (by decide)
                have hr33 : (ordS τ z c u) 33 = τ 33 := ordS_r (by decide) (by decide) (by decide) (by decide)
                have hr34 : (ordS τ z c u) 34 = τ 34 := ordS_r (by decide) (by decide) (by decide) (by decide)
                have hr35 : (ordS τ z c u) 35 = τ 35 := ordS_r (by decide) (by decide) (by decide) (by decide)
                have hr36 : (ordS τ z c u) 36 = τ 36 := ordS_r (by decide) (by decide) (by decide) (by decide)
                have hr37 : (ordS τ z c u) 37 = τ 37 := ordS_r (by decide) (by decide) (by decide) (by decide)
                have hr38 : (ordS τ z c u) 38 = τ 38 := ordS_r (by decide) (by decide) (by decide) (by decide)
                have hr39 : (ordS τ z c u) 39 = τ 39 := ordS_r (by decide) (by decide) (by decide) (by decide)
                have hr41 : (ordS τ z c u) 41 = τ 41 := ordS_r (by decide) (by decide) (by decide) (by decide)
                have hp9 : ∀ i : Int, i ≠ τ 32 0 0 → (ordS τ z c u) 9 i 0 = τ 9 i 0 := by
                  intro i hi
                  unfold ordS
                  simp (discharger := decide) only [up_r, up_n (show ¬ (i = τ 32 0 0 ∧ (0 : Int) = 0) by omega)]
                have hp10 : ∀ i : Int, i ≠ τ 32 0 0 → (ordS τ z c u) 10 i 0 = τ 10 i 0 := by
                  intro i hi
                  unfold ordS
                  simp (discharger := decide) only [up_r, up_n (show ¬ (i = τ 32 0 0 ∧ (0 : Int) = 0) by omega)]
                have hp11 : ∀ i : Int, i ≠ τ 32 0 0 → (ordS τ z c u) 11 i 0 = τ 11 i 0 := by
                  intro i hi
                  unfold ordS
                  simp (discharger := decide) only [up_r, up_n (show ¬ (i = τ 32 0 0 ∧ (0 : Int) = 0) by omega)]
                have h30 : (ordS τ z c u) 30 0 0 = τ 30 0 0 := by rw [hr30]
                have h31 : (ordS τ z c u) 31 0 0 = τ 31 0 0 := by rw [hr31]
                have h32 : (ordS τ z c u) 32 0 0 = τ 32 0 0 + 1 := by unfold ordS; rw [up_s]
                have v9 : (ordS τ z c u) 9 (τ 32 0 0) 0 = z := by unfold ordS; simp (discharger := decide) only [up_r, up_s]
                have v10 : (ordS τ z c u) 10 (τ 32 0 0) 0 = c := by unfold ordS; simp (discharger := decide) only [up_r, up_s]
                have v11 : (ordS τ z c u) 11 (τ 32 0 0) 0 = u := by unfold ordS; simp (discharger := decide) only [up_r, up_s]
                obtain ⟨w12, w13⟩ := I.vo (τ 32 0 0) (Int.le_refl _)
                obtain ⟨y0, s0, q0, x0⟩ := I.vi (3 * τ 32 0 0 + 0) (by omega)
                obtain ⟨y1, s1, q1, x1⟩ := I.vi (3 * τ 32 0 0 + 1) (by omega)
                obtain ⟨y2, s2, q2, x2⟩ := I.vi (3 * τ 32 0 0 + 2) (by omega)
                have p0 : τ 26 (3 * τ 32 0 0 + 0) 0 = 0 := by rw [I.ip, if_pos y0]
                have p1 : τ 26 (3 * τ 32 0 0 + 1) 0 = 0 := by rw [I.ip, if_pos y1]
                have p2 : τ 26 (3 * τ 32 0 0 + 2) 0 = 0 := by rw [I.ip, if_pos y2]
                have w25 : τ 25 (τ 32 0 0) 0 = 0 := by rw [I.wa]; unfold wsA; rw [(I.vi (3 * τ 32 0 0) (Int.le_refl _)).1, y1, y2]; exact Int.mul_zero _
                have ha1 : a2 1 = ad 1 := funext fun n9 => hk 1 n9 (by omega)
                have ha2 : a2 2 = ad 2 := funext fun n9 => hk 2 n9 (by omega)
                have ha3 : a2 3 = ad 3 := funext fun n9 => hk 3 n9 (by omega)
                have ha4 : a2 4 = ad 4 := funext fun n9 => hk 4 n9 (by omega)
                have ha5 : a2 5 = ad 5 := funext fun n9 => hk 5 n9 (by omega)
                have ha6 : a2 6 = ad 6 := funext fun n9 => hk 6 n9 (by omega)
                have ha7 : a2 7 = ad 7 := funext fun n9 => hk 7 n9 (by omega)
                have ha8 : a2 8 = ad 8 := funext fun n9 => hk 8 n9 (by omega)
                have ha9 : a2 9 = ad 9 := funext fun n9 => hk 9 n9 (by omega)
                have ha10 : a2 10 = ad 10 := funext fun n9 => hk 10 n9 (by omega)
                have ha11 : a2 11 = ad 11 := funext fun n9 => hk 11 n9 (by omega)
                have ha12 : a2 12 = ad 12 := funext fun n9 => hk 12 n9 (by omega)
                have ha13 : a2 13 = ad 13 := funext fun n9 => hk 13 n9 (by omega)
                have ha14 : a2 14 = ad 14 := funext fun n9 => hk 14 n9 (by omega)
                funext k n9
                by_cases c0 : k = 15 ∧ n9 = τ 32 0 0
                · rw [c0.1, c0.2]
                  simp only [xup_s, xup_n (show ¬ ((15 : Nat) = 16 ∧ (τ 32 0 0 : Int) = τ 32 0 0) by omega), xup_n (show ¬ ((15 : Nat) = 17 ∧ (τ 32 0 0 : Int) = 3 * τ 32 0 0 + 0) by omega), xup_n (show ¬ ((15 : Nat) = 18 ∧ (τ 32 0 0 : Int) = 3 * τ 32 0 0 + 0) by omega), xup_n (show ¬ ((15 : Nat) = 19 ∧ (τ 32 0 0 : Int) = 3 * τ 32 0 0 + 0) by omega), xup_n (show ¬ ((15 : Nat) = 17 ∧ (τ 32 0 0 : Int) = 3 * τ 32 0 0 + 1) by omega), xup_n (show ¬ ((15 : Nat) = 18 ∧ (τ 32 0 0 : Int) = 3 * τ 32 0 0 + 1) by omega), xup_n (show ¬ ((15 : Nat) = 19 ∧ (τ 32 0 0 : Int) = 3 * τ 32 0 0 + 1) by omega), xup_n (show ¬ ((15 : Nat) = 17 ∧ (τ 32 0 0 : Int) = 3 * τ 32 0 0 + 2) by omega), xup_n (show ¬ ((15 : Nat) = 18 ∧ (τ 32 0 0 : Int) = 3 * τ 32 0 0 + 2) by omega), xup_n (show ¬ ((15 : Nat) = 19 ∧ (τ 32 0 0 : Int) = 3 * τ 32 0 0 + 2) by omega), xup_n (show ¬ ((15 : Nat) = 3 ∧ (τ 32 0 0 : Int) = 0) by omega), xup_n (show ¬ ((15 : Nat) = 0 ∧ (τ 32 0 0 : Int) = 0) by omega)]
                  rw [jG_15 (by omega), v9, v10, v11, hr12, hr13, hr25, w12, w13, w25]
                  all_goals rfl
                by_cases c1 : k = 16 ∧ n9 = τ 32 0 0
                · rw [c1.1, c1.2]
                  simp only [xup_s, xup_n (show ¬ ((16 : Nat) = 15 ∧ (τ 32 0 0 : Int) = τ 32 0 0) by omega), xup_n (show ¬ ((16 : Nat) = 17 ∧ (τ 32 0 0 : Int) = 3 * τ 32 0 0 + 0) by omega), xup_n (show ¬ ((16 : Nat) = 18 ∧ (τ 32 0 0 : Int) = 3 * τ 32 0 0 + 0) by omega), xup_n (show ¬ ((16 : Nat) = 19 ∧ (τ 32 0 0 : Int) = 3 * τ 32 0 0 + 0) by omega), xup_n (show ¬ ((16 : Nat) = 17 ∧ (τ 32 0 0 : Int) = 3 * τ 32 0 0 + 1) by omega), xup_n (show ¬ ((16 : Nat) = 18 ∧ (τ 32 0 0 : Int) = 3 * τ 32 0 0 + 1) by omega), xup_n (show ¬ ((16 : Nat) = 19 ∧ (τ 32 0 0 : Int) = 3 * τ 32 0 0 + 1) by omega), xup_n (show ¬ ((16 : Nat) = 17 ∧ (τ 32 0 0 : Int) = 3 * τ 32 0 0 + 2) by omega), xup_n (show ¬ ((16 : Nat) = 18 ∧ (τ 32 0 0 : Int) = 3 * τ 32 0 0 + 2) by omega), xup_n (show ¬ ((16 : Nat) = 19 ∧ (τ 32 0 0 : Int) = 3 * τ 32 0 0 + 2) by omega), xup_n (show ¬ ((16 : Nat) = 3 ∧ (τ 32 0 0 : Int) = 0) by omega), xup_n (show ¬ ((16 : Nat) = 0 ∧ (τ 32 0 0 : Int) = 0) by omega)]
                  rw [jG_16 (by omega)]
                  all_goals rfl
                by_cases c2 : k = 17 ∧ n9 = 3 * τ 32 0 0 + 0
                · rw [c2.1, c2.2]
                  simp only [xup_s, xup_n (show ¬ ((17 : Nat) = 15 ∧ (3 * τ 32 0 0 + 0 : Int) = τ 32 0 0) by omega), xup_n (show ¬ ((17 : Nat) = 16 ∧ (3 * τ 32 0 0 + 0 : Int) = τ 32 0 0) by omega), xup_n (show ¬ ((17 : Nat) = 18 ∧ (3 * τ 32 0 0 + 0 : Int) = 3 * τ 32 0 0 + 0) by omega), xup_n (show ¬ ((17 : Nat) = 19 ∧ (3 * τ 32 0 0 + 0 : Int) = 3 * τ 32 0 0 + 0) by omega), xup_n (show ¬ ((17 : Nat) = 17 ∧ (3 * τ 32 0 0 + 0 : Int) = 3 * τ 32 0 0 + 1) by omega), xup_n (show ¬ ((17 : Nat) = 18 ∧ (3 * τ 32 0 0 + 0 : Int) = 3 * τ 32 0 0 + 1) by omega), xup_n (show ¬ ((17 : Nat) = 19 ∧ (3 * τ 32 0 0 + 0 : Int) = 3 * τ 32 0 0 + 1) by omega), xup_n (show ¬ ((17 : Nat) = 17 ∧ (3 * τ 32 0 0 + 0 : Int) = 3 * τ 32 0 0 + 2) by omega), xup_n (show ¬ ((17 : Nat) = 18 ∧ (3 * τ 32 0 0 + 0 : Int) = 3 * τ 32 0 0 + 2) by omega), xup_n (show ¬ ((17 : Nat) = 19 ∧ (3 * τ 32 0 0 + 0 : Int) = 3 * τ 32 0 0 + 2) by omega), xup_n (show ¬ ((17 : Nat) = 3 ∧ (3 * τ 32 0 0 + 0 : Int) = 0) by omega), xup_n (show ¬ ((17 : Nat) = 0 ∧ (3 * τ 32 0 0 + 0 : Int) = 0) by omega)]
                  rw [jG_17 (by omega), hr26, hr27, hr28, p0, s0, q0]
                  all_goals rfl
                by_cases c3 : k = 18 ∧ n9 = 3 * τ 32 0 0 + 0
                · rw [c3.1, c3.2]
                  simp only [xup_s, xup_n (show ¬ ((18 : Nat) = 15 ∧ (3 * τ 32 0 0 + 0 : Int) = τ 32 0 0) by omega), xup_n (show ¬ ((18 : Nat) = 16 ∧ (3 * τ 32 0 0 + 0 : Int) = τ 32 0 0) by omega), xup_n (show ¬ ((18 : Nat) = 17 ∧ (3 * τ 32 0 0 + 0 : Int) = 3 * τ 32 0 0 + 0) by omega), xup_n (show ¬ ((18 : Nat) = 19 ∧ (3 * τ 32 0 0 + 0 : Int) = 3 * τ 32 0 0 + 0) by omega), xup_n (show ¬ ((18 : Nat) = 17 ∧ (3 * τ 32 0 0 + 0 : Int) = 3 * τ 32 0 0 + 1) by omega), xup_n (show ¬ ((18 : Nat) = 18 ∧ (3 * τ 32 0 0 + 0 : Int) = 3 * τ 32 0 0 + 1) by omega), xup_n (show ¬ ((18 : Nat) = 19 ∧ (3 * τ 32 0 0 + 0 : Int) = 3 * τ 32 0 0 + 1) by omega), xup_n (show ¬ ((18 : Nat) = 17 ∧ (3 * τ 32 0 0 + 0 : Int) = 3 * τ 32 0 0 + 2) by omega), xup_n (show ¬ ((18 : Nat) = 18 ∧ (3 * τ 32 0 0 + 0 : Int) = 3 * τ 32 0 0 + 2) by omega), xup_n (show ¬ ((18 : Nat) = 19 ∧ (3 * τ 32 0 0 + 0 : Int) = 3 * τ 32 0 0 + 2) by omega), xup_n (show ¬ ((18 : Nat) = 3 ∧ (3 * τ 32 0 0 + 0 : Int) = 0) by omega), xup_n (show ¬ ((18 : Nat) = 0 ∧ (3 * τ 32 0 0 + 0 : Int) = 0) by omega)]
                  rw [jG_18 (by omega), hr16]
                  simp only [(x0 _).1]
                  all_goals rfl
                by_cases c4 : k = 19 ∧ n9 = 3 * τ 32 0 0 + 0
                · rw [c4.1, c4.2]
                  simp only [xup_s, xup_n (show ¬ ((19 : Nat) = 15 ∧ (3 * τ 32 0 0 + 0 : Int) = τ 32 0 0) by omega), xup_n (show ¬ ((19 : Nat) = 16 ∧ (3 * τ 32 0 0 + 0 : Int) = τ 32 0 0) by omega), xup_n (show ¬ ((19 : Nat) = 17 ∧ (3 * τ 32 0 0 + 0 : Int) = 3 * τ 32 0 0 + 0) by omega), xup_n (show ¬ ((19 : Nat) = 18 ∧ (3 * τ 32 0 0 + 0 : Int) = 3 * τ 32 0 0 + 0) by omega), xup_n (show ¬ ((19 : Nat) = 17 ∧ (3 * τ 32 0 0 + 0 : Int) = 3 * τ 32 0 0 + 1) by omega), xup_n (show ¬ ((19 : Nat) = 18 ∧ (3 * τ 32 0 0 + 0 : Int) = 3 * τ 32 0 0 + 1) by omega), xup_n (show ¬ ((19 : Nat) = 19 ∧ (3 * τ 32 0 0 + 0 : Int) = 3 * τ 32 0 0 + 1) by omega), xup_n (show ¬ ((19 : Nat) = 17 ∧ (3 * τ 32 0 0 + 0 : Int) = 3 * τ 32 0 0 + 2) by omega), xup_n (show ¬ ((19 : Nat) = 18 ∧ (3 * τ 32 0 0 + 0 : Int) = 3 * τ 32 0 0 + 2) by omega), xup_n (show ¬ ((19 : Nat) = 19 ∧ (3 * τ 32 0 0 + 0 : Int) = 3 * τ 32 0 0 + 2) by omega), xup_n (show ¬ ((19 : Nat) = 3 ∧ (3 * τ 32 0 0 + 0 : Int) = 0) by omega), xup_n (show ¬ ((19 : Nat) = 0 ∧ (3 * τ 32 0 0 + 0 : Int) = 0) by omega)]
                  rw [jG_19 (by omega), hr17]
                  simp only [(x0 _).2]
                  all_goals rfl
                by_cases c5 : k = 17 ∧ n9 = 3 * τ 32 0 0 + 1
                · rw [c5.1, c5.2]
                  simp only [xup_s, xup_n (show ¬ ((17 : Nat) = 15 ∧ (3 * τ 32 0 0 + 1 : Int) = τ 32 0 0) by omega), xup_n (show ¬ ((17 : Nat) = 16 ∧ (3 * τ 32 0 0 + 1 : Int) = τ 32 0 0) by omega), xup_n (show ¬ ((17 : Nat) = 17 ∧ (3 * τ 32 0 0 + 1 : Int) = 3 * τ 32 0 0 + 0) by omega), xup_n (show ¬ ((17 : Nat) = 18 ∧ (3 * τ 32 0 0 + 1 : Int) = 3 * τ 32 0 0 + 0) by omega), xup_n (show ¬ ((17 : Nat) = 19 ∧ (3 * τ 32 0 0 + 1 : Int) = 3 * τ 32 0 0 + 0) by omega), xup_n (show ¬ ((17 : Nat) = 18 ∧ (3 * τ 32 0 0 + 1 : Int) = 3 * τ 32 0 0 + 1) by omega), xup_n (show ¬ ((17 : Nat) = 19 ∧ (3 * τ 32 0 0 + 1 : Int) = 3 * τ 32 0 0 + 1) by omega), xup_n (show ¬ ((17 : Nat) = 17 ∧ (3 * τ 32 0 0 + 1 : Int) = 3 * τ 32 0 0 + 2) by omega), xup_n (show ¬ ((17 : Nat) = 18 ∧ (3 * τ 32 0 0 + 1 : Int) = 3 * τ 32 0 0 + 2) by omega), xup_n (show ¬ ((17 : Nat) = 19 ∧ (3 * τ 32 0 0 + 1 : Int) = 3 * τ 32 0 0 + 2) by omega), xup_n (show ¬ ((17 : Nat) = 3 ∧ (3 * τ 32 0 0 + 1 : Int) = 0) by omega), xup_n (show ¬ ((17 : Nat) = 0 ∧ (3 * τ 32 0 0 + 1 : Int) = 0) by omega)]
                  rw [jG_17 (by omega), hr26, hr27, hr28, p1, s1, q1]
                  all_goals rfl
                by_cases c6 : k = 18 ∧ n9 = 3 * τ 32 0 0 + 1
                · rw [c6.1, c6.2]
                  simp only [xup_s, xup_n (show ¬ ((18 : Nat) = 15 ∧ (3 * τ 32 0 0 + 1 : Int) = τ 32 0 0) by omega), xup_n (show ¬ ((18 : Nat) = 16 ∧ (3 * τ 32 0 0 + 1 : Int) = τ 32 0 0) by omega), xup_n (show ¬ ((18 : Nat) = 17 ∧ (3 * τ 32 0 0 + 1 : Int) = 3 * τ 32 0 0 + 0) by omega), xup_n (show ¬ ((18 : Nat) = 18 ∧ (3 * τ 32 0 0 + 1 : Int) = 3 * τ 32 0 0 + 0) by omega), xup_n (show ¬ ((18 : Nat) = 19 ∧ (3 * τ 32 0 0 + 1 : Int) = 3 * τ 32 0 0 + 0) by omega), xup_n (show ¬ ((18 : Nat) = 17 ∧ (3 * τ 32 0 0 + 1 : Int) = 3 * τ 32 0 0 + 1) by omega), xup_n (show ¬ ((18 : Nat) = 19 ∧ (3 * τ 32 0 0 + 1 : Int) = 3 * τ 32 0 0 + 1) by omega), xup_n (show ¬ ((18 : Nat) = 17 ∧ (3 * τ 32 0 0 + 1 : Int) = 3 * τ 32 0 0 + 2) by omega), xup_n (show ¬ ((18 : Nat) = 18 ∧ (3 * τ 32 0 0 + 1 : Int) = 3 * τ 32 0 0 + 2) by omega), xup_n (show ¬ ((18 : Nat) = 19 ∧ (3 * τ 32 0 0 + 1 : Int) = 3 * τ 32 0 0 + 2) by omega), xup_n (show ¬ ((18 : Nat) = 3 ∧ (3 * τ 32 0 0 + 1 : Int) = 0) by omega), xup_n (show ¬ ((18 : Nat) = 0 ∧ (3 * τ 32 0 0 + 1 : Int) = 0) by omega)]
                  rw [jG_18 (by omega), hr16]
                  simp only [(x1 _).1]
                  all_goals rfl
                by_cases c7 : k = 19 ∧ n9 = 3 * τ 32 0 0 + 1
                · rw [c7.1, c7.2]
                  simp only [xup_s, xup_n (show ¬ ((19 : Nat) = 15 ∧ (3 * τ 32 0 0 + 1 : Int) = τ 32 0 0) by omega), xup_n (show ¬ ((19 : Nat) = 16 ∧ (3 * τ 32 0 0 + 1 : Int) = τ 32 0 0) by omega), xup_n (show ¬ ((19 : Nat) = 17 ∧ (3 * τ 32 0 0 + 1 : Int) = 3 * τ 32 0 0 + 0) by omega), xup_n (show ¬ ((19 : Nat) = 18 ∧ (3 * τ 32 0 0 + 1 : Int) = 3 * τ 32 0 0 + 0) by omega), xup_n (show ¬ ((19 : Nat) = 19 ∧ (3 * τ 32 0 0 + 1 : Int) = 3 * τ 32 0 0 + 0) by omega), xup_n (show ¬ ((19 : Nat) = 17 ∧ (3 * τ 32 0 0 + 1 : Int) = 3 * τ 32 0 0 + 1) by omega), xup_n (show ¬ ((19 : Nat) = 18 ∧ (3 * τ 32 0 0 + 1 : Int) = 3 * τ 32 0 0 + 1) by omega), xup_n (show ¬ ((19 : Nat) = 17 ∧ (3 * τ 32 0 0 + 1 : Int) = 3 * τ 32 0 0 + 2) by omega), xup_n (show ¬ ((19 : Nat) = 18 ∧ (3 * τ 32 0 0 + 1 : Int) = 3 * τ 32 0 0 + 2) by omega), xup_n (show ¬ ((19 : Nat) = 19 ∧ (3 * τ 32 0 0 + 1 : Int) = 3 * τ 32 0 0 + 2) by omega), xup_n (show ¬ ((19 : Nat) = 3 ∧ (3 * τ 32 0 0 + 1 : Int) = 0) by omega), xup_n (show ¬ ((19 : Nat) = 0 ∧ (3 * τ 32 0 0 + 1 : Int) = 0) by omega)]
                  rw [jG_19 (by omega), hr17]
                  simp only [(x1 _).2]
                  all_goals rfl
                by_cases c8 : k = 17 ∧ n9 = 3 * τ 32 0 0 + 2
                · rw [c8.1, c8.2]
                  simp only [xup_s, xup_n (show ¬ ((17 : Nat) = 15 ∧ (3 * τ 32 0 0 + 2 : Int) = τ 32 0 0) by omega), xup_n (show ¬ ((17 : Nat) = 16 ∧ (3 * τ 32 0 0 + 2 : Int) = τ 32 0 0) by omega), xup_n (show ¬ ((17 : Nat) = 17 ∧ (3 * τ 32 0 0 + 2 : Int) = 3 * τ 32 0 0 + 0) by omega), xup_n (show ¬ ((17 : Nat) = 18 ∧ (3 * τ 32 0 0 + 2 : Int) = 3 * τ 32 0 0 + 0) by omega), xup_n (show ¬ ((17 : Nat) = 19 ∧ (3 * τ 32 0 0 + 2 : Int) = 3 * τ 32 0 0 + 0) by omega), xup_n (show ¬ ((17 : Nat) = 17 ∧ (3 * τ 32 0 0 + 2 : Int) = 3 * τ 32 0 0 + 1) by omega), xup_n (show ¬ ((17 : Nat) = 18 ∧ (3 * τ 32 0 0 + 2 : Int) = 3 * τ 32 0 0 + 1) by omega), xup_n (show ¬ ((17 : Nat) = 19 ∧ (3 * τ 32 0 0 + 2 : Int) = 3 * τ 32 0 0 + 1) by omega), xup_n (show ¬ ((17 : Nat) = 18 ∧ (3 * τ 32 0 0 + 2 : Int) = 3 * τ 32 0 0 + 2) by omega), xup_n (show ¬ ((17 : Nat) = 19 ∧ (3 * τ 32 0 0 + 2 : Int) = 3 * τ 32 0 0 + 2) by omega), xup_n (show ¬ ((17 : Nat) = 3 ∧ (3 * τ 32 0 0 + 2 : Int) = 0) by omega), xup_n (show ¬ ((17 : Nat) = 0 ∧ (3 * τ 32 0 0 + 2 : Int) = 0) by omega)]
                  rw [jG_17 (by omega), hr26, hr27, hr28, p2, s2, q2]
                  all_goals rfl
                by_cases c9 : k = 18 ∧ n9 = 3 * τ 32 0 0 + 2
                · rw [c9.1, c9.2]
                  simp only [xup_s, xup_n (show ¬ ((18 : Nat) = 15 ∧ (3 * τ 32 0 0 + 2 : Int) = τ 32 0 0) by omega), xup_n (show ¬ ((18 : Nat) = 16 ∧ (3 * τ 32 0 0 + 2 : Int) = τ 32 0 0) by omega), xup_n (show ¬ ((18 : Nat) = 17 ∧ (3 * τ 32 0 0 + 2 : Int) = 3 * τ 32 0 0 + 0) by omega), xup_n (show ¬ ((18 : Nat) = 18 ∧ (3 * τ 32 0 0 + 2 : Int) = 3 * τ 32 0 0 + 0) by omega), xup_n (show ¬ ((18 : Nat) = 19 ∧ (3 * τ 32 0 0 + 2 : Int) = 3 * τ 32 0 0 + 0) by omega), xup_n (show ¬ ((18 : Nat) = 17 ∧ (3 * τ 32 0 0 + 2 : Int) = 3 * τ 32 0 0 + 1) by omega), xup_n (show ¬ ((18 : Nat) = 18 ∧ (3 * τ 32 0 0 + 2 : Int) = 3 * τ 32 0 0 + 1) by omega), xup_n (show ¬ ((18 : Nat) = 19 ∧ (3 * τ 32 0 0 + 2 : Int) = 3 * τ 32 0 0 + 1) by omega), xup_n (show ¬ ((18 : Nat) = 17 ∧ (3 * τ 32 0 0 + 2 : Int) = 3 * τ 32 0 0 + 2) by omega), xup_n (show ¬ ((18 : Nat) = 19 ∧ (3 * τ 32 0 0 + 2 : Int) = 3 * τ 32 0 0 + 2) by omega), xup_n (show ¬ ((18 : Nat) = 3 ∧ (3 * τ 32 0 0 + 2 : Int) = 0) by omega), xup_n (show ¬ ((18 : Nat) = 0 ∧ (3 * τ 32 0 0 + 2 : Int) = 0) by omega)]
                  rw [jG_18 (by omega), hr16]
                  simp only [(x2 _).1]
                  all_goals rfl
                by_cases c10 : k = 19 ∧ n9 = 3 * τ 32 0 0 + 2
                · rw [c10.1, c10.2]
                  simp only [xup_s, xup_n (show ¬ ((19 : Nat) = 15 ∧ (3 * τ 32 0 0 + 2 : Int) = τ 32 0 0) by omega), xup_n (show ¬ ((19 : Nat) = 16 ∧ (3 * τ 32 0 0 + 2 : Int) = τ 32 0 0) by omega), xup_n (show ¬ ((19 : Nat) = 17 ∧ (3 * τ 32 0 0 + 2 : Int) = 3 * τ 32 0 0 + 0) by omega), xup_n (show ¬ ((19 : Nat) = 18 ∧ (3 * τ 32 0 0 + 2 : Int) = 3 * τ 32 0 0 + 0) by omega), xup_n (show ¬ ((19 : Nat) = 19 ∧ (3 * τ 32 0 0 + 2 : Int) = 3 * τ 32 0 0 + 0) by omega), xup_n (show ¬ ((19 : Nat) = 17 ∧ (3 * τ 32 0 0 + 2 : Int) = 3 * τ 32 0 0 + 1) by omega), xup_n (show ¬ ((19 : Nat) = 18 ∧ (3 * τ 32 0 0 + 2 : Int) = 3 * τ 32 0 0 + 1) by omega), xup_n (show ¬ ((19 : Nat) = 19 ∧ (3 * τ 32 0 0 + 2 : Int) = 3 * τ 32 0 0 + 1) by omega), xup_n (show ¬ ((19 : Nat) = 17 ∧ (3 * τ 32 0 0 + 2 : Int) = 3 * τ 32 0 0 + 2) by omega), xup_n (show ¬ ((19 : Nat) = 18 ∧ (3 * τ 32 0 0 + 2 : Int) = 3 * τ 32 0 0 + 2) by omega), xup_n (show ¬ ((19 : Nat) = 3 ∧ (3 * τ 32 0 0 + 2 : Int) = 0) by omega), xup_n (show ¬ ((19 : Nat) = 0 ∧ (3 * τ 32 0 0 + 2 : Int) = 0) by omega)]
                  rw [jG_19 (by omega), hr17]
                  simp only [(x2 _).2]
                  all_goals rfl
                by_cases c11 : k = 3 ∧ n9 = 0
                · rw [c11.1, c11.2]
                  simp only [xup_s, xup_n (show ¬ ((3 : Nat) = 15 ∧ (0 : Int) = τ 32 0 0) by omega), xup_n (show ¬ ((3 : Nat) = 16 ∧ (0 : Int) = τ 32 0 0) by omega), xup_n (show ¬ ((3 : Nat) = 17 ∧ (0 : Int) = 3 * τ 32 0 0 + 0) by omega), xup_n (show ¬ ((3 : Nat) = 18 ∧ (0 : Int) = 3 * τ 32 0 0 + 0) by omega), xup_n (show ¬ ((3 : Nat) = 19 ∧ (0 : Int) = 3 * τ 32 0 0 + 0) by omega), xup_n (show ¬ ((3 : Nat) = 17 ∧ (0 : Int) = 3 * τ 32 0 0 + 1) by omega), xup_n (show ¬ ((3 : Nat) = 18 ∧ (0 : Int) = 3 * τ 32 0 0 + 1) by omega), xup_n (show ¬ ((3 : Nat) = 19 ∧ (0 : Int) = 3 * τ 32 0 0 + 1) by omega), xup_n (show ¬ ((3 : Nat) = 17 ∧ (0 : Int) = 3 * τ 32 0 0 + 2) by omega), xup_n (show ¬ ((3 : Nat) = 18 ∧ (0 : Int) = 3 * τ 32 0 0 + 2) by omega), xup_n (show ¬ ((3 : Nat) = 19 ∧ (0 : Int) = 3 * τ 32 0 0 + 2) by omega), xup_n (show ¬ ((3 : Nat) = 0 ∧ (0 : Int) = 0) by omega)]
                  rw [jG_3 rfl, h32]
                  congr 8
                  funext j
                  unfold va_up
                  by_cases e : j = (τ 32 0 0).toNat
                  · rw [if_pos e, if_pos (by omega), e, show (((τ 32 0 0).toNat : Nat) : Int) = τ 32 0 0 by omega]
                  · rw [if_neg e]
                    show (if (j : Int) < τ 32 0 0 then some (ad 15 (j : Int)) else none) = _
                    by_cases e2 : (j : Int) < τ 32 0 0
                    · rw [if_pos e2, if_pos (by omega), hk 15 (j : Int) (by omega)]
                    · rw [if_neg e2, if_neg (by omega)]
                by_cases c12 : k = 0 ∧ n9 = 0
                · rw [c12.1, c12.2]
                  simp only [xup_s, xup_n (show ¬ ((0 : Nat) = 15 ∧ (0 : Int) = τ 32 0 0) by omega), xup_n (show ¬ ((0 : Nat) = 16 ∧ (0 : Int) = τ 32 0 0) by omega), xup_n (show ¬ ((0 : Nat) = 17 ∧ (0 : Int) = 3 * τ 32 0 0 + 0) by omega), xup_n (show ¬ ((0 : Nat) = 18 ∧ (0 : Int) = 3 * τ 32 0 0 + 0) by omega), xup_n (show ¬ ((0 : Nat) = 19 ∧ (0 : Int) = 3 * τ 32 0 0 + 0) by omega), xup_n (show ¬ ((0 : Nat) = 17 ∧ (0 : Int) = 3 * τ 32 0 0 + 1) by omega), xup_n (show ¬ ((0 : Nat) = 18 ∧ (0 : Int) = 3 * τ 32 0 0 + 1) by omega), xup_n (show ¬ ((0 : Nat) = 19 ∧ (0 : Int) = 3 * τ 32 0 0 + 1) by omega), xup_n (show ¬ ((0 : Nat) = 17 ∧ (0 : Int) = 3 * τ 32 0 0 + 2) by omega), xup_n (show ¬ ((0 : Nat) = 18 ∧ (0 : Int) = 3 * τ 32 0 0 + 2) by omega), xup_n (show ¬ ((0 : Nat) = 19 ∧ (0 : Int) = 3 * τ 32 0 0 + 2) by omega), xup_n (show ¬ ((0 : Nat) = 3 ∧ (0 : Int) = 0) by omega)]
                  rw [jG_0 rfl, h32, hr30, hr31, hr33, hr34, hr39, ha1, ha2, ha3, ha4, ha9]
                  all_goals rfl
                simp only [xup_n c0, xup_n c1, xup_n c2, xup_n c3, xup_n c4, xup_n c5, xup_n c6, xup_n c7, xup_n c8, xup_n c9, xup_n c10, xup_n c11, xup_n c12]
                by_cases hm : 20 ≤ k
                · exact (jG_m hkp hm n9).symm
                have hl : k < 20 := by omega
                clear hm
                match k, hl with
                | (k + 20), h => exact absurd h (by omega)
                | 0, _ =>
                  have d12 : n9 ≠ 0 := fun e => c12 ⟨rfl, e⟩
                  clear c0 c1 c2 c3 c4 c5 c6 c7 c8 c9 c10 c11 c12
                  show cG0 Y τ ad n9 = cG0 Y (ordS τ z c u) a2 n9
                  unfold cG0
                  rw [if_neg (by omega), if_neg (by omega)]
                | 1, _ =>
                  clear c0 c1 c2 c3 c4 c5 c6 c7 c8 c9 c10 c11 c12
                  show cG1 Y τ ad n9 = cG1 Y (ordS τ z c u) a2 n9
                  unfold cG1
                  by_cases hh : n9 = 0
                  · rw [if_pos hh, if_pos hh, hr30, ha11]
                  · rw [if_neg hh, if_neg hh]
                | 2, _ =>
                  clear c0 c1 c2 c3 c4 c5 c6 c7 c8 c9 c10 c11 c12
                  show cG2 Y τ ad n9 = cG2 Y (ordS τ z c u) a2 n9
                  unfold cG2
                  by_cases hh : n9 = 0
                  · rw [if_pos hh, if_pos hh, hr31, ha14]
                  · rw [if_neg hh, if_neg hh]
                | 3, _ =>
                  have d11 : n9 ≠ 0 := fun e => c11 ⟨rfl, e⟩
                  clear c0 c1 c2 c3 c4 c5 c6 c7 c8 c9 c10 c11 c12
                  show cG3 Y τ ad n9 = cG3 Y (ordS τ z c u) a2 n9
                  unfold cG3
                  rw [if_neg (by omega), if_neg (by omega)]
                | 4, _ =>
                  clear c0 c1 c2 c3 c4 c5 c6 c7 c8 c9 c10 c11 c12
                  show cG4 Y τ ad n9 = cG4 Y (ordS τ z c u) a2 n9
                  unfold cG4
                  by_cases hh : n9 = 0
                  · rw [if_pos hh, if_pos hh, ha5, ha6, ha7, ha8, hr41]
                  · rw [if_neg hh, if_neg hh]
                | 5, _ =>
                  clear c0 c1 c2 c3 c4 c5 c6 c7 c8 c9 c10 c11 c12
                  show cG5 Y τ ad n9 = cG5 Y (ordS τ z c u) a2 n9
                  unfold cG5
                  by_cases hh : n9 = 0
                  · rw [if_pos hh, if_pos hh, hr20]
                  · rw [if_neg hh, if_neg hh]
                | 6, _ =>
                  clear c0 c1 c2 c3 c4 c5 c6 c7 c8 c9 c10 c11 c12
                  show cG6 Y τ ad n9 = cG6 Y (ordS τ z c u) a2 n9
                  unfold cG6
                  by_cases hh : n9 = 0
                  · rw [if_pos hh, if_pos hh, hr21]
                  · rw [if_neg hh, if_neg hh]
                | 7, _ =>
                  clear c0 c1 c2 c3 c4 c5 c6 c7 c8 c9 c10 c11 c12
                  show cG7 Y τ ad n9 = cG7 Y (ordS τ z c u) a2 n9
                  unfold cG7
                  by_cases hh : n9 = 0
                  · rw [if_pos hh, if_pos hh, hr22]
                  · rw [if_neg hh, if_neg hh]
                | 8, _ =>
                  clear c0 c1 c2 c3 c4 c5 c6 c7 c8 c9 c10 c11 c12
                  show cG8 Y τ ad n9 = cG8 Y (ordS τ z c u) a2 n9
                  unfold cG8
                  by_cases hh : n9 = 0
                  · rw [if_pos hh, if_pos hh, hr23]
                  · rw [if_neg hh, if_neg hh]
                | 9, _ =>
                  clear c0 c1 c2 c3 c4 c5 c6 c7 c8 c9 c10 c11 c12
                  show cG9 Y τ ad n9 = cG9 Y (ordS τ z c u) a2 n9
                  unfold cG9
                  unfold xpo
                  by_cases hh : n9 = 0
                  · rw [if_pos hh, if_pos hh, hr35, hr36, hr37, hr38, ha10]
                    by_cases e : τ 35 0 0 = -1
                    · rw [if_pos e, if_pos e]
                    · rw [if_neg e, if_neg e, hk 15 (τ 35 0 0) (by have := I.po; omega)]
                  · rw [if_neg hh, if_neg hh]
                | 10, _ =>
                  clear c0 c1 c2 c3 c4 c5 c6 c7 c8 c9 c10 c11 c12
                  show cG10 Y τ ad n9 = cG10 Y (ordS τ z c u) a2 n9
                  unfold cG10
                  by_cases hh : n9 = 0
                  · rw [if_pos hh, if_pos hh, hr18]
                  · rw [if_neg hh, if_neg hh]
                | 11, _ =>
                  clear c0 c1 c2 c3 c4 c5 c6 c7 c8 c9 c10 c11 c12
                  show cG11 Y τ ad n9 = cG11 Y (ordS τ z c u) a2 n9
                  unfold cG11
                  by_cases hh : 0 ≤ n9 ∧ n9 < τ 30 0 0
                  · rw [if_pos hh, if_pos (by omega), ha12, hr2, hr3, hr24, hr4]
                  · rw [if_neg hh, if_neg (by omega)]
                | 12, _ =>
                  clear c0 c1 c2 c3 c4 c5 c6 c7 c8 c9 c10 c11 c12
                  show cG12 Y τ ad n9 = cG12 Y (ordS τ z c u) a2 n9
                  unfold cG12
                  by_cases hh : 0 ≤ n9 ∧ n9 < 2 * τ 30 0 0
                  · rw [if_pos hh, if_pos (by omega), ha13, hr1]
                  · rw [if_neg hh, if_neg (by omega)]
                | 13, _ =>
                  clear c0 c1 c2 c3 c4 c5 c6 c7 c8 c9 c10 c11 c12
                  show cG13 Y τ ad n9 = cG13 Y (ordS τ z c u) a2 n9
                  unfold cG13
                  by_cases hh : 0 ≤ n9 ∧ n9 < 2 * τ 30 0 0
                  · rw [if_pos hh, if_pos (by omega), hr0]
                  · rw [if_neg hh, if_neg (by omega)]
                | 14, _ =>
                  clear c0 c1 c2 c3 c4 c5 c6 c7 c8 c9 c10 c11 c12
                  show cG14 Y τ ad n9 = cG14 Y (ordS τ z c u) a2 n9
                  unfold cG14
                  by_cases hh : 0 ≤ n9 ∧ n9 < τ 31 0 0
                  · rw [if_pos hh, if_pos (by omega), hr5, ha11, hr6, hr7, hr8]
                  · rw [if_neg hh, if_neg (by omega)]
                | 15, _ =>
                  have d0 : n9 ≠ τ 32 0 0 := fun e => c0 ⟨rfl, e⟩
                  clear c0 c1 c2 c3 c4 c5 c6 c7 c8 c9 c10 c11 c12
                  show cG15 Y τ ad n9 = cG15 Y (ordS τ z c u) a2 n9
                  unfold cG15
                  by_cases hh : 0 ≤ n9 ∧ n9 < τ 32 0 0
                  · rw [if_pos hh, if_pos (by omega), hp9 (n9) (by omega), ha11, hp10 (n9) (by omega), hp11 (n9) (by omega), hk 16 (n9) (by omega), hr12, hr25, hr13]
                  · rw [if_neg hh, if_neg (by omega)]
                | 16, _ =>
                  have d1 : n9 ≠ τ 32 0 0 := fun e => c1 ⟨rfl, e⟩
                  clear c0 c1 c2 c3 c4 c5 c6 c7 c8 c9 c10 c11 c12
                  show cG16 Y τ ad n9 = cG16 Y (ordS τ z c u) a2 n9
                  unfold cG16
                  by_cases hh : 0 ≤ n9 ∧ n9 < τ 32 0 0
                  · rw [if_pos hh, if_pos (by omega)]
                    congr 8
                    funext j
                    by_cases e : (j : Int) < 3
                    · rw [if_pos e, if_pos e, hk 17 (3 * n9 + (j : Int)) (by omega)]
                    · rw [if_neg e, if_neg e]
                  · rw [if_neg hh, if_neg (by omega)]
                | 17, _ =>
                  have d2 : n9 ≠ 3 * τ 32 0 0 + 0 := fun e => c2 ⟨rfl, e⟩
                  have d5 : n9 ≠ 3 * τ 32 0 0 + 1 := fun e => c5 ⟨rfl, e⟩
                  have d8 : n9 ≠ 3 * τ 32 0 0 + 2 := fun e => c8 ⟨rfl, e⟩
                  clear c0 c1 c2 c3 c4 c5 c6 c7 c8 c9 c10 c11 c12
                  show cG17 Y τ ad n9 = cG17 Y (ordS τ z c u) a2 n9
                  unfold cG17
                  by_cases hh : 0 ≤ n9 ∧ n9 < 3 * τ 32 0 0
                  · rw [if_pos hh, if_pos (by omega), hk 18 (n9) (by omega), hr26, hk 19 (n9) (by omega), hr27, hr28]
                  · rw [if_neg hh, if_neg (by omega)]
                | 18, _ =>
                  have d3 : n9 ≠ 3 * τ 32 0 0 + 0 := fun e => c3 ⟨rfl, e⟩
                  have d6 : n9 ≠ 3 * τ 32 0 0 + 1 := fun e => c6 ⟨rfl, e⟩
                  have d9 : n9 ≠ 3 * τ 32 0 0 + 2 := fun e => c9 ⟨rfl, e⟩
                  clear c0 c1 c2 c3 c4 c5 c6 c7 c8 c9 c10 c11 c12
                  show cG18 Y τ ad n9 = cG18 Y (ordS τ z c u) a2 n9
                  unfold cG18
                  by_cases hh : 0 ≤ n9 ∧ n9 < 3 * τ 32 0 0
                  · rw [if_pos hh, if_pos (by omega), hr16]
                  · rw [if_neg hh, if_neg (by omega)]
                | 19, _ =>
                  have d4 : n9 ≠ 3 * τ 32 0 0 + 0 := fun e => c4 ⟨rfl, e⟩
                  have d7 : n9 ≠ 3 * τ 32 0 0 + 1 := fun e => c7 ⟨rfl, e⟩
                  have d10 : n9 ≠ 3 * τ 32 0 0 + 2 := fun e => c10 ⟨rfl, e⟩
                  clear c0 c1 c2 c3 c4 c5 c6 c7 c8 c9 c10 c11 c12
                  show cG19 Y τ ad n9 = cG19 Y (ordS τ z c u) a2 n9
                  unfold cG19
                  by_cases hh : 0 ≤ n9 ∧ n9 < 3 * τ 32 0 0
                  · rw [if_pos hh, if_pos (by omega), hr17]
                  · rw [if_neg hh, if_neg (by omega)]
              · exact X_throwW C M tw_X8_135_139 xs_X8_272 dX8_order_82 dX8_order_85 dX8_order_86 dX8_order_89 dX8_order_92 (by decide) (by decide) (by decide) (by decide) ⟨by rw [show kOrd τ z c u = 4 from by unfold kOrd; (repeat' split) <;> omega]; rfl, rfl, rfl⟩
            · exact X_throwW C M tw_X8_45_49 xs_X8_266 dX8_order_57 dX8_order_60 dX8_order_61 dX8_order_64 dX8_order_67 (by decide) (by decide) (by decide) (by decide) ⟨by rw [show kOrd τ z c u = 3 from by unfold kOrd; (repeat' split) <;> omega]; rfl, rfl, rfl⟩
        · exact X_throw C M tw_X8_67_71 xs_X8_252 dX8_order_30 dX8_order_33 dX8_order_34 dX8_order_36 dX8_order_39 (by decide) (by decide) (by decide) (by decide) ⟨by rw [show kOrd τ z c u = 2 from by unfold kOrd; (repeat' split) <;> omega]; rfl, rfl, rfl⟩
