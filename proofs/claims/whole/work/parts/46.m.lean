set_option maxRecDepth 100000 in
set_option maxHeartbeats 4000000 in
theorem c_X9_nextSheet {lc : Launch} (hlc : lc.stackTraces = false) {D : va_G} {Y : Nat → ClassId} {A : Nat → Prop} {τ σ : xS} {ρ : xG} {ad : xL} {n z : Int} (I : xI n σ) (hz0 : rg z) : Ct lc yX9_nextSheet cX9_nextSheet 3 (some .int) (rmL 4 0 0) D Y A ad (jG Y τ σ ρ ad) [.ref (ad 20 0), .int (iI z)] (pE (some (.int (iI (mA (kNxs σ z) (nsA σ z) (-1))))) ad (jG Y τ (up σ 40 0 0 (kNxs σ z)) ρ ad)) (pF) := by
  refine Ct_of hlc (by decide +kernel) rfl rfl (own := RX9) (nm := "nextSheet") (l0 := [some (.ref (ad 20 0)), some (.int (iI z)), none]) rfl (Nat.le_of_ble_eq_true rfl) (fun κ C M => ?_)
  have Ind := I.nd
  have Inc := I.nc
  have Ino := I.no
  have In := I.n0
  have kf := kOdr_f σ z
  have k5 := I.sb (σ 9 z 0)
  refine X_aload_n C rfl dX9_nextSheet_0 ?_
  refine X_iload_n C rfl dX9_nextSheet_1 ?_
  refine X_callVE_1 C (c_X9_asksOrder C.hlc (by assumption) (by omega)) cv_X9_192 jG_20 ⟨_, _, rfl⟩ rfl rfl dX9_nextSheet_2 ?_
  refine X_if_neB C (tgt := 10) dX9_nextSheet_5 (by decide) (fun c_5 => ?_) (fun c_5 => ?_)
  · refine X_iconst C dX9_nextSheet_10 ?_
    refine X_istore_2 C (by decide) rfl dX9_nextSheet_11 ?_
    have L12 : ∀ (n9 : Nat) (s : Int), (0 ≤ s ∧ s ≤ shT σ (σ 9 z 0)) → (∀ j, 0 ≤ j → j < s → ¬ (stA σ z j = 119 ∨ stA σ z j = 115)) → shT σ (σ 9 z 0) - s < (n9 : Int) → X κ D A 3 0 0 12 ([some (.ref (ad 20 0)), some (.int (iI z)), some (.int (iI s))]) ([]) ad (jG Y τ (up σ 40 0 0 (kOdr σ z)) ρ ad) := by
      intro n9
      induction n9 with
      | zero => intro s  hs0 hall hm; exfalso; omega
      | succ n9 ih =>
        intro s  hs0 hall hm
        refine X_iload_n C rfl dX9_nextSheet_12 ?_
        refine X_aload_n C rfl dX9_nextSheet_13 ?_
        refine X_iload_n C rfl dX9_nextSheet_14 ?_
        refine X_callVE_1 C (c_X9_sheetsIn C.hlc (pr_thr I) (show 0 ≤ z ∧ z < σ 32 0 0 from by omega)) cv_X9_175 jG_20 ⟨_, _, rfl⟩ rfl rfl dX9_nextSheet_15 ?_
        rw [show shT (up σ 40 0 0 (kOdr σ z)) ((up σ 40 0 0 (kOdr σ z)) 9 z 0) = shT σ (σ 9 z 0) from rfl]
        refine X_icmp_ge C (tgt := 51) dX9_nextSheet_18 (by decide) ⟨by omega, by omega⟩ ⟨by omega, by omega⟩ (fun c_18 => ?_) (fun c_18 => ?_)
        · obtain rfl : s = shT σ (σ 9 z 0) := by omega
          have e2 : kNxs σ z = 2 := by unfold kNxs; rw [if_neg (by omega), if_pos (show nsA σ z = -1 from fsA_n (p := fun s => stA σ z s = 119 ∨ stA σ z s = 115) k5.1 hall)]
          refine X_aload_n C rfl dX9_nextSheet_51 ?_
          refine X_iconst C dX9_nextSheet_52 ?_
          refine Xp_X9_thrown C fw_X9_78 dX9_nextSheet_53 ?_
          refine X_iconst C dX9_nextSheet_56 ?_
          exact X_ireturn C M rfl (by decide) (by decide) dX9_nextSheet_57 ⟨rI (mA_n (k := kNxs σ z) (by rw [e2]; decide)).symm, rfl, jG_up e2.symm⟩
        · refine X_aload_n C rfl dX9_nextSheet_21 ?_
          refine X_iload_n C rfl dX9_nextSheet_22 ?_
          refine X_iload_n C rfl dX9_nextSheet_23 ?_
          refine X_callVE_2 C (c_X9_stateNow C.hlc (pr_thr I) (show 0 ≤ z ∧ z < σ 32 0 0 from by omega) (show 0 ≤ s ∧ s < shT σ (σ 9 z 0) from by omega)) cv_X9_178 jG_20 ⟨_, _, rfl⟩ rfl rfl dX9_nextSheet_24 ?_
          rw [show stA (up σ 40 0 0 (kOdr σ z)) z s = stA σ z s from rfl]
          have hv := stA_v σ z s
          refine X_bipush C ⟨by decide, by decide⟩ dX9_nextSheet_27 ?_
          refine X_icmp_eq C (tgt := 43) dX9_nextSheet_29 (by decide) ⟨by omega, by omega⟩ ⟨by omega, by omega⟩ (fun c_29 => ?_) (fun c_29 => ?_)
          · have e1 : nsA σ z = s := fsA_y (p := fun s => stA σ z s = 119 ∨ stA σ z s = 115) hs0.1 (by omega) (Or.inl (by omega)) hall
            have e0 : kNxs σ z = 0 := by unfold kNxs; rw [if_neg (by omega), if_neg (by omega)]
            refine X_iload_n C rfl dX9_nextSheet_43 ?_
            exact X_ireturn C M rfl (by decide) (by decide) dX9_nextSheet_44 ⟨rI (Eq.trans (show s = nsA σ z from e1.symm) (mA_0 (k := kNxs σ z) e0).symm), rfl, congrArg (fun v9 => jG Y τ (up σ 40 0 0 v9) ρ ad) (show kOdr σ z = kNxs σ z from by rw [e0]; omega)⟩
          · refine X_aload_n C rfl dX9_nextSheet_32 ?_
            refine X_iload_n C rfl dX9_nextSheet_33 ?_
            refine X_iload_n C rfl dX9_nextSheet_34 ?_
            refine X_callVE_2 C (c_X9_stateNow C.hlc (pr_thr I) (show 0 ≤ z ∧ z < σ 32 0 0 from by omega) (show 0 ≤ s ∧ s < shT σ (σ 9 z 0) from by omega)) cv_X9_178 jG_20 ⟨_, _, rfl⟩ rfl rfl dX9_nextSheet_35 ?_
            rw [show stA (up σ 40 0 0 (kOdr σ z)) z s = stA σ z s from rfl]
            refine X_bipush C ⟨by decide, by decide⟩ dX9_nextSheet_38 ?_
            refine X_icmp_ne C (tgt := 45) dX9_nextSheet_40 (by decide) ⟨by omega, by omega⟩ ⟨by omega, by omega⟩ (fun c_40 => ?_) (fun c_40 => ?_)
            · refine X_iinc_2 C (by decide) rfl dX9_nextSheet_45 ?_
              refine X_goto C (tgt := 12) dX9_nextSheet_48 (by decide) ?_
              exact ih (s + 1) (by omega) (fun j a b w => by by_cases e : j = s; subst e; omega; exact hall j a (by omega) w) (by omega)
            · have e1 : nsA σ z = s := fsA_y (p := fun s => stA σ z s = 119 ∨ stA σ z s = 115) hs0.1 (by omega) (Or.inr (by omega)) hall
              have e0 : kNxs σ z = 0 := by unfold kNxs; rw [if_neg (by omega), if_neg (by omega)]
              refine X_iload_n C rfl dX9_nextSheet_43 ?_
              exact X_ireturn C M rfl (by decide) (by decide) dX9_nextSheet_44 ⟨rI (Eq.trans (show s = nsA σ z from e1.symm) (mA_0 (k := kNxs σ z) e0).symm), rfl, congrArg (fun v9 => jG Y τ (up σ 40 0 0 v9) ρ ad) (show kOdr σ z = kNxs σ z from by rw [e0]; omega)⟩
    exact L12 9 0 (by omega) (fun j a b => by omega) (by omega)
  · refine X_iconst C dX9_nextSheet_8 ?_
    exact X_ireturn C M rfl (by decide) (by decide) dX9_nextSheet_9 ⟨rI (mA_n (k := kNxs σ z) (by unfold kNxs; rw [if_pos (by omega)]; decide)).symm, rfl, congrArg (fun v9 => jG Y τ (up σ 40 0 0 v9) ρ ad) (show kOdr σ z = kNxs σ z from by unfold kNxs; rw [if_pos (by omega)]; omega)⟩
