set_option maxRecDepth 100000 in
set_option maxHeartbeats 4000000 in
theorem c_X9_made {lc : Launch} (hlc : lc.stackTraces = false) {D : va_G} {Y : Nat → ClassId} {A : Nat → Prop} {τ σ : xS} {ρ : xG} {ad : xL} {n o s : Int} (I : xI n σ) (ho : 0 ≤ o ∧ o < σ 32 0 0) (hs : 0 ≤ s ∧ s < shT σ (σ 9 o 0)) : Ct lc yX9_made cX9_made 7 (some .int) (rmL 3 0 0) D Y A ad (jG Y τ σ (xup ρ 60 0 (aJ Y (fun _ => 0))) ad) [.ref (ad 20 0), .int (iI o), .int (iI s), .ref (ad 60 0)] (pE (some (.int (iI (plC (cOn σ (σ 9 o 0) s) 32)))) ad (jG Y τ σ (xup ρ 60 0 (aJ Y (plR (fun _ => 0) (cOn σ (σ 9 o 0) s) 32))) ad)) (pF) := by
  refine Ct_of hlc (by decide +kernel) rfl rfl (own := RX9) (nm := "made") (l0 := [some (.ref (ad 20 0)), some (.int (iI o)), some (.int (iI s)), some (.ref (ad 60 0)), none, none, none]) rfl (Nat.le_of_ble_eq_true rfl) (fun κ C M => ?_)
  have Ind := I.nd
  have Inc := I.nc
  have Ino := I.no
  have In := I.n0
  have k3 := I.od o (by omega) (by omega)
  have k5 := I.sb (σ 9 o 0)
  have k1 := I.po
  have k2 := I.ps
  refine X_iconst C dX9_made_0 ?_
  refine X_istore_4 C (by decide) rfl dX9_made_1 ?_
  refine X_bipush C ⟨by decide, by decide⟩ dX9_made_3 ?_
  refine X_istore_5 C (by decide) rfl dX9_made_5 ?_
  have L7 : ∀ (n9 : Nat) (x : Int) (w6 : Option Value) (m : Int), (0 ≤ m ∧ m ≤ 32) → (x = plC (cOn σ (σ 9 o 0) s) m) → 32 - m < (n9 : Int) → X κ D A 7 0 0 7 ([some (.ref (ad 20 0)), some (.int (iI o)), some (.int (iI s)), some (.ref (ad 60 0)), some (.int (iI x)), some (.int (iI (31 - m))), w6]) ([]) ad (jG Y τ σ (xup ρ 60 0 (aJ Y (plR (fun _ => 0) (cOn σ (σ 9 o 0) s) m))) ad) := by
    intro n9
    induction n9 with
    | zero => intro x w6 m  hm0 hx hm; exfalso; omega
    | succ n9 ih =>
      intro x w6 m  hm0 hx hm
      have hpc := plC_b (cd := (cOn σ (σ 9 o 0) s)) hm0.1
      refine X_iload C rfl dX9_made_7 ?_
      refine X_if_lt C (tgt := 48) dX9_made_9 (by decide) ⟨by omega, by omega⟩ (fun c_9 => ?_) (fun c_9 => ?_)
      · obtain rfl : m = 32 := by omega
        refine X_iload C rfl dX9_made_48 ?_
        exact X_ireturn C M rfl (by decide) (by decide) dX9_made_50 ⟨rI hx, rfl, rfl⟩
      · refine X_aload_n C rfl dX9_made_12 ?_
        refine X_aload_n C rfl dX9_made_13 ?_
        refine Xg_X9_orderOf C fl_X9_44 dX9_made_14 ?_
        refine X_iload_n C rfl dX9_made_17 ?_
        refine Xm_orderOf_ld C (by omega) (by omega) rfl dX9_made_18 ?_
        refine X_iload_n C rfl dX9_made_19 ?_
        refine X_iload C rfl dX9_made_20 ?_
        refine X_callVE_3 C (c_X9_codeOn C.hlc (by assumption) (by omega) (by omega) (by omega)) cv_X9_146 jG_20 ⟨_, _, rfl⟩ rfl rfl dX9_made_22 ?_
        refine X_istore_6 C (by decide) rfl dX9_made_25 ?_
        have hcb := cOn_b I.cd (σ 9 o 0) s (31 - m)
        refine X_iload C rfl dX9_made_27 ?_
        refine X_iconst C dX9_made_29 ?_
        refine X_icmp_eq C (tgt := 42) dX9_made_30 (by decide) ⟨by omega, by omega⟩ ⟨by omega, by omega⟩ (fun c_30 => ?_) (fun c_30 => ?_)
        · refine X_iinc_5 C (by decide) rfl dX9_made_42 ?_
          refine X_goto C (tgt := 7) dX9_made_45 (by decide) ?_
          rw [show (31 - m + -1 : Int) = 31 - (m + 1) by omega]
          rw [show plR (fun _ => 0) (cOn σ (σ 9 o 0) s) m = plR (fun _ => 0) (cOn σ (σ 9 o 0) s) (m + 1) from by rw [plR_s hm0.1, if_pos (by omega)]]
          exact ih _ _ (m + 1) (by omega) (by rw [plC_s hm0.1, if_pos (by omega)]; exact hx) (by omega)
        · refine X_aload_n C rfl dX9_made_33 ?_
          refine X_iload C rfl dX9_made_34 ?_
          refine X_iload C rfl dX9_made_36 ?_
          refine X_iast C (k := 60) (n := 0) (N := 32) (f := fun j => iI (plR (fun _ => 0) (cOn σ (σ 9 o 0) s) m (j : Int))) (by rw [jG_at (by decide)]; exact xup_s) (by omega) (by omega) (by decide) dX9_made_38 ?_
          rw [aJ_u (by omega), jG_rho (by decide), xup_up]
          refine X_iinc_4 C (by decide) rfl dX9_made_39 ?_
          refine X_iinc_5 C (by decide) rfl dX9_made_42 ?_
          refine X_goto C (tgt := 7) dX9_made_45 (by decide) ?_
          rw [show (31 - m + -1 : Int) = 31 - (m + 1) by omega]
          rw [show (fun q => if q = x then (cOn σ (σ 9 o 0) s) (31 - m) else plR (fun _ => 0) (cOn σ (σ 9 o 0) s) m q) = plR (fun _ => 0) (cOn σ (σ 9 o 0) s) (m + 1) from by rw [plR_s hm0.1, if_neg (by omega), hx]]
          exact ih _ _ (m + 1) (by omega) (by rw [plC_s hm0.1, if_neg (by omega), hx]) (by omega)
  exact L7 33 0 none 0 (by omega) rfl (by omega)
