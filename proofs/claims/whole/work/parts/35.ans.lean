set_option maxRecDepth 100000 in
set_option maxHeartbeats 4000000 in
theorem c_X8_answer {lc : Launch} (hlc : lc.stackTraces = false) {D : va_G} {Y : Nat → ClassId} {A : Nat → Prop} {τ σ : xS} {ρ : xG} {ad : xL} {n z : Int} (I : xI n τ) (hz0 : rg z) : Ct lc yX8_answer cX8_answer 3 (some .int) (rmL 2 2 12) D Y A ad (jG Y τ σ ρ ad) [.ref (ad 0 0), .int (iI z)] (pC (kAns τ z = 0) (some (.int (iI (opA (up τ 8 z 0 0) (τ 5 z 0) (τ 31 0 0))))) ad (jG Y (up τ 8 z 0 0) σ ρ ad)) (pT (fun E => exn [nX, eS] (kAns τ z) = some E) ad (jG Y τ σ ρ ad)) := by
  refine Ct_of hlc (by decide +kernel) rfl rfl (own := RX8) (nm := "answer") (l0 := [some (.ref (ad 0 0)), some (.int (iI z)), none]) rfl (Nat.le_of_ble_eq_true rfl) (fun κ C M => ?_)
  have Ind := I.nd
  have Inc := I.nc
  have Ino := I.no
  have In := I.n0
  refine X_aload_n C rfl dX8_answer_0 ?_
  refine X_iload_n C rfl dX8_answer_1 ?_
  refine X_callVC_1 C M (c_X8_openCommentOf C.hlc (by assumption) (by omega)) cv_X8_175 (jG_0 rfl) ⟨_, _, rfl⟩ rfl rfl dX8_answer_2 (fun E h => ⟨(h.elim (fun h => by obtain ⟨rfl, h⟩ := h; rw [show kAns τ z = 1 from by unfold kAns; (repeat' split) <;> omega]; rfl) (fun h => by obtain ⟨rfl, h, h2⟩ := h; rw [show kAns τ z = 2 from by unfold kAns; (repeat' split) <;> omega]; rfl)), rfl, rfl⟩) (fun h_2 => ?_)
  refine X_astore_2 C (by decide) rfl dX8_answer_5 ?_
  refine X_aload_n C rfl dX8_answer_6 ?_
  refine X_iconst C dX8_answer_7 ?_
  refine Xp_X0_open C (by (try simp (discharger := decide) only [up_r]); omega) (by first | exact Or.inl rfl | exact Or.inr rfl) fw_X8_179 dX8_answer_8 ?_
  refine X_aload_n C rfl dX8_answer_11 ?_
  refine X_aload_n C rfl dX8_answer_12 ?_
  have k3 := I.on z (by omega) (by omega)
  refine Xg_X0_document C (by (try simp (discharger := decide) only [up_r]); omega) (v := τ 5 z 0) (by simp (discharger := decide) only [up_r]) fl_X8_183 dX8_answer_13 ?_
  refine X_callVE_1 C (c_X8_openCommentsOn C.hlc (pr_answer I) (by simp (discharger := decide) only [up_r]; omega)) cv_X8_187 (jG_0 rfl) ⟨_, _, rfl⟩ rfl rfl dX8_answer_16 ?_
  exact X_ireturn C M rfl (by decide) (by decide) dX8_answer_19 ⟨by unfold kAns; (repeat' split) <;> omega, rI (by rw [show (up τ 8 z 0 0) 31 0 0 = τ 31 0 0 from (by simp (discharger := decide) only [up_r])]), rfl, rfl⟩
