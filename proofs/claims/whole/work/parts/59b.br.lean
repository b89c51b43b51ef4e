/-! the same for the press: pass and print -/
theorem lvS_40 {σ : xS} {v : Int} : up (lvS σ) 40 0 0 v = lvS (up σ 40 0 0 v) := by
  unfold lvS
  rw [show (up σ 40 0 0 v) 35 = σ 35 from up_r (by decide), show (up σ 40 0 0 v) 36 = σ 36 from up_r (by decide), show (up σ 40 0 0 v) 16 = σ 16 from up_r (by decide), show (up σ 40 0 0 v) 18 = σ 18 from up_r (by decide), show (up σ 40 0 0 v) 14 = σ 14 from up_r (by decide)]
  rw [up_cm (by decide), up_cm (r := 14) (by decide), upR_cm (by decide)]
theorem lv_un {S : xS} {r : Nat} (h : r < 20 ∨ 30 ≤ r ∧ r ≠ 41) : lvS S r = up (unlS S) 14 (3 * S 35 0 0 + S 36 0 0) 0 (S 14 (3 * S 35 0 0 + S 36 0 0) 0 + 1) r := by
  unfold lvS unlS tpS
  generalize 3 * S 35 0 0 + S 36 0 0 = x
  have e : (if S 26 x 0 = 0 then S else up S 25 (S 35 0 0) 0 (S 25 (S 35 0 0) 0 + S 10 (S 35 0 0) 0)) r = S r := by
    split
    · rfl
    · exact up_r (by omega)
  generalize (if S 26 x 0 = 0 then S else up S 25 (S 35 0 0) 0 (S 25 (S 35 0 0) 0 + S 10 (S 35 0 0) 0)) = B at e ⊢
  funext i j
  dsimp only [up, upR]
  rw [e]
  (repeat' split) <;> first | rfl | omega
theorem b_pas {n : Int} {θ : xS} {u : Int} (I : xI n θ) (hn : n < 512) : jBr (n + 1) (kPas θ u) (mQ (kPas θ u) (pasS θ u) θ) (mS (kPas θ u) (fun σ => pkS σ u) θ) := by
  by_cases h : kPas θ u = 0
  · rw [mQ_0 h, mS_0 h]
    have hh : (1 ≤ u ∧ u ≤ 100) ∧ ¬ 999 < θ 39 0 0 + u := by unfold kPas at h; (repeat' split at h) <;> omega
    have e35 : (up θ 40 0 0 0) 35 = θ 35 := up_r (by decide)
    have e37 : (up θ 40 0 0 0) 37 = θ 37 := up_r (by decide)
    have e39 : (up θ 40 0 0 0) 39 = θ 39 := up_r (by decide)
    have eH : pasH (up θ 40 0 0 0) u = up (pasH θ u) 40 0 0 0 := by
      unfold pasH
      rw [e39]
      exact up_cm (by decide)
    by_cases c : pasP θ u
    · have c2 : pasP (up θ 40 0 0 0) u := by
        show (up θ 40 0 0 0) 35 0 0 ≠ -1 ∧ (up θ 40 0 0 0) 37 0 0 ≤ (up θ 40 0 0 0) 39 0 0 + u
        rw [e35, e37, e39]
        exact c
      have eS : pasS θ u = unlS (pasH θ u) := if_pos c
      have eT : pasT θ u = up (unlS (pasH θ u)) 14 (lvX θ) 0 (θ 14 (lvX θ) 0 + 1) := if_pos c
      have eM : pkS (up θ 40 0 0 0) u = lvS (pasH (up θ 40 0 0 0) u) := if_pos c2
      have x0 : 3 * (pasH θ u) 35 0 0 + (pasH θ u) 36 0 0 = lvX θ := by rw [pasH_r (by decide), pasH_r (by decide)]; rfl
      refine jBr_mk h (pr_pas (u := u) I hn (by omega)) (fun r a _ _ => ?_) (fun r hr => ?_)
      · rw [eS, eT, up_r a]
      · show pkS (up θ 40 0 0 0) u r = _
        rw [eM, eH, ← lvS_40]
        by_cases h40 : r = 40
        · subst h40
          funext i j
          rw [up_e, up_e, eT, up_r (by decide), unlS_r (by decide) (by decide) (by decide) (by decide), lvS_r (by decide) (by decide) (by decide)]
        · rw [up_r h40, up_r h40, eT, lv_un hr, x0, pasH_r (r := 14) (by decide)]
    · have c2 : ¬ pasP (up θ 40 0 0 0) u := by
        show ¬ ((up θ 40 0 0 0) 35 0 0 ≠ -1 ∧ (up θ 40 0 0 0) 37 0 0 ≤ (up θ 40 0 0 0) 39 0 0 + u)
        rw [e35, e37, e39]
        exact c
      have eS : pasS θ u = pasH θ u := if_neg c
      have eT : pasT θ u = pasH θ u := if_neg c
      have eM : pkS (up θ 40 0 0 0) u = pasH (up θ 40 0 0 0) u := if_neg c2
      refine jBr_mk h (pr_pas (u := u) I hn (by omega)) (fun r a _ _ => ?_) (fun r hr => ?_)
      · rw [eS, eT]
      · show pkS (up θ 40 0 0 0) u r = _
        rw [eM, eH, eT]
  · exact jBr_no I hn h
theorem if_sm {c : Prop} [Decidable c] {a b : Int} (h : c → a = b) : (if c then a else b) = b := by
  split
  · rename_i q
    exact h q
  · rfl
theorem prM_1 {θ : xS} {z s : Int} (hh : hasP θ (3 * z + s) (θ 9 z 0) s) {r : Nat} (h : r < 20 ∨ 30 ≤ r ∧ r ≠ 41) (h40 : r ≠ 40) : prM (up θ 40 0 0 0) θ z s 0 r = up (ldS (prT1 θ z) z s (prH θ z)) 15 (3 * z + s) 0 (plC (cOn θ (θ 9 z 0) s) 32) r := by
  have p9 : (prT1 θ z) 9 = θ 9 := prT1_r (by decide) (by decide)
  have p18 : (prT1 θ z) 18 = θ 18 := prT1_r (by decide) (by decide)
  have hcT : cOn (prT1 θ z) (θ 9 z 0) s = cOn θ (θ 9 z 0) s := by
    funext k
    exact cOn_c (prT1_r (by decide) (by decide)) (prT1_r (by decide) (by decide))
  have hsT : shT (prT1 θ z) (θ 9 z 0) = shT θ (θ 9 z 0) := shT_c (prT1_r (by decide) (by decide))
  obtain ⟨-, -, hq⟩ := hh
  unfold prM ldS
  rw [p9, p18, hcT, hsT]
  generalize plC (cOn θ (θ 9 z 0) s) 32 = C at hq ⊢
  generalize plR (fun _ => 0) (cOn θ (θ 9 z 0) s) 32 = f1 at hq ⊢
  generalize rwU (θ 18 0) (cOn θ (θ 9 z 0) s) 32 = f2
  generalize pgA (shT θ (θ 9 z 0)) s 0 = v
  generalize prH θ z = v2
  unfold prT1
  by_cases h12 : r = 12
  · subst h12
    funext i j
    simp (discharger := decide) only [up_r, upR_r, up_e, upR_e]
  by_cases h13 : r = 13
  · subst h13
    funext i j
    simp (discharger := decide) only [up_r, upR_r, up_e]
    exact if_sm (fun q => by rw [q.1, q.2]; omega)
  by_cases h15 : r = 15
  · subst h15
    funext i j
    simp (discharger := decide) only [up_r, upR_r, up_e, upR_e]
  by_cases h17 : r = 17
  · subst h17
    funext i j
    simp (discharger := decide) only [up_r, upR_r, upR_e]
    refine if_sm (fun q => ?_)
    rw [q]
    unfold rwU
    exact if_sm (fun w => (hq j w.1 w.2).symm)
  by_cases h18 : r = 18
  · subst h18
    funext i j
    simp (discharger := decide) only [up_r, upR_r, up_e, upR_e]
  by_cases h33 : r = 33
  · subst h33
    funext i j
    simp (discharger := decide) only [up_r, upR_r, up_e, upR_e]
  by_cases h34 : r = 34
  · subst h34
    funext i j
    simp (discharger := decide) only [up_r, upR_r, up_e]
    exact if_sm (fun q => by rw [q.1, q.2]; omega)
  by_cases h35 : r = 35
  · subst h35
    funext i j
    simp (discharger := decide) only [up_r, upR_r, up_e, upR_e]
  by_cases h36 : r = 36
  · subst h36
    funext i j
    simp (discharger := decide) only [up_r, upR_r, up_e, upR_e]
  by_cases h37 : r = 37
  · subst h37
    funext i j
    simp (discharger := decide) only [up_r, upR_r, up_e, upR_e]
  by_cases h38 : r = 38
  · subst h38
    funext i j
    simp (discharger := decide) only [up_r, upR_r, up_e, upR_e]
  simp only [up_r h12, up_r h13, up_r h15, upR_r h17, upR_r h18, up_r h33, up_r h34, up_r h35, up_r h36, up_r h37, up_r h38, up_r h40]
theorem prM_3 {θ : xS} {z s : Int} {r : Nat} (h : r < 20 ∨ 30 ≤ r ∧ r ≠ 41) (h40 : r ≠ 40) : prM (up θ 40 0 0 0) θ z s 1 r = up (ldS (prT3 θ z s) z s (prH θ z)) 15 (3 * z + s) 0 (plC (cOn θ (θ 9 z 0) s) 32) r := by
  have p9 : (prT3 θ z s) 9 = θ 9 := prT3_r (by decide) (by decide) (by decide) (by decide) (by decide) (by decide) (by decide)
  have p18 : (prT3 θ z s) 18 = θ 18 := prT3_r (by decide) (by decide) (by decide) (by decide) (by decide) (by decide) (by decide)
  have p0 : (prT3 θ z s) 0 = θ 0 := prT3_r (by decide) (by decide) (by decide) (by decide) (by decide) (by decide) (by decide)
  have p1 : (prT3 θ z s) 1 = θ 1 := prT3_r (by decide) (by decide) (by decide) (by decide) (by decide) (by decide) (by decide)
  have hcT : cOn (prT3 θ z s) (θ 9 z 0) s = cOn θ (θ 9 z 0) s := by
    funext k
    exact cOn_c p0 p1
  have hsT : shT (prT3 θ z s) (θ 9 z 0) = shT θ (θ 9 z 0) := shT_c p1
  have hc2 : cOn (prT2 θ z) (θ 9 z 0) s = cOn θ (θ 9 z 0) s := by
    funext k
    exact cOn_c (prT2_r (by decide) (by decide) (by decide) (by decide)) (prT2_r (by decide) (by decide) (by decide) (by decide))
  have p17 : (prT2 θ z) 17 = θ 17 := prT2_r (by decide) (by decide) (by decide) (by decide)
  unfold prM ldS
  rw [p9, p18, hcT, hsT]
  unfold prT3 plS
  rw [p17, hc2, plR_f (f := θ 17 (3 * z + s)) (g := fun _ => 0) (by decide)]
  generalize plC (cOn θ (θ 9 z 0) s) 32 = C
  generalize rwU (θ 17 (3 * z + s)) (plR (fun _ => 0) (cOn θ (θ 9 z 0) s) 32) C = f
  generalize rwU (θ 18 0) (cOn θ (θ 9 z 0) s) 32 = f2
  generalize pgA (shT θ (θ 9 z 0)) s 0 = v
  generalize prH θ z = v2
  unfold prT2 prT1
  by_cases h12 : r = 12
  · subst h12
    funext i j
    simp (discharger := decide) only [up_r, upR_r, up_e, upR_e]
  by_cases h13 : r = 13
  · subst h13
    funext i j
    simp (discharger := decide) only [up_r, upR_r, up_e, upR_e]
  by_cases h15 : r = 15
  · subst h15
    funext i j
    simp (discharger := decide) only [up_r, upR_r, up_e, upR_e]
  by_cases h17 : r = 17
  · subst h17
    funext i j
    simp (discharger := decide) only [up_r, upR_r, up_e, upR_e]
  by_cases h18 : r = 18
  · subst h18
    funext i j
    simp (discharger := decide) only [up_r, upR_r, up_e, upR_e]
  by_cases h33 : r = 33
  · subst h33
    funext i j
    simp (discharger := decide) only [up_r, upR_r, up_e, upR_e]
  by_cases h34 : r = 34
  · subst h34
    funext i j
    simp (discharger := decide) only [up_r, upR_r, up_e, upR_e]
  by_cases h35 : r = 35
  · subst h35
    funext i j
    simp (discharger := decide) only [up_r, upR_r, up_e, upR_e]
  by_cases h36 : r = 36
  · subst h36
    funext i j
    simp (discharger := decide) only [up_r, upR_r, up_e, upR_e]
  by_cases h37 : r = 37
  · subst h37
    funext i j
    simp (discharger := decide) only [up_r, upR_r, up_e, upR_e]
  by_cases h38 : r = 38
  · subst h38
    funext i j
    simp (discharger := decide) only [up_r, upR_r, up_e, upR_e]
  have h27 : r ≠ 27 := by omega
  have h28 : r ≠ 28 := by omega
  simp only [up_r h12, up_r h13, up_r h15, upR_r h17, upR_r h18, up_r h33, up_r h34, up_r h35, up_r h36, up_r h37, up_r h38, up_r h40, up_r h27, up_r h28]
theorem b_prt {n : Int} {θ : xS} {z s : Int} (I : xI n θ) (hn : n < 512) : jBr (n + 1) (kPrt θ z s) (mQ (kPrt θ z s) (prtS θ z s) θ) (mS (kPrt θ z s) (fun σ9 => prM σ9 θ z s (bI (¬ (hasP θ (3 * z + s) (θ 9 z 0) s)))) θ) := by
  by_cases h : kPrt θ z s = 0
  · rw [mQ_0 h, mS_0 h]
    have I2 := I.ls
    have hh : (0 ≤ z ∧ z < θ 32 0 0) ∧ (0 ≤ s ∧ s < shT θ (θ 9 z 0)) ∧ ¬ (θ 33 0 0 < θ 10 z 0 ∨ bI (hasP θ (3 * z + s) (θ 9 z 0) s) = 0 ∧ θ 34 0 0 = 0) := by unfold kPrt at h; (repeat' split at h) <;> omega
    refine jBr_mk h (pr_prt I hn hh.1 hh.2.1 (by omega) (fun w => by omega)) (fun r _ b _ => ?_) (fun r hr => ?_)
    · unfold prtT
      rw [up_r b]
    · show prM (up θ 40 0 0 0) θ z s (bI (¬ (hasP θ (3 * z + s) (θ 9 z 0) s))) r = _
      by_cases h40 : r = 40
      · subst h40
        funext i j
        rw [up_e]
        unfold prM prtT prtS
        simp (discharger := decide) only [up_r, upR_r, up_e, ldS_r, prT_r]
      · rw [up_r h40]
        unfold prtT prtS prT
        by_cases c : hasP θ (3 * z + s) (θ 9 z 0) s
        · rw [bI_f (fun w => w c), if_neg (by rw [bI_t c]; decide)]
          exact prM_1 c hr h40
        · rw [bI_t c, if_pos (bI_f c)]
          exact prM_3 hr h40
  · exact jBr_no I hn h
