theorem lgC_0 {τ : xS} {d : Int} : ∀ m : Nat, (∀ j : Int, 0 ≤ j → j < m → τ 21 0 j ≠ d) → lgC τ d m = 0 := by
  intro m
  induction m with
  | zero => intro _; rfl
  | succ m ih =>
    intro h
    show (if τ 21 0 m = d then (if τ 20 0 m = 0 then lgC τ d m + 1 else if τ 20 0 m = 1 then lgC τ d m - 1 else lgC τ d m) else lgC τ d m) = 0
    rw [if_neg (h m (by omega) (by omega))]
    exact ih (fun j a b => h j a (by omega))
theorem pr_add {n : Int} {τ : xS} (I : xI n τ) (hn : n < 512) (h3 : τ 30 0 0 < 3) : xI (n + 1) (addS τ) := by
  have In := I.n0
  have J := I.mono (m := n + 1) (by omega) (by omega)
  have hr0 : (addS τ) 0 = τ 0 := by simp (discharger := decide) only [addS_r]
  have hr1 : (addS τ) 1 = τ 1 := by simp (discharger := decide) only [addS_r]
  have hr2 : (addS τ) 2 = τ 2 := by simp (discharger := decide) only [addS_r]
  have hr5 : (addS τ) 5 = τ 5 := by simp (discharger := decide) only [addS_r]
  have hr6 : (addS τ) 6 = τ 6 := by simp (discharger := decide) only [addS_r]
  have hr7 : (addS τ) 7 = τ 7 := by simp (discharger := decide) only [addS_r]
  have hr8 : (addS τ) 8 = τ 8 := by simp (discharger := decide) only [addS_r]
  have hr9 : (addS τ) 9 = τ 9 := by simp (discharger := decide) only [addS_r]
  have hr10 : (addS τ) 10 = τ 10 := by simp (discharger := decide) only [addS_r]
  have hr11 : (addS τ) 11 = τ 11 := by simp (discharger := decide) only [addS_r]
  have hr12 : (addS τ) 12 = τ 12 := by simp (discharger := decide) only [addS_r]
  have hr13 : (addS τ) 13 = τ 13 := by simp (discharger := decide) only [addS_r]
  have hr14 : (addS τ) 14 = τ 14 := by simp (discharger := decide) only [addS_r]
  have hr15 : (addS τ) 15 = τ 15 := by simp (discharger := decide) only [addS_r]
  have hr16 : (addS τ) 16 = τ 16 := by simp (discharger := decide) only [addS_r]
  have hr17 : (addS τ) 17 = τ 17 := by simp (discharger := decide) only [addS_r]
  have hr18 : (addS τ) 18 = τ 18 := by simp (discharger := decide) only [addS_r]
  have hr20 : (addS τ) 20 = τ 20 := by simp (discharger := decide) only [addS_r]
  have hr21 : (addS τ) 21 = τ 21 := by simp (discharger := decide) only [addS_r]
  have hr22 : (addS τ) 22 = τ 22 := by simp (discharger := decide) only [addS_r]
  have hr23 : (addS τ) 23 = τ 23 := by simp (discharger := decide) only [addS_r]
  have hr24 : (addS τ) 24 = τ 24 := by simp (discharger := decide) only [addS_r]
  have hr25 : (addS τ) 25 = τ 25 := by simp (discharger := decide) only [addS_r]
  have hr26 : (addS τ) 26 = τ 26 := by simp (discharger := decide) only [addS_r]
  have hr27 : (addS τ) 27 = τ 27 := by simp (discharger := decide) only [addS_r]
  have hr28 : (addS τ) 28 = τ 28 := by simp (discharger := decide) only [addS_r]
  have hr31 : (addS τ) 31 = τ 31 := by simp (discharger := decide) only [addS_r]
  have hr32 : (addS τ) 32 = τ 32 := by simp (discharger := decide) only [addS_r]
  have hr33 : (addS τ) 33 = τ 33 := by simp (discharger := decide) only [addS_r]
  have hr34 : (addS τ) 34 = τ 34 := by simp (discharger := decide) only [addS_r]
  have hr35 : (addS τ) 35 = τ 35 := by simp (discharger := decide) only [addS_r]
  have hr36 : (addS τ) 36 = τ 36 := by simp (discharger := decide) only [addS_r]
  have hr37 : (addS τ) 37 = τ 37 := by simp (discharger := decide) only [addS_r]
  have hr38 : (addS τ) 38 = τ 38 := by simp (discharger := decide) only [addS_r]
  have hr39 : (addS τ) 39 = τ 39 := by simp (discharger := decide) only [addS_r]
  have hr41 : (addS τ) 41 = τ 41 := by simp (discharger := decide) only [addS_r]
  have h30 : (addS τ) 30 0 0 = τ 30 0 0 + 1 := by unfold addS; rw [up_s]
  have q3 : ∀ d : Int, d ≠ τ 30 0 0 → (addS τ) 3 d 0 = τ 3 d 0 := by intro d hd; unfold addS up; (repeat' split) <;> omega
  have e3 : (addS τ) 3 (τ 30 0 0) 0 = -1 := by unfold addS; simp (discharger := decide) only [up_r, up_s]
  have k31 : (addS τ) 31 0 0 = τ 31 0 0 := by rw [hr31]
  have k32 : (addS τ) 32 0 0 = τ 32 0 0 := by rw [hr32]
  have k41 : (addS τ) 41 0 0 = τ 41 0 0 := by rw [hr41]
  have li9 : lgI (addS τ) := by
    obtain ⟨l1, l2, l3, l4⟩ := J.li
    unfold lgI
    simp only [hr0, hr1, hr20, hr21, hr22, hr23, hr41, lgN_c hr20 hr21 hr22 hr23, lgC_c hr20 hr21]
    refine ⟨l1, fun d d0 d1 => ?_, fun d d0 d1 d2 => ?_, fun d d0 j j0 j1 => l4 d (by omega) j j0 j1⟩
    · by_cases e : d = τ 30 0 0
      · subst e
        obtain ⟨z1, z2, z3, z4⟩ := J.vd (τ 30 0 0) (Int.le_refl _)
        rw [z2]
        exact ⟨lgC_0 _ (fun j a b => l4 _ (Int.le_refl _) j a (by omega)), fun p a b => absurd b (by omega)⟩
      · exact l2 d d0 (by omega)
    · by_cases e : d = τ 30 0 0
      · exact absurd (by rw [e]; exact e3) d2
      · exact l3 d d0 (by omega) (by rw [← q3 d e]; exact d2)
  exact ⟨(by omega), (by simp only [hr0]; exact J.cd), (by simp only [hr1]; exact J.sz), (by simp only [hr2]; exact J.ver), (by intro i j; have e := J.pv i j; unfold addS up; (repeat' split) <;> omega), (by intro i j; have e := J.cl i j; unfold addS up; (repeat' split) <;> omega), (by intro i i0 i1; rw [hr5, h30]; have := J.on i i0 (by omega); omega), (by simp only [hr6]; exact J.fr), (by simp only [hr7]; exact J.to), (by simp only [hr8]; exact J.op), (by intro i i0 i1; rw [hr9, h30, shT_c hr1]; have := J.od i i0 (by omega); omega), (by simp only [hr10]; exact J.cp), (by simp only [hr11]; exact J.du), (by simp only [hr12]; exact J.pf), (by simp only [hr13]; exact J.lf), (by simp only [hr14]; exact J.pr), (by simp only [hr15]; exact J.pl), (by simp only [hr16]; exact J.pd), (by simp only [hr17]; exact J.pt), (by simp only [hr18]; exact J.im), (by rw [h30]; have := J.nd; omega), (by simp only [hr31]; exact J.nc), (by simp only [hr32]; exact J.no), (by simp only [hr33]; exact J.pa), (by simp only [hr34]; exact J.ls), (by simp only [hr32, hr35]; exact J.po), (by simp only [hr35, hr37, hr39]; exact J.ph), (by simp only [hr36]; exact J.ps), (by simp only [hr37]; exact J.pu), (by simp only [hr38]; exact J.pm), (by simp only [hr39]; exact J.hr), (by simp only [hr41]; exact J.lg), (by intro i; rw [hr24, shT_c hr1]; exact J.sh i), (by intro i; rw [hr25, wsA_c hr10 hr14]; exact J.wa i), (by simp only [hr14, hr26]; exact J.ip), (by simp only [hr27]; exact J.zs), (by simp only [hr28]; exact J.hp), (by simp only [hr15, hr27, hr28, hr32]; exact J.hl), (by intro d hd; rw [hr2, hr1, hr0]; exact J.vd d (by omega)), (by simp only [hr12, hr13, hr32]; exact J.vo), (by simp only [hr14, hr16, hr17, hr27, hr28, hr32]; exact J.vi), (by intro d d0 d1 d2; rw [hr1]; by_cases e : d = τ 30 0 0; exact absurd (by rw [e]; exact e3) d2; exact J.pe d d0 (by omega) (by rw [← q3 d e]; exact d2)), (by simp only [hr1, hr5, hr6, hr7, hr8, hr31]; exact J.sp), (by exact li9)⟩
theorem pr_com {n : Int} {τ : xS} {z f t : Int} (I : xI n τ) (hn : n < 512) (h8 : τ 31 0 0 < 8) (hz : 0 ≤ z ∧ z < τ 30 0 0) (hs : 0 ≤ f ∧ f < t ∧ t ≤ τ 1 (2 * z) 0) : xI (n + 1) (comS τ z f t) := by
  have In := I.n0
  have J := I.mono (m := n + 1) (by omega) (by omega)
  have hr0 : (comS τ z f t) 0 = τ 0 := by simp (discharger := decide) only [comS_r]
  have hr1 : (comS τ z f t) 1 = τ 1 := by simp (discharger := decide) only [comS_r]
  have hr2 : (comS τ z f t) 2 = τ 2 := by simp (discharger := decide) only [comS_r]
  have hr3 : (comS τ z f t) 3 = τ 3 := by simp (discharger := decide) only [comS_r]
  have hr4 : (comS τ z f t) 4 = τ 4 := by simp (discharger := decide) only [comS_r]
  have hr9 : (comS τ z f t) 9 = τ 9 := by simp (discharger := decide) only [comS_r]
  have hr10 : (comS τ z f t) 10 = τ 10 := by simp (discharger := decide) only [comS_r]
  have hr11 : (comS τ z f t) 11 = τ 11 := by simp (discharger := decide) only [comS_r]
  have hr12 : (comS τ z f t) 12 = τ 12 := by simp (discharger := decide) only [comS_r]
  have hr13 : (comS τ z f t) 13 = τ 13 := by simp (discharger := decide) only [comS_r]
  have hr14 : (comS τ z f t) 14 = τ 14 := by simp (discharger := decide) only [comS_r]
  have hr15 : (comS τ z f t) 15 = τ 15 := by simp (discharger := decide) only [comS_r]
  have hr16 : (comS τ z f t) 16 = τ 16 := by simp (discharger := decide) only [comS_r]
  have hr17 : (comS τ z f t) 17 = τ 17 := by simp (discharger := decide) only [comS_r]
  have hr18 : (comS τ z f t) 18 = τ 18 := by simp (discharger := decide) only [comS_r]
  have hr20 : (comS τ z f t) 20 = τ 20 := by simp (discharger := decide) only [comS_r]
  have hr21 : (comS τ z f t) 21 = τ 21 := by simp (discharger := decide) only [comS_r]
  have hr22 : (comS τ z f t) 22 = τ 22 := by simp (discharger := decide) only [comS_r]
  have hr23 : (comS τ z f t) 23 = τ 23 := by simp (discharger := decide) only [comS_r]
  have hr24 : (comS τ z f t) 24 = τ 24 := by simp (discharger := decide) only [comS_r]
  have hr25 : (comS τ z f t) 25 = τ 25 := by simp (discharger := decide) only [comS_r]
  have hr26 : (comS τ z f t) 26 = τ 26 := by simp (discharger := decide) only [comS_r]
  have hr27 : (comS τ z f t) 27 = τ 27 := by simp (discharger := decide) only [comS_r]
  have hr28 : (comS τ z f t) 28 = τ 28 := by simp (discharger := decide) only [comS_r]
  have hr30 : (comS τ z f t) 30 = τ 30 := by simp (discharger := decide) only [comS_r]
  have hr32 : (comS τ z f t) 32 = τ 32 := by simp (discharger := decide) only [comS_r]
  have hr33 : (comS τ z f t) 33 = τ 33 := by simp (discharger := decide) only [comS_r]
  have hr34 : (comS τ z f t) 34 = τ 34 := by simp (discharger := decide) only [comS_r]
  have hr35 : (comS τ z f t) 35 = τ 35 := by simp (discharger := decide) only [comS_r]
  have hr36 : (comS τ z f t) 36 = τ 36 := by simp (discharger := decide) only [comS_r]
  have hr37 : (comS τ z f t) 37 = τ 37 := by simp (discharger := decide) only [comS_r]
  have hr38 : (comS τ z f t) 38 = τ 38 := by simp (discharger := decide) only [comS_r]
  have hr39 : (comS τ z f t) 39 = τ 39 := by simp (discharger := decide) only [comS_r]
  have hr41 : (comS τ z f t) 41 = τ 41 := by simp (discharger := decide) only [comS_r]
  have k31 : (comS τ z f t) 31 0 0 = τ 31 0 0 + 1 := by unfold comS; rw [up_s]
  have q5 : ∀ c : Int, c ≠ τ 31 0 0 → (comS τ z f t) 5 c 0 = τ 5 c 0 := by intro c hc; unfold comS up; (repeat' split) <;> omega
  have e5 : (comS τ z f t) 5 (τ 31 0 0) 0 = z := by unfold comS; simp (discharger := decide) only [up_r, up_s]
  have q6 : ∀ c : Int, c ≠ τ 31 0 0 → (comS τ z f t) 6 c 0 = τ 6 c 0 := by intro c hc; unfold comS up; (repeat' split) <;> omega
  have e6 : (comS τ z f t) 6 (τ 31 0 0) 0 = f := by unfold comS; simp (discharger := decide) only [up_r, up_s]
  have q7 : ∀ c : Int, c ≠ τ 31 0 0 → (comS τ z f t) 7 c 0 = τ 7 c 0 := by intro c hc; unfold comS up; (repeat' split) <;> omega
  have e7 : (comS τ z f t) 7 (τ 31 0 0) 0 = t := by unfold comS; simp (discharger := decide) only [up_r, up_s]
  have q8 : ∀ c : Int, c ≠ τ 31 0 0 → (comS τ z f t) 8 c 0 = τ 8 c 0 := by intro c hc; unfold comS up; (repeat' split) <;> omega
  have e8 : (comS τ z f t) 8 (τ 31 0 0) 0 = 1 := by unfold comS; simp (discharger := decide) only [up_r, up_s]
  exact ⟨(by omega), (by simp only [hr0]; exact J.cd), (by simp only [hr1]; exact J.sz), (by simp only [hr2]; exact J.ver), (by simp only [hr3]; exact J.pv), (by simp only [hr4]; exact J.cl), (by intro i i0 i1; rw [hr30]; by_cases e : i = τ 31 0 0; rw [e, e5]; exact hz; rw [q5 i e]; exact J.on i i0 (by omega)), (by intro i j; have e := J.fr i j; have e2 := J.sz (2 * z) 0; unfold comS up; (repeat' split) <;> omega), (by intro i j; have e := J.to i j; have e2 := J.sz (2 * z) 0; unfold comS up; (repeat' split) <;> omega), (by intro i j; have e := J.op i j; unfold comS up; (repeat' split) <;> omega), (by intro i; rw [hr32, hr9, hr30, shT_c hr1]; exact J.od i), (by simp only [hr10]; exact J.cp), (by simp only [hr11]; exact J.du), (by simp only [hr12]; exact J.pf), (by simp only [hr13]; exact J.lf), (by simp only [hr14]; exact J.pr), (by simp only [hr15]; exact J.pl), (by simp only [hr16]; exact J.pd), (by simp only [hr17]; exact J.pt), (by simp only [hr18]; exact J.im), (by simp only [hr30]; exact J.nd), (by rw [k31]; have := J.nc; omega), (by simp only [hr32]; exact J.no), (by simp only [hr33]; exact J.pa), (by simp only [hr34]; exact J.ls), (by simp only [hr32, hr35]; exact J.po), (by simp only [hr35, hr37, hr39]; exact J.ph), (by simp only [hr36]; exact J.ps), (by simp only [hr37]; exact J.pu), (by simp only [hr38]; exact J.pm), (by simp only [hr39]; exact J.hr), (by simp only [hr41]; exact J.lg), (by intro i; rw [hr24, shT_c hr1]; exact J.sh i), (by intro i; rw [hr25, wsA_c hr10 hr14]; exact J.wa i), (by simp only [hr14, hr26]; exact J.ip), (by simp only [hr27]; exact J.zs), (by simp only [hr28]; exact J.hp), (by simp only [hr15, hr27, hr28, hr32]; exact J.hl), (by simp only [hr0, hr1, hr2, hr30]; exact J.vd), (by simp only [hr12, hr13, hr32]; exact J.vo), (by simp only [hr14, hr16, hr17, hr27, hr28, hr32]; exact J.vi), (by simp only [hr1, hr3, hr30]; exact J.pe), (by intro c c0 c1 c2; rw [hr1]; by_cases e : c = τ 31 0 0; rw [e, e5, e6, e7]; omega; rw [q6 c e, q7 c e, q5 c e]; exact J.sp c c0 (by omega) (by rw [← q8 c e]; exact c2)), (lgI_c J.li hr0 hr1 hr3 hr20 hr21 hr22 hr23 hr30 hr41)⟩
theorem pr_ord {n : Int} {τ : xS} {z c u : Int} (I : xI n τ) (hn : n < 512) (h6 : τ 32 0 0 < 6) (hz : 0 ≤ z ∧ z < τ 30 0 0) (hs : 1 ≤ shT τ z) (hc : 1 ≤ c ∧ c ≤ 500) (hu : 0 ≤ u ∧ u ≤ 999) : xI (n + 1) (m15 (ordS τ z c u) (τ 32 0 0) 3) := by
  have In := I.n0
  have J := I.mono (m := n + 1) (by omega) (by omega)
  have hr0 : (m15 (ordS τ z c u) (τ 32 0 0) 3) 0 = τ 0 := by simp (discharger := decide) only [m15_r, ordS_r]
  have hr1 : (m15 (ordS τ z c u) (τ 32 0 0) 3) 1 = τ 1 := by simp (discharger := decide) only [m15_r, ordS_r]
  have hr2 : (m15 (ordS τ z c u) (τ 32 0 0) 3) 2 = τ 2 := by simp (discharger := decide) only [m15_r, ordS_r]
  have hr3 : (m15 (ordS τ z c u) (τ 32 0 0) 3) 3 = τ 3 := by simp (discharger := decide) only [m15_r, ordS_r]
  have hr4 : (m15 (ordS τ z c u) (τ 32 0 0) 3) 4 = τ 4 := by simp (discharger := decide) only [m15_r, ordS_r]
  have hr5 : (m15 (ordS τ z c u) (τ 32 0 0) 3) 5 = τ 5 := by simp (discharger := decide) only [m15_r, ordS_r]
  have hr6 : (m15 (ordS τ z c u) (τ 32 0 0) 3) 6 = τ 6 := by simp (discharger := decide) only [m15_r, ordS_r]
  have hr7 : (m15 (ordS τ z c u) (τ 32 0 0) 3) 7 = τ 7 := by simp (discharger := decide) only [m15_r, ordS_r]
  have hr8 : (m15 (ordS τ z c u) (τ 32 0 0) 3) 8 = τ 8 := by simp (discharger := decide) only [m15_r, ordS_r]
  have hr12 : (m15 (ordS τ z c u) (τ 32 0 0) 3) 12 = τ 12 := by simp (discharger := decide) only [m15_r, ordS_r]
  have hr13 : (m15 (ordS τ z c u) (τ 32 0 0) 3) 13 = τ 13 := by simp (discharger := decide) only [m15_r, ordS_r]
  have hr14 : (m15 (ordS τ z c u) (τ 32 0 0) 3) 14 = τ 14 := by simp (discharger := decide) only [m15_r, ordS_r]
  have hr16 : (m15 (ordS τ z c u) (τ 32 0 0) 3) 16 = τ 16 := by simp (discharger := decide) only [m15_r, ordS_r]
  have hr17 : (m15 (ordS τ z c u) (τ 32 0 0) 3) 17 = τ 17 := by simp (discharger := decide) only [m15_r, ordS_r]
  have hr18 : (m15 (ordS τ z c u) (τ 32 0 0) 3) 18 = τ 18 := by simp (discharger := decide) only [m15_r, ordS_r]
  have hr20 : (m15 (ordS τ z c u) (τ 32 0 0) 3) 20 = τ 20 := by simp (discharger := decide) only [m15_r, ordS_r]
  have hr21 : (m15 (ordS τ z c u) (τ 32 0 0) 3) 21 = τ 21 := by simp (discharger := decide) only [m15_r, ordS_r]
  have hr22 : (m15 (ordS τ z c u) (τ 32 0 0) 3) 22 = τ 22 := by simp (discharger := decide) only [m15_r, ordS_r]
  have hr23 : (m15 (ordS τ z c u) (τ 32 0 0) 3) 23 = τ 23 := by simp (discharger := decide) only [m15_r, ordS_r]
  have hr24 : (m15 (ordS τ z c u) (τ 32 0 0) 3) 24 = τ 24 := by simp (discharger := decide) only [m15_r, ordS_r]
  have hr25 : (m15 (ordS τ z c u) (τ 32 0 0) 3) 25 = τ 25 := by simp (discharger := decide) only [m15_r, ordS_r]
  have hr26 : (m15 (ordS τ z c u) (τ 32 0 0) 3) 26 = τ 26 := by simp (discharger := decide) only [m15_r, ordS_r]
  have hr27 : (m15 (ordS τ z c u) (τ 32 0 0) 3) 27 = τ 27 := by simp (discharger := decide) only [m15_r, ordS_r]
  have hr28 : (m15 (ordS τ z c u) (τ 32 0 0) 3) 28 = τ 28 := by simp (discharger := decide) only [m15_r, ordS_r]
  have hr30 : (m15 (ordS τ z c u) (τ 32 0 0) 3) 30 = τ 30 := by simp (discharger := decide) only [m15_r, ordS_r]
  have hr31 : (m15 (ordS τ z c u) (τ 32 0 0) 3) 31 = τ 31 := by simp (discharger := decide) only [m15_r, ordS_r]
  have hr33 : (m15 (ordS τ z c u) (τ 32 0 0) 3) 33 = τ 33 := by simp (discharger := decide) only [m15_r, ordS_r]
  have hr34 : (m15 (ordS τ z c u) (τ 32 0 0) 3) 34 = τ 34 := by simp (discharger := decide) only [m15_r, ordS_r]
  have hr35 : (m15 (ordS τ z c u) (τ 32 0 0) 3) 35 = τ 35 := by simp (discharger := decide) only [m15_r, ordS_r]
  have hr36 : (m15 (ordS τ z c u) (τ 32 0 0) 3) 36 = τ 36 := by simp (discharger := decide) only [m15_r, ordS_r]
  have hr37 : (m15 (ordS τ z c u) (τ 32 0 0) 3) 37 = τ 37 := by simp (discharger := decide) only [m15_r, ordS_r]
  have hr38 : (m15 (ordS τ z c u) (τ 32 0 0) 3) 38 = τ 38 := by simp (discharger := decide) only [m15_r, ordS_r]
  have hr39 : (m15 (ordS τ z c u) (τ 32 0 0) 3) 39 = τ 39 := by simp (discharger := decide) only [m15_r, ordS_r]
  have hr41 : (m15 (ordS τ z c u) (τ 32 0 0) 3) 41 = τ 41 := by simp (discharger := decide) only [m15_r, ordS_r]
  have k32 : (m15 (ordS τ z c u) (τ 32 0 0) 3) 32 0 0 = τ 32 0 0 + 1 := by rw [m15_r (by decide)]; unfold ordS; rw [up_s]
  have q9 : ∀ o : Int, o ≠ τ 32 0 0 → (m15 (ordS τ z c u) (τ 32 0 0) 3) 9 o 0 = τ 9 o 0 := by intro o ho; rw [m15_r (by decide)]; unfold ordS up; (repeat' split) <;> omega
  have e9 : (m15 (ordS τ z c u) (τ 32 0 0) 3) 9 (τ 32 0 0) 0 = z := by rw [m15_r (by decide)]; unfold ordS; simp (discharger := decide) only [up_r, up_s]
  have q10 : ∀ o : Int, o ≠ τ 32 0 0 → (m15 (ordS τ z c u) (τ 32 0 0) 3) 10 o 0 = τ 10 o 0 := by intro o ho; rw [m15_r (by decide)]; unfold ordS up; (repeat' split) <;> omega
  have e10 : (m15 (ordS τ z c u) (τ 32 0 0) 3) 10 (τ 32 0 0) 0 = c := by rw [m15_r (by decide)]; unfold ordS; simp (discharger := decide) only [up_r, up_s]
  have q11 : ∀ o : Int, o ≠ τ 32 0 0 → (m15 (ordS τ z c u) (τ 32 0 0) 3) 11 o 0 = τ 11 o 0 := by intro o ho; rw [m15_r (by decide)]; unfold ordS up; (repeat' split) <;> omega
  have e11 : (m15 (ordS τ z c u) (τ 32 0 0) 3) 11 (τ 32 0 0) 0 = u := by rw [m15_r (by decide)]; unfold ordS; simp (discharger := decide) only [up_r, up_s]
  have q15 : ∀ i : Int, i < 3 * τ 32 0 0 → (m15 (ordS τ z c u) (τ 32 0 0) 3) 15 i 0 = τ 15 i 0 := by intro i hi; unfold m15; rw [if_neg (by omega), ordS_r (by decide) (by decide) (by decide) (by decide)]
  have e15 : ∀ i : Int, 3 * τ 32 0 0 ≤ i → i < 3 * τ 32 0 0 + 3 → (m15 (ordS τ z c u) (τ 32 0 0) 3) 15 i 0 = -1 := by intro i h0 h1; unfold m15; rw [if_pos (by omega)]
  have Ino := J.no
  exact ⟨(by omega), (by simp only [hr0]; exact J.cd), (by simp only [hr1]; exact J.sz), (by simp only [hr2]; exact J.ver), (by simp only [hr3]; exact J.pv), (by simp only [hr4]; exact J.cl), (by simp only [hr5, hr30, hr31]; exact J.on), (by simp only [hr6]; exact J.fr), (by simp only [hr7]; exact J.to), (by simp only [hr8]; exact J.op), (by intro i i0 i1; rw [hr30, shT_c hr1]; by_cases e : i = τ 32 0 0; rw [e, e9]; exact ⟨hz.1, hz.2, hs⟩; rw [q9 i e]; exact J.od i i0 (by omega)), (by intro i j; have e := J.cp i j; rw [m15_r (by decide)]; unfold ordS up; (repeat' split) <;> omega), (by intro i j; have e := J.du i j; rw [m15_r (by decide)]; unfold ordS up; (repeat' split) <;> omega), (by simp only [hr12]; exact J.pf), (by simp only [hr13]; exact J.lf), (by simp only [hr14]; exact J.pr), (by intro i j; have e := J.pl i j; unfold m15; rw [ordS_r (by decide) (by decide) (by decide) (by decide)]; split <;> omega), (by simp only [hr16]; exact J.pd), (by simp only [hr17]; exact J.pt), (by simp only [hr18]; exact J.im), (by simp only [hr30]; exact J.nd), (by simp only [hr31]; exact J.nc), (by rw [k32]; omega), (by simp only [hr33]; exact J.pa), (by simp only [hr34]; exact J.ls), (by rw [hr35, k32]; have := J.po; omega), (by simp only [hr35, hr37, hr39]; exact J.ph), (by simp only [hr36]; exact J.ps), (by simp only [hr37]; exact J.pu), (by simp only [hr38]; exact J.pm), (by simp only [hr39]; exact J.hr), (by simp only [hr41]; exact J.lg), (by intro i; rw [hr24, shT_c hr1]; exact J.sh i), (by intro o; rw [hr25, J.wa o]; unfold wsA; rw [hr14]; by_cases e : o = τ 32 0 0; rw [e, (J.vi (3 * τ 32 0 0) (Int.le_refl _)).1, (J.vi (3 * τ 32 0 0 + 1) (by omega)).1, (J.vi (3 * τ 32 0 0 + 2) (by omega)).1]; exact (Int.mul_zero _).trans (Int.mul_zero _).symm; rw [q10 o e]), (by simp only [hr14, hr26]; exact J.ip), (by simp only [hr27]; exact J.zs), (by simp only [hr28]; exact J.hp), (by intro i i0 i1; rw [hr28, hr27]; by_cases e : i < 3 * τ 32 0 0; rw [q15 i e]; exact J.hl i i0 e; rw [e15 i (by omega) (by omega)]; exact Or.inr ⟨(J.vi i (by omega)).2.2.1, rfl⟩), (by simp only [hr0, hr1, hr2, hr30]; exact J.vd), (by intro o ho; rw [hr12, hr13]; exact J.vo o (by omega)), (by intro i hi; rw [hr14, hr27, hr28, hr16, hr17]; exact J.vi i (by omega)), (by simp only [hr1, hr3, hr30]; exact J.pe), (by simp only [hr1, hr5, hr6, hr7, hr8, hr31]; exact J.sp), (lgI_c J.li hr0 hr1 hr3 hr20 hr21 hr22 hr23 hr30 hr41)⟩
