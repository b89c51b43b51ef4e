/-! the log's invariant by the regions it speaks of -/
theorem lgN_c {τ τ2 : xS} (h20 : τ2 20 = τ 20) (h21 : τ2 21 = τ 21) (h22 : τ2 22 = τ 22) (h23 : τ2 23 = τ 23) (d : Int) : ∀ (m : Nat) (p : Int), lgN τ2 d m p = lgN τ d m p := by
  intro m
  induction m with
  | zero => intro p; rfl
  | succ m ih =>
    intro p
    show (if τ2 21 0 m = d then (if τ2 20 0 m = 0 then (if τ2 22 0 m = p then τ2 23 0 m else if τ2 22 0 m < p then lgN τ2 d m (p - 1) else lgN τ2 d m p) else if τ2 20 0 m = 1 then (if τ2 22 0 m ≤ p then lgN τ2 d m (p + 1) else lgN τ2 d m p) else lgN τ2 d m p) else lgN τ2 d m p) = _
    rw [h20, h21, h22, h23, ih, ih, ih]
    rfl
theorem lgC_c {τ τ2 : xS} (h20 : τ2 20 = τ 20) (h21 : τ2 21 = τ 21) (d : Int) : ∀ (m : Nat), lgC τ2 d m = lgC τ d m := by
  intro m
  induction m with
  | zero => rfl
  | succ m ih =>
    show (if τ2 21 0 m = d then (if τ2 20 0 m = 0 then lgC τ2 d m + 1 else if τ2 20 0 m = 1 then lgC τ2 d m - 1 else lgC τ2 d m) else lgC τ2 d m) = _
    rw [h20, h21, ih]
    rfl
theorem lgI_c {τ τ2 : xS} (h : lgI τ) (h0 : τ2 0 = τ 0) (h1 : τ2 1 = τ 1) (h3 : τ2 3 = τ 3) (h20 : τ2 20 = τ 20) (h21 : τ2 21 = τ 21) (h22 : τ2 22 = τ 22) (h23 : τ2 23 = τ 23) (h30 : τ2 30 = τ 30) (h41 : τ2 41 = τ 41) : lgI τ2 := by
  unfold lgI
  simp only [h0, h1, h3, h20, h21, h22, h23, h30, h41, lgN_c h20 h21 h22 h23, lgC_c h20 h21]
  exact h
theorem xI.mono {n m : Int} {τ : xS} (I : xI n τ) (h : n ≤ m) (h2 : m ≤ 512) : xI m τ := by
  have h0 := I.n0
  obtain ⟨_, cd, sz, ver, pv, cl, on, fr, to, op, od, cp, du, pf, lf, pr, pl, pd, pt, im, nd, nc, no, pa, ls, po, ph, ps, pu, pm, hr, lg, r⟩ := I
  exact ⟨by omega, cd, sz, fun i j => by have := ver i j; omega, fun i j => by have := pv i j; omega, cl, on, fr, to, op, od, cp, du, fun i j => by have := pf i j; omega, fun i j => by have := lf i j; omega, fun i j => by have := pr i j; omega, pl, pd, pt, im, nd, nc, no, pa, ls, po, ph, ps, pu, pm, hr, by omega, r⟩
theorem wsA_c {τ τ2 : xS} (h10 : τ2 10 = τ 10) (h14 : τ2 14 = τ 14) (o : Int) : wsA τ2 o = wsA τ o := by unfold wsA; rw [h10, h14]
