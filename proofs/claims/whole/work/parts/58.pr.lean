/-! what leaves the press, what goes on it; the state that both sides have then -/
theorem wzA_s {a : Int} (h : 0 ≤ a) : wzA (a + 1) = wzA a + (if a = 0 then 0 else 1) := by
  unfold wzA
  (repeat' split) <;> omega
def lvX (τ : xS) : Int := 3 * τ 35 0 0 + τ 36 0 0
def pasT (τ : xS) (h : Int) : xS := if pasP τ h then up (unlS (pasH τ h)) 14 (lvX τ) 0 (τ 14 (lvX τ) 0 + 1) else pasH τ h
theorem pr_lv {n : Int} {τ : xS} {u : Int} (I : xI n τ) (hn : n < 512) (hu : 1 ≤ u ∧ τ 39 0 0 + u ≤ 999) (hp : τ 35 0 0 ≠ -1) : xI (n + 1) (up (unlS (pasH τ u)) 14 (lvX τ) 0 (τ 14 (lvX τ) 0 + 1)) := by
  have In := I.n0
  have J := I.mono (m := n + 1) (by omega) (by omega)
  have hr0 : (up (unlS (pasH τ u)) 14 (lvX τ) 0 (τ 14 (lvX τ) 0 + 1)) 0 = τ 0 := by simp (discharger := decide) only [up_r, unlS_r, pasH_r]
  have hr1 : (up (unlS (pasH τ u)) 14 (lvX τ) 0 (τ 14 (lvX τ) 0 + 1)) 1 = τ 1 := by simp (discharger := decide) only [up_r, unlS_r, pasH_r]
  have hr2 : (up (unlS (pasH τ u)) 14 (lvX τ) 0 (τ 14 (lvX τ) 0 + 1)) 2 = τ 2 := by simp (discharger := decide) only [up_r, unlS_r, pasH_r]
  have hr3 : (up (unlS (pasH τ u)) 14 (lvX τ) 0 (τ 14 (lvX τ) 0 + 1)) 3 = τ 3 := by simp (discharger := decide) only [up_r, unlS_r, pasH_r]
  have hr4 : (up (unlS (pasH τ u)) 14 (lvX τ) 0 (τ 14 (lvX τ) 0 + 1)) 4 = τ 4 := by simp (discharger := decide) only [up_r, unlS_r, pasH_r]
  have hr5 : (up (unlS (pasH τ u)) 14 (lvX τ) 0 (τ 14 (lvX τ) 0 + 1)) 5 = τ 5 := by simp (discharger := decide) only [up_r, unlS_r, pasH_r]
  have hr6 : (up (unlS (pasH τ u)) 14 (lvX τ) 0 (τ 14 (lvX τ) 0 + 1)) 6 = τ 6 := by simp (discharger := decide) only [up_r, unlS_r, pasH_r]
  have hr7 : (up (unlS (pasH τ u)) 14 (lvX τ) 0 (τ 14 (lvX τ) 0 + 1)) 7 = τ 7 := by simp (discharger := decide) only [up_r, unlS_r, pasH_r]
  have hr8 : (up (unlS (pasH τ u)) 14 (lvX τ) 0 (τ 14 (lvX τ) 0 + 1)) 8 = τ 8 := by simp (discharger := decide) only [up_r, unlS_r, pasH_r]
  have hr9 : (up (unlS (pasH τ u)) 14 (lvX τ) 0 (τ 14 (lvX τ) 0 + 1)) 9 = τ 9 := by simp (discharger := decide) only [up_r, unlS_r, pasH_r]
  have hr10 : (up (unlS (pasH τ u)) 14 (lvX τ) 0 (τ 14 (lvX τ) 0 + 1)) 10 = τ 10 := by simp (discharger := decide) only [up_r, unlS_r, pasH_r]
  have hr11 : (up (unlS (pasH τ u)) 14 (lvX τ) 0 (τ 14 (lvX τ) 0 + 1)) 11 = τ 11 := by simp (discharger := decide) only [up_r, unlS_r, pasH_r]
  have hr12 : (up (unlS (pasH τ u)) 14 (lvX τ) 0 (τ 14 (lvX τ) 0 + 1)) 12 = τ 12 := by simp (discharger := decide) only [up_r, unlS_r, pasH_r]
  have hr13 : (up (unlS (pasH τ u)) 14 (lvX τ) 0 (τ 14 (lvX τ) 0 + 1)) 13 = τ 13 := by simp (discharger := decide) only [up_r, unlS_r, pasH_r]
  have hr15 : (up (unlS (pasH τ u)) 14 (lvX τ) 0 (τ 14 (lvX τ) 0 + 1)) 15 = τ 15 := by simp (discharger := decide) only [up_r, unlS_r, pasH_r]
  have hr17 : (up (unlS (pasH τ u)) 14 (lvX τ) 0 (τ 14 (lvX τ) 0 + 1)) 17 = τ 17 := by simp (discharger := decide) only [up_r, unlS_r, pasH_r]
  have hr18 : (up (unlS (pasH τ u)) 14 (lvX τ) 0 (τ 14 (lvX τ) 0 + 1)) 18 = τ 18 := by simp (discharger := decide) only [up_r, unlS_r, pasH_r]
  have hr20 : (up (unlS (pasH τ u)) 14 (lvX τ) 0 (τ 14 (lvX τ) 0 + 1)) 20 = τ 20 := by simp (discharger := decide) only [up_r, unlS_r, pasH_r]
  have hr21 : (up (unlS (pasH τ u)) 14 (lvX τ) 0 (τ 14 (lvX τ) 0 + 1)) 21 = τ 21 := by simp (discharger := decide) only [up_r, unlS_r, pasH_r]
  have hr22 : (up (unlS (pasH τ u)) 14 (lvX τ) 0 (τ 14 (lvX τ) 0 + 1)) 22 = τ 22 := by simp (discharger := decide) only [up_r, unlS_r, pasH_r]
  have hr23 : (up (unlS (pasH τ u)) 14 (lvX τ) 0 (τ 14 (lvX τ) 0 + 1)) 23 = τ 23 := by simp (discharger := decide) only [up_r, unlS_r, pasH_r]
  have hr24 : (up (unlS (pasH τ u)) 14 (lvX τ) 0 (τ 14 (lvX τ) 0 + 1)) 24 = τ 24 := by simp (discharger := decide) only [up_r, unlS_r, pasH_r]
  have hr27 : (up (unlS (pasH τ u)) 14 (lvX τ) 0 (τ 14 (lvX τ) 0 + 1)) 27 = τ 27 := by simp (discharger := decide) only [up_r, unlS_r, pasH_r]
  have hr28 : (up (unlS (pasH τ u)) 14 (lvX τ) 0 (τ 14 (lvX τ) 0 + 1)) 28 = τ 28 := by simp (discharger := decide) only [up_r, unlS_r, pasH_r]
  have hr30 : (up (unlS (pasH τ u)) 14 (lvX τ) 0 (τ 14 (lvX τ) 0 + 1)) 30 = τ 30 := by simp (discharger := decide) only [up_r, unlS_r, pasH_r]
  have hr31 : (up (unlS (pasH τ u)) 14 (lvX τ) 0 (τ 14 (lvX τ) 0 + 1)) 31 = τ 31 := by simp (discharger := decide) only [up_r, unlS_r, pasH_r]
  have hr32 : (up (unlS (pasH τ u)) 14 (lvX τ) 0 (τ 14 (lvX τ) 0 + 1)) 32 = τ 32 := by simp (discharger := decide) only [up_r, unlS_r, pasH_r]
  have hr33 : (up (unlS (pasH τ u)) 14 (lvX τ) 0 (τ 14 (lvX τ) 0 + 1)) 33 = τ 33 := by simp (discharger := decide) only [up_r, unlS_r, pasH_r]
  have hr34 : (up (unlS (pasH τ u)) 14 (lvX τ) 0 (τ 14 (lvX τ) 0 + 1)) 34 = τ 34 := by simp (discharger := decide) only [up_r, unlS_r, pasH_r]
  have hr36 : (up (unlS (pasH τ u)) 14 (lvX τ) 0 (τ 14 (lvX τ) 0 + 1)) 36 = τ 36 := by simp (discharger := decide) only [up_r, unlS_r, pasH_r]
  have hr37 : (up (unlS (pasH τ u)) 14 (lvX τ) 0 (τ 14 (lvX τ) 0 + 1)) 37 = τ 37 := by simp (discharger := decide) only [up_r, unlS_r, pasH_r]
  have hr38 : (up (unlS (pasH τ u)) 14 (lvX τ) 0 (τ 14 (lvX τ) 0 + 1)) 38 = τ 38 := by simp (discharger := decide) only [up_r, unlS_r, pasH_r]
  have hr41 : (up (unlS (pasH τ u)) 14 (lvX τ) 0 (τ 14 (lvX τ) 0 + 1)) 41 = τ 41 := by simp (discharger := decide) only [up_r, unlS_r, pasH_r]
  have i35 : (pasH τ u) 35 0 0 = τ 35 0 0 := by rw [pasH_r (by decide)]
  have i36 : (pasH τ u) 36 0 0 = τ 36 0 0 := by rw [pasH_r (by decide)]
  have X0 : 3 * (pasH τ u) 35 0 0 + (pasH τ u) 36 0 0 = lvX τ := by rw [i35, i36]; rfl
  have Ipo := J.po
  have Ips := J.ps
  have Ino := J.no
  have hX : 0 ≤ lvX τ ∧ lvX τ < 3 * τ 32 0 0 := by unfold lvX; omega
  have r14 : ∀ t j, (up (unlS (pasH τ u)) 14 (lvX τ) 0 (τ 14 (lvX τ) 0 + 1)) 14 t j = if t = lvX τ ∧ j = 0 then τ 14 (lvX τ) 0 + 1 else τ 14 t j := by
    intro t j
    rw [up_e, unlS_r (by decide) (by decide) (by decide) (by decide), pasH_r (by decide)]
  have r16 : ∀ t j, (up (unlS (pasH τ u)) 14 (lvX τ) 0 (τ 14 (lvX τ) 0 + 1)) 16 t j = if t = lvX τ then rwU (τ 16 (lvX τ)) (τ 18 0) 32 j else τ 16 t j := by
    intro t j
    rw [up_r (by decide)]
    unfold unlS tpS
    rw [up_r (by decide), X0, up_r (by decide), upR_e, pasH_r (by decide), pasH_r (by decide)]
    split
    · rfl
    · split
      · rw [pasH_r (by decide)]
      · rw [up_r (by decide), pasH_r (by decide)]
  have r25 : ∀ t j, (up (unlS (pasH τ u)) 14 (lvX τ) 0 (τ 14 (lvX τ) 0 + 1)) 25 t j = if t = τ 35 0 0 ∧ j = 0 ∧ τ 26 (lvX τ) 0 ≠ 0 then τ 25 (τ 35 0 0) 0 + τ 10 (τ 35 0 0) 0 else τ 25 t j := by
    intro t j
    rw [up_r (by decide)]
    unfold unlS tpS
    rw [up_r (by decide), X0, up_r (by decide), upR_r (by decide), i35, pasH_r (by decide)]
    by_cases c : τ 26 (lvX τ) 0 = 0
    · rw [if_pos c, if_neg (fun w => w.2.2 c), pasH_r (by decide)]
    · rw [if_neg c, up_e, pasH_r (by decide), pasH_r (by decide)]
      by_cases c2 : t = τ 35 0 0 ∧ j = 0
      · rw [if_pos c2, if_pos ⟨c2.1, c2.2, c⟩]
      · rw [if_neg c2, if_neg (fun w => c2 ⟨w.1, w.2.1⟩)]
  have r26 : ∀ t j, (up (unlS (pasH τ u)) 14 (lvX τ) 0 (τ 14 (lvX τ) 0 + 1)) 26 t j = if t = lvX τ ∧ j = 0 then 1 else τ 26 t j := by
    intro t j
    rw [up_r (by decide)]
    unfold unlS tpS
    rw [up_r (by decide), X0, up_e, upR_r (by decide)]
    split
    · rfl
    · split
      · rw [pasH_r (by decide)]
      · rw [up_r (by decide), pasH_r (by decide)]
  have r35 : (up (unlS (pasH τ u)) 14 (lvX τ) 0 (τ 14 (lvX τ) 0 + 1)) 35 0 0 = -1 := by
    rw [up_r (by decide)]
    unfold unlS
    rw [up_s]
  have r39 : (up (unlS (pasH τ u)) 14 (lvX τ) 0 (τ 14 (lvX τ) 0 + 1)) 39 0 0 = τ 39 0 0 + u := by
    rw [up_r (by decide), unlS_r (by decide) (by decide) (by decide) (by decide)]
    unfold pasH
    rw [up_s]
  have x_pr : ∀ i9 j9, 0 ≤ (up (unlS (pasH τ u)) 14 (lvX τ) 0 (τ 14 (lvX τ) 0 + 1)) 14 i9 j9 ∧ (up (unlS (pasH τ u)) 14 (lvX τ) 0 (τ 14 (lvX τ) 0 + 1)) 14 i9 j9 ≤ n + 1 := by
    intro i j
    have e := J.pr i j
    have e2 := I.pr (lvX τ) 0
    rw [r14]
    split <;> omega
  have x_pd : ∀ i9 k9, -1 ≤ (up (unlS (pasH τ u)) 14 (lvX τ) 0 (τ 14 (lvX τ) 0 + 1)) 16 i9 k9 ∧ (up (unlS (pasH τ u)) 14 (lvX τ) 0 (τ 14 (lvX τ) 0 + 1)) 16 i9 k9 ≤ 128527 := by
    intro i k
    rw [r16]
    split
    · unfold rwU
      split
      · exact J.im _ _
      · exact J.pd _ _
    · exact J.pd i k
  have x_po : (up (unlS (pasH τ u)) 14 (lvX τ) 0 (τ 14 (lvX τ) 0 + 1)) 35 0 0 = -1 ∨ 0 ≤ (up (unlS (pasH τ u)) 14 (lvX τ) 0 (τ 14 (lvX τ) 0 + 1)) 35 0 0 ∧ (up (unlS (pasH τ u)) 14 (lvX τ) 0 (τ 14 (lvX τ) 0 + 1)) 35 0 0 < (up (unlS (pasH τ u)) 14 (lvX τ) 0 (τ 14 (lvX τ) 0 + 1)) 32 0 0 := by
    exact Or.inl r35
  have x_ph : (up (unlS (pasH τ u)) 14 (lvX τ) 0 (τ 14 (lvX τ) 0 + 1)) 35 0 0 ≠ -1 → (up (unlS (pasH τ u)) 14 (lvX τ) 0 (τ 14 (lvX τ) 0 + 1)) 39 0 0 < (up (unlS (pasH τ u)) 14 (lvX τ) 0 (τ 14 (lvX τ) 0 + 1)) 37 0 0 := by
    intro w
    exact absurd r35 w
  have x_hr : 0 ≤ (up (unlS (pasH τ u)) 14 (lvX τ) 0 (τ 14 (lvX τ) 0 + 1)) 39 0 0 ∧ (up (unlS (pasH τ u)) 14 (lvX τ) 0 (τ 14 (lvX τ) 0 + 1)) 39 0 0 ≤ 999 := by
    rw [r39]
    have e := J.hr
    omega
  have x_ip : ∀ i9, (up (unlS (pasH τ u)) 14 (lvX τ) 0 (τ 14 (lvX τ) 0 + 1)) 26 i9 0 = if (up (unlS (pasH τ u)) 14 (lvX τ) 0 (τ 14 (lvX τ) 0 + 1)) 14 i9 0 = 0 then 0 else 1 := by
    intro i
    rw [r26, r14]
    have e := J.ip i
    have e2 := J.pr (lvX τ) 0
    by_cases c : i = lvX τ ∧ (0 : Int) = 0
    · rw [if_pos c, if_pos c, if_neg (by omega)]
    · rw [if_neg c, if_neg c]
      exact e
  have x_wa : ∀ o9, (up (unlS (pasH τ u)) 14 (lvX τ) 0 (τ 14 (lvX τ) 0 + 1)) 25 o9 0 = wsA (up (unlS (pasH τ u)) 14 (lvX τ) 0 (τ 14 (lvX τ) 0 + 1)) o9 := by
    intro x
    rw [r25]
    unfold wsA
    rw [hr10, r14, r14, r14]
    have e := J.wa x
    unfold wsA at e
    have e2 := J.ip (lvX τ)
    have e3 := J.pr (lvX τ) 0
    by_cases c : x = τ 35 0 0
    · have hs : τ 36 0 0 = 0 ∨ τ 36 0 0 = 1 ∨ τ 36 0 0 = 2 := by omega
      have key : ∀ (a b d : Int), τ 25 x 0 = τ 10 x 0 * (a + b + d) → (if x = τ 35 0 0 ∧ (0 : Int) = 0 ∧ τ 26 (lvX τ) 0 ≠ 0 then τ 25 (τ 35 0 0) 0 + τ 10 (τ 35 0 0) 0 else τ 25 x 0) = τ 10 x 0 * ((a + (if τ 14 (lvX τ) 0 = 0 then 0 else 1)) + b + d) := by
        intro a b d h
        rw [e2]
        by_cases g : τ 14 (lvX τ) 0 = 0
        · rw [if_pos g, if_neg (fun w => w.2.2 rfl), h, Int.add_zero]
        · rw [if_neg g, if_pos ⟨c, rfl, by decide⟩, ← c, h]
          rw [show a + 1 + b + d = (a + b + d) + 1 by omega, Int.mul_add (τ 10 x 0) (a + b + d) 1, Int.mul_one]
      have hL : lvX τ = 3 * x ∨ lvX τ = 3 * x + 1 ∨ lvX τ = 3 * x + 2 := by unfold lvX; omega
      rcases hL with g | g | g
      · rw [g] at key e3 ⊢
        rw [if_pos (c := 3 * x = 3 * x ∧ (0 : Int) = 0) ⟨rfl, rfl⟩, if_neg (c := 3 * x + 1 = 3 * x ∧ (0 : Int) = 0) (by omega), if_neg (c := 3 * x + 2 = 3 * x ∧ (0 : Int) = 0) (by omega), wzA_s e3.1]
        exact key _ _ _ e
      · rw [g] at key e3 ⊢
        rw [if_neg (c := 3 * x = 3 * x + 1 ∧ (0 : Int) = 0) (by omega), if_pos (c := 3 * x + 1 = 3 * x + 1 ∧ (0 : Int) = 0) ⟨rfl, rfl⟩, if_neg (c := 3 * x + 2 = 3 * x + 1 ∧ (0 : Int) = 0) (by omega), wzA_s e3.1]
        have k := key (wzA (τ 14 (3 * x + 1) 0)) (wzA (τ 14 (3 * x) 0)) (wzA (τ 14 (3 * x + 2) 0)) (by rw [e]; congr 1; omega)
        rw [k]
        congr 1
        omega
      · rw [g] at key e3 ⊢
        rw [if_neg (c := 3 * x = 3 * x + 2 ∧ (0 : Int) = 0) (by omega), if_neg (c := 3 * x + 1 = 3 * x + 2 ∧ (0 : Int) = 0) (by omega), if_pos (c := 3 * x + 2 = 3 * x + 2 ∧ (0 : Int) = 0) ⟨rfl, rfl⟩, wzA_s e3.1]
        have k := key (wzA (τ 14 (3 * x + 2) 0)) (wzA (τ 14 (3 * x) 0)) (wzA (τ 14 (3 * x + 1) 0)) (by rw [e]; congr 1; omega)
        rw [k]
        congr 1
        omega
    · rw [if_neg (fun w => c w.1), if_neg (by unfold lvX; omega), if_neg (by unfold lvX; omega), if_neg (by unfold lvX; omega)]
      exact e
  have x_vi : ∀ i9, 3 * (up (unlS (pasH τ u)) 14 (lvX τ) 0 (τ 14 (lvX τ) 0 + 1)) 32 0 0 ≤ i9 → (up (unlS (pasH τ u)) 14 (lvX τ) 0 (τ 14 (lvX τ) 0 + 1)) 14 i9 0 = 0 ∧ (up (unlS (pasH τ u)) 14 (lvX τ) 0 (τ 14 (lvX τ) 0 + 1)) 27 i9 0 = 0 ∧ (up (unlS (pasH τ u)) 14 (lvX τ) 0 (τ 14 (lvX τ) 0 + 1)) 28 i9 0 = 0 ∧ ∀ k9, (up (unlS (pasH τ u)) 14 (lvX τ) 0 (τ 14 (lvX τ) 0 + 1)) 16 i9 k9 = 0 ∧ (up (unlS (pasH τ u)) 14 (lvX τ) 0 (τ 14 (lvX τ) 0 + 1)) 17 i9 k9 = 0 := by
    intro i hi
    rw [hr32] at hi
    obtain ⟨a, b, c, d⟩ := J.vi i hi
    refine ⟨?_, ?_, ?_, fun k => ⟨?_, ?_⟩⟩
    · rw [r14, if_neg (by omega)]; exact a
    · rw [hr27]; exact b
    · rw [hr28]; exact c
    · rw [r16, if_neg (by omega)]; exact (d k).1
    · rw [hr17]; exact (d k).2
  exact ⟨(by omega), (by simp only [hr0]; exact J.cd), (by simp only [hr1]; exact J.sz), (by simp only [hr2]; exact J.ver), (by simp only [hr3]; exact J.pv), (by simp only [hr4]; exact J.cl), (by simp only [hr5, hr30, hr31]; exact J.on), (by simp only [hr6]; exact J.fr), (by simp only [hr7]; exact J.to), (by simp only [hr8]; exact J.op), (by intro i; rw [hr32, hr9, hr30, shT_c hr1]; exact J.od i), (by simp only [hr10]; exact J.cp), (by simp only [hr11]; exact J.du), (by simp only [hr12]; exact J.pf), (by simp only [hr13]; exact J.lf), (by exact x_pr), (by simp only [hr15]; exact J.pl), (by exact x_pd), (by simp only [hr17]; exact J.pt), (by simp only [hr18]; exact J.im), (by simp only [hr30]; exact J.nd), (by simp only [hr31]; exact J.nc), (by simp only [hr32]; exact J.no), (by simp only [hr33]; exact J.pa), (by simp only [hr34]; exact J.ls), (by exact x_po), (by exact x_ph), (by simp only [hr36]; exact J.ps), (by simp only [hr37]; exact J.pu), (by simp only [hr38]; exact J.pm), (by exact x_hr), (by simp only [hr41]; exact J.lg), (by intro i; rw [hr24, shT_c hr1]; exact J.sh i), (by exact x_wa), (by exact x_ip), (by simp only [hr27]; exact J.zs), (by simp only [hr28]; exact J.hp), (by simp only [hr15, hr27, hr28, hr32]; exact J.hl), (by simp only [hr0, hr1, hr2, hr30]; exact J.vd), (by simp only [hr12, hr13, hr32]; exact J.vo), (by exact x_vi), (by simp only [hr1, hr3, hr30]; exact J.pe), (by simp only [hr1, hr5, hr6, hr7, hr8, hr31]; exact J.sp), (lgI_c J.li hr0 hr1 hr3 hr20 hr21 hr22 hr23 hr30 hr41)⟩
theorem pr_pas {n : Int} {τ : xS} {u : Int} (I : xI n τ) (hn : n < 512) (hu : 1 ≤ u ∧ τ 39 0 0 + u ≤ 999) : xI (n + 1) (pasT τ u) := by
  unfold pasT
  by_cases c : pasP τ u
  · rw [if_pos c]
    exact pr_lv I hn hu c.1
  · rw [if_neg c]
    exact pr_hour I hn hu (fun w => by
      have : ¬ τ 37 0 0 ≤ τ 39 0 0 + u := fun w2 => c ⟨w, w2⟩
      omega)
noncomputable def prtT (τ : xS) (z s : Int) : xS := up (prtS τ z s) 15 (3 * z + s) 0 (plC (cOn τ (τ 9 z 0) s) 32)
theorem pr_prt1 {n : Int} {τ : xS} {z s : Int} (I : xI n τ) (hn : n < 512) (hz : 0 ≤ z ∧ z < τ 32 0 0) (hs : 0 ≤ s ∧ s < shT τ (τ 9 z 0)) (hpp : τ 10 z 0 ≤ τ 33 0 0) (hh : hasP τ (3 * z + s) (τ 9 z 0) s) : xI (n + 1) (up (ldS (prT1 τ z) z s (prH τ z)) 15 (3 * z + s) 0 (plC (cOn τ (τ 9 z 0) s) 32)) := by
  have In := I.n0
  have J := I.mono (m := n + 1) (by omega) (by omega)
  have hr0 : (up (ldS (prT1 τ z) z s (prH τ z)) 15 (3 * z + s) 0 (plC (cOn τ (τ 9 z 0) s) 32)) 0 = τ 0 := by simp (discharger := decide) only [up_r, ldS_r, prT1_r]
  have hr1 : (up (ldS (prT1 τ z) z s (prH τ z)) 15 (3 * z + s) 0 (plC (cOn τ (τ 9 z 0) s) 32)) 1 = τ 1 := by simp (discharger := decide) only [up_r, ldS_r, prT1_r]
  have hr2 : (up (ldS (prT1 τ z) z s (prH τ z)) 15 (3 * z + s) 0 (plC (cOn τ (τ 9 z 0) s) 32)) 2 = τ 2 := by simp (discharger := decide) only [up_r, ldS_r, prT1_r]
  have hr3 : (up (ldS (prT1 τ z) z s (prH τ z)) 15 (3 * z + s) 0 (plC (cOn τ (τ 9 z 0) s) 32)) 3 = τ 3 := by simp (discharger := decide) only [up_r, ldS_r, prT1_r]
  have hr4 : (up (ldS (prT1 τ z) z s (prH τ z)) 15 (3 * z + s) 0 (plC (cOn τ (τ 9 z 0) s) 32)) 4 = τ 4 := by simp (discharger := decide) only [up_r, ldS_r, prT1_r]
  have hr5 : (up (ldS (prT1 τ z) z s (prH τ z)) 15 (3 * z + s) 0 (plC (cOn τ (τ 9 z 0) s) 32)) 5 = τ 5 := by simp (discharger := decide) only [up_r, ldS_r, prT1_r]
  have hr6 : (up (ldS (prT1 τ z) z s (prH τ z)) 15 (3 * z + s) 0 (plC (cOn τ (τ 9 z 0) s) 32)) 6 = τ 6 := by simp (discharger := decide) only [up_r, ldS_r, prT1_r]
  have hr7 : (up (ldS (prT1 τ z) z s (prH τ z)) 15 (3 * z + s) 0 (plC (cOn τ (τ 9 z 0) s) 32)) 7 = τ 7 := by simp (discharger := decide) only [up_r, ldS_r, prT1_r]
  have hr8 : (up (ldS (prT1 τ z) z s (prH τ z)) 15 (3 * z + s) 0 (plC (cOn τ (τ 9 z 0) s) 32)) 8 = τ 8 := by simp (discharger := decide) only [up_r, ldS_r, prT1_r]
  have hr9 : (up (ldS (prT1 τ z) z s (prH τ z)) 15 (3 * z + s) 0 (plC (cOn τ (τ 9 z 0) s) 32)) 9 = τ 9 := by simp (discharger := decide) only [up_r, ldS_r, prT1_r]
  have hr10 : (up (ldS (prT1 τ z) z s (prH τ z)) 15 (3 * z + s) 0 (plC (cOn τ (τ 9 z 0) s) 32)) 10 = τ 10 := by simp (discharger := decide) only [up_r, ldS_r, prT1_r]
  have hr11 : (up (ldS (prT1 τ z) z s (prH τ z)) 15 (3 * z + s) 0 (plC (cOn τ (τ 9 z 0) s) 32)) 11 = τ 11 := by simp (discharger := decide) only [up_r, ldS_r, prT1_r]
  have hr13 : (up (ldS (prT1 τ z) z s (prH τ z)) 15 (3 * z + s) 0 (plC (cOn τ (τ 9 z 0) s) 32)) 13 = τ 13 := by simp (discharger := decide) only [up_r, ldS_r, prT1_r]
  have hr14 : (up (ldS (prT1 τ z) z s (prH τ z)) 15 (3 * z + s) 0 (plC (cOn τ (τ 9 z 0) s) 32)) 14 = τ 14 := by simp (discharger := decide) only [up_r, ldS_r, prT1_r]
  have hr16 : (up (ldS (prT1 τ z) z s (prH τ z)) 15 (3 * z + s) 0 (plC (cOn τ (τ 9 z 0) s) 32)) 16 = τ 16 := by simp (discharger := decide) only [up_r, ldS_r, prT1_r]
  have hr17 : (up (ldS (prT1 τ z) z s (prH τ z)) 15 (3 * z + s) 0 (plC (cOn τ (τ 9 z 0) s) 32)) 17 = τ 17 := by simp (discharger := decide) only [up_r, ldS_r, prT1_r]
  have hr20 : (up (ldS (prT1 τ z) z s (prH τ z)) 15 (3 * z + s) 0 (plC (cOn τ (τ 9 z 0) s) 32)) 20 = τ 20 := by simp (discharger := decide) only [up_r, ldS_r, prT1_r]
  have hr21 : (up (ldS (prT1 τ z) z s (prH τ z)) 15 (3 * z + s) 0 (plC (cOn τ (τ 9 z 0) s) 32)) 21 = τ 21 := by simp (discharger := decide) only [up_r, ldS_r, prT1_r]
  have hr22 : (up (ldS (prT1 τ z) z s (prH τ z)) 15 (3 * z + s) 0 (plC (cOn τ (τ 9 z 0) s) 32)) 22 = τ 22 := by simp (discharger := decide) only [up_r, ldS_r, prT1_r]
  have hr23 : (up (ldS (prT1 τ z) z s (prH τ z)) 15 (3 * z + s) 0 (plC (cOn τ (τ 9 z 0) s) 32)) 23 = τ 23 := by simp (discharger := decide) only [up_r, ldS_r, prT1_r]
  have hr24 : (up (ldS (prT1 τ z) z s (prH τ z)) 15 (3 * z + s) 0 (plC (cOn τ (τ 9 z 0) s) 32)) 24 = τ 24 := by simp (discharger := decide) only [up_r, ldS_r, prT1_r]
  have hr25 : (up (ldS (prT1 τ z) z s (prH τ z)) 15 (3 * z + s) 0 (plC (cOn τ (τ 9 z 0) s) 32)) 25 = τ 25 := by simp (discharger := decide) only [up_r, ldS_r, prT1_r]
  have hr26 : (up (ldS (prT1 τ z) z s (prH τ z)) 15 (3 * z + s) 0 (plC (cOn τ (τ 9 z 0) s) 32)) 26 = τ 26 := by simp (discharger := decide) only [up_r, ldS_r, prT1_r]
  have hr27 : (up (ldS (prT1 τ z) z s (prH τ z)) 15 (3 * z + s) 0 (plC (cOn τ (τ 9 z 0) s) 32)) 27 = τ 27 := by simp (discharger := decide) only [up_r, ldS_r, prT1_r]
  have hr28 : (up (ldS (prT1 τ z) z s (prH τ z)) 15 (3 * z + s) 0 (plC (cOn τ (τ 9 z 0) s) 32)) 28 = τ 28 := by simp (discharger := decide) only [up_r, ldS_r, prT1_r]
  have hr30 : (up (ldS (prT1 τ z) z s (prH τ z)) 15 (3 * z + s) 0 (plC (cOn τ (τ 9 z 0) s) 32)) 30 = τ 30 := by simp (discharger := decide) only [up_r, ldS_r, prT1_r]
  have hr31 : (up (ldS (prT1 τ z) z s (prH τ z)) 15 (3 * z + s) 0 (plC (cOn τ (τ 9 z 0) s) 32)) 31 = τ 31 := by simp (discharger := decide) only [up_r, ldS_r, prT1_r]
  have hr32 : (up (ldS (prT1 τ z) z s (prH τ z)) 15 (3 * z + s) 0 (plC (cOn τ (τ 9 z 0) s) 32)) 32 = τ 32 := by simp (discharger := decide) only [up_r, ldS_r, prT1_r]
  have hr34 : (up (ldS (prT1 τ z) z s (prH τ z)) 15 (3 * z + s) 0 (plC (cOn τ (τ 9 z 0) s) 32)) 34 = τ 34 := by simp (discharger := decide) only [up_r, ldS_r, prT1_r]
  have hr39 : (up (ldS (prT1 τ z) z s (prH τ z)) 15 (3 * z + s) 0 (plC (cOn τ (τ 9 z 0) s) 32)) 39 = τ 39 := by simp (discharger := decide) only [up_r, ldS_r, prT1_r]
  have hr41 : (up (ldS (prT1 τ z) z s (prH τ z)) 15 (3 * z + s) 0 (plC (cOn τ (τ 9 z 0) s) 32)) 41 = τ 41 := by simp (discharger := decide) only [up_r, ldS_r, prT1_r]
  have Ino := J.no
  have hod := J.od z hz.1 hz.2
  have hsb := J.sb (τ 9 z 0)
  have hcp := J.cp z 0
  have hpc := plC_b (cd := (cOn τ (τ 9 z 0) s)) (m := 32) (by omega)
  have hcd : ∀ k, -1 ≤ cOn τ (τ 9 z 0) s k ∧ cOn τ (τ 9 z 0) s k ≤ 128527 := fun k => cOn_b J.cd (τ 9 z 0) s k
  have h9 : (prT1 τ z) 9 z 0 = τ 9 z 0 := by rw [prT1_r (by decide) (by decide)]
  have hcT : cOn (prT1 τ z) (τ 9 z 0) s = cOn τ (τ 9 z 0) s := by
    funext k
    exact cOn_c (prT1_r (by decide) (by decide)) (prT1_r (by decide) (by decide))
  have hsT : shT (prT1 τ z) (τ 9 z 0) = shT τ (τ 9 z 0) := shT_c (prT1_r (by decide) (by decide))
  have r15 : ∀ t j, (up (ldS (prT1 τ z) z s (prH τ z)) 15 (3 * z + s) 0 (plC (cOn τ (τ 9 z 0) s) 32)) 15 t j = if t = 3 * z + s ∧ j = 0 then plC (cOn τ (τ 9 z 0) s) 32 else τ 15 t j := by
    intro t j
    rw [up_e, ldS_r (by decide) (by decide) (by decide) (by decide) (by decide), prT1_r (by decide) (by decide)]
  have r18 : ∀ t j, (up (ldS (prT1 τ z) z s (prH τ z)) 15 (3 * z + s) 0 (plC (cOn τ (τ 9 z 0) s) 32)) 18 t j = if t = 0 then rwU (τ 18 0) (cOn τ (τ 9 z 0) s) 32 j else τ 18 t j := by
    intro t j
    rw [up_r (by decide)]
    unfold ldS
    rw [upR_e, h9, hcT]
    simp (discharger := decide) only [up_r, prT1_r]
  have r35 : (up (ldS (prT1 τ z) z s (prH τ z)) 15 (3 * z + s) 0 (plC (cOn τ (τ 9 z 0) s) 32)) 35 0 0 = z := by
    unfold ldS
    simp (discharger := decide) only [up_r, upR_r, up_s]
  have r36 : (up (ldS (prT1 τ z) z s (prH τ z)) 15 (3 * z + s) 0 (plC (cOn τ (τ 9 z 0) s) 32)) 36 0 0 = s := by
    unfold ldS
    simp (discharger := decide) only [up_r, upR_r, up_s]
  have r37 : (up (ldS (prT1 τ z) z s (prH τ z)) 15 (3 * z + s) 0 (plC (cOn τ (τ 9 z 0) s) 32)) 37 0 0 = prH τ z := by
    unfold ldS
    simp (discharger := decide) only [up_r, upR_r, up_s]
  have r38 : (up (ldS (prT1 τ z) z s (prH τ z)) 15 (3 * z + s) 0 (plC (cOn τ (τ 9 z 0) s) 32)) 38 0 0 = pgA (shT τ (τ 9 z 0)) s 0 := by
    unfold ldS
    rw [up_r (by decide), upR_r (by decide), up_s, h9, hsT]
  have hpg := pg_b (S := shT τ (τ 9 z 0)) (s := s) (q := 0) hs.1 hs.2 (by omega) hsb.2
  have r12 : ∀ t j, (up (ldS (prT1 τ z) z s (prH τ z)) 15 (3 * z + s) 0 (plC (cOn τ (τ 9 z 0) s) 32)) 12 t j = if t = z ∧ j = 0 then τ 12 z 0 + τ 10 z 0 else τ 12 t j := by
    intro t j
    rw [up_r (by decide), ldS_r (by decide) (by decide) (by decide) (by decide) (by decide)]
    unfold prT1
    rw [up_e, up_r (by decide)]
  have r33 : (up (ldS (prT1 τ z) z s (prH τ z)) 15 (3 * z + s) 0 (plC (cOn τ (τ 9 z 0) s) 32)) 33 0 0 = τ 33 0 0 - τ 10 z 0 := by
    rw [up_r (by decide), ldS_r (by decide) (by decide) (by decide) (by decide) (by decide)]
    unfold prT1
    rw [up_r (by decide), up_s]
  have x_pl : ∀ i9 j9, -1 ≤ (up (ldS (prT1 τ z) z s (prH τ z)) 15 (3 * z + s) 0 (plC (cOn τ (τ 9 z 0) s) 32)) 15 i9 j9 ∧ (up (ldS (prT1 τ z) z s (prH τ z)) 15 (3 * z + s) 0 (plC (cOn τ (τ 9 z 0) s) 32)) 15 i9 j9 ≤ 32 := by
    intro i j
    have e := J.pl i j
    rw [r15]
    split <;> omega
  have x_im : ∀ i9 k9, -1 ≤ (up (ldS (prT1 τ z) z s (prH τ z)) 15 (3 * z + s) 0 (plC (cOn τ (τ 9 z 0) s) 32)) 18 i9 k9 ∧ (up (ldS (prT1 τ z) z s (prH τ z)) 15 (3 * z + s) 0 (plC (cOn τ (τ 9 z 0) s) 32)) 18 i9 k9 ≤ 128527 := by
    intro i k
    rw [r18]
    split
    · unfold rwU
      split
      · exact hcd k
      · exact J.im _ _
    · exact J.im i k
  have x_po : (up (ldS (prT1 τ z) z s (prH τ z)) 15 (3 * z + s) 0 (plC (cOn τ (τ 9 z 0) s) 32)) 35 0 0 = -1 ∨ 0 ≤ (up (ldS (prT1 τ z) z s (prH τ z)) 15 (3 * z + s) 0 (plC (cOn τ (τ 9 z 0) s) 32)) 35 0 0 ∧ (up (ldS (prT1 τ z) z s (prH τ z)) 15 (3 * z + s) 0 (plC (cOn τ (τ 9 z 0) s) 32)) 35 0 0 < (up (ldS (prT1 τ z) z s (prH τ z)) 15 (3 * z + s) 0 (plC (cOn τ (τ 9 z 0) s) 32)) 32 0 0 := by
    rw [r35, hr32]
    omega
  have x_ph : (up (ldS (prT1 τ z) z s (prH τ z)) 15 (3 * z + s) 0 (plC (cOn τ (τ 9 z 0) s) 32)) 35 0 0 ≠ -1 → (up (ldS (prT1 τ z) z s (prH τ z)) 15 (3 * z + s) 0 (plC (cOn τ (τ 9 z 0) s) 32)) 39 0 0 < (up (ldS (prT1 τ z) z s (prH τ z)) 15 (3 * z + s) 0 (plC (cOn τ (τ 9 z 0) s) 32)) 37 0 0 := by
    intro _
    rw [r37, hr39]
    unfold prH
    omega
  have x_ps : 0 ≤ (up (ldS (prT1 τ z) z s (prH τ z)) 15 (3 * z + s) 0 (plC (cOn τ (τ 9 z 0) s) 32)) 36 0 0 ∧ (up (ldS (prT1 τ z) z s (prH τ z)) 15 (3 * z + s) 0 (plC (cOn τ (τ 9 z 0) s) 32)) 36 0 0 < 3 := by
    rw [r36]
    omega
  have x_pu : 0 ≤ (up (ldS (prT1 τ z) z s (prH τ z)) 15 (3 * z + s) 0 (plC (cOn τ (τ 9 z 0) s) 32)) 37 0 0 ∧ (up (ldS (prT1 τ z) z s (prH τ z)) 15 (3 * z + s) 0 (plC (cOn τ (τ 9 z 0) s) 32)) 37 0 0 ≤ 2000 := by
    rw [r37]
    have e := J.hr
    unfold prH
    omega
  have x_pm : 0 ≤ (up (ldS (prT1 τ z) z s (prH τ z)) 15 (3 * z + s) 0 (plC (cOn τ (τ 9 z 0) s) 32)) 38 0 0 ∧ (up (ldS (prT1 τ z) z s (prH τ z)) 15 (3 * z + s) 0 (plC (cOn τ (τ 9 z 0) s) 32)) 38 0 0 ≤ 100 := by
    rw [r38]
    omega
  have x_pf : ∀ i9 j9, 0 ≤ (up (ldS (prT1 τ z) z s (prH τ z)) 15 (3 * z + s) 0 (plC (cOn τ (τ 9 z 0) s) 32)) 12 i9 j9 ∧ (up (ldS (prT1 τ z) z s (prH τ z)) 15 (3 * z + s) 0 (plC (cOn τ (τ 9 z 0) s) 32)) 12 i9 j9 ≤ 500 * (n + 1) := by
    intro i j
    have e := I.pf i j
    have e2 := J.pf i j
    have e3 := I.pf z 0
    rw [r12]
    split <;> omega
  have x_pa : 0 ≤ (up (ldS (prT1 τ z) z s (prH τ z)) 15 (3 * z + s) 0 (plC (cOn τ (τ 9 z 0) s) 32)) 33 0 0 ∧ (up (ldS (prT1 τ z) z s (prH τ z)) 15 (3 * z + s) 0 (plC (cOn τ (τ 9 z 0) s) 32)) 33 0 0 ≤ 99999 := by
    rw [r33]
    have e := J.pa
    omega
  have x_vo : ∀ o9, (up (ldS (prT1 τ z) z s (prH τ z)) 15 (3 * z + s) 0 (plC (cOn τ (τ 9 z 0) s) 32)) 32 0 0 ≤ o9 → (up (ldS (prT1 τ z) z s (prH τ z)) 15 (3 * z + s) 0 (plC (cOn τ (τ 9 z 0) s) 32)) 12 o9 0 = 0 ∧ (up (ldS (prT1 τ z) z s (prH τ z)) 15 (3 * z + s) 0 (plC (cOn τ (τ 9 z 0) s) 32)) 13 o9 0 = 0 := by
    intro x hx
    rw [hr32] at hx
    have e := J.vo x hx
    rw [r12, if_neg (by omega), hr13]
    exact e
  have x_hl : ∀ i9, 0 ≤ i9 → i9 < 3 * (up (ldS (prT1 τ z) z s (prH τ z)) 15 (3 * z + s) 0 (plC (cOn τ (τ 9 z 0) s) 32)) 32 0 0 → ((up (ldS (prT1 τ z) z s (prH τ z)) 15 (3 * z + s) 0 (plC (cOn τ (τ 9 z 0) s) 32)) 28 i9 0 = 1 ∧ (up (ldS (prT1 τ z) z s (prH τ z)) 15 (3 * z + s) 0 (plC (cOn τ (τ 9 z 0) s) 32)) 15 i9 0 = (up (ldS (prT1 τ z) z s (prH τ z)) 15 (3 * z + s) 0 (plC (cOn τ (τ 9 z 0) s) 32)) 27 i9 0) ∨ ((up (ldS (prT1 τ z) z s (prH τ z)) 15 (3 * z + s) 0 (plC (cOn τ (τ 9 z 0) s) 32)) 28 i9 0 = 0 ∧ (up (ldS (prT1 τ z) z s (prH τ z)) 15 (3 * z + s) 0 (plC (cOn τ (τ 9 z 0) s) 32)) 15 i9 0 = -1) := by
    intro i i0 i1
    rw [hr32] at i1
    rw [hr28, hr27, r15]
    have e := J.hl i i0 i1
    by_cases c : i = 3 * z + s
    · rw [c, if_pos ⟨rfl, rfl⟩]
      exact Or.inl ⟨hh.1, hh.2.1⟩
    · rw [if_neg (by omega)]
      exact e
  exact ⟨(by omega), (by simp only [hr0]; exact J.cd), (by simp only [hr1]; exact J.sz), (by simp only [hr2]; exact J.ver), (by simp only [hr3]; exact J.pv), (by simp only [hr4]; exact J.cl), (by simp only [hr5, hr30, hr31]; exact J.on), (by simp only [hr6]; exact J.fr), (by simp only [hr7]; exact J.to), (by simp only [hr8]; exact J.op), (by intro i; rw [hr32, hr9, hr30, shT_c hr1]; exact J.od i), (by simp only [hr10]; exact J.cp), (by simp only [hr11]; exact J.du), (by exact x_pf), (by simp only [hr13]; exact J.lf), (by simp only [hr14]; exact J.pr), (by exact x_pl), (by simp only [hr16]; exact J.pd), (by simp only [hr17]; exact J.pt), (by exact x_im), (by simp only [hr30]; exact J.nd), (by simp only [hr31]; exact J.nc), (by simp only [hr32]; exact J.no), (by exact x_pa), (by simp only [hr34]; exact J.ls), (by exact x_po), (by exact x_ph), (by exact x_ps), (by exact x_pu), (by exact x_pm), (by simp only [hr39]; exact J.hr), (by simp only [hr41]; exact J.lg), (by intro i; rw [hr24, shT_c hr1]; exact J.sh i), (by intro i; rw [hr25, wsA_c hr10 hr14]; exact J.wa i), (by simp only [hr14, hr26]; exact J.ip), (by simp only [hr27]; exact J.zs), (by simp only [hr28]; exact J.hp), (by exact x_hl), (by simp only [hr0, hr1, hr2, hr30]; exact J.vd), (by exact x_vo), (by simp only [hr14, hr16, hr17, hr27, hr28, hr32]; exact J.vi), (by simp only [hr1, hr3, hr30]; exact J.pe), (by simp only [hr1, hr5, hr6, hr7, hr8, hr31]; exact J.sp), (lgI_c J.li hr0 hr1 hr3 hr20 hr21 hr22 hr23 hr30 hr41)⟩
theorem pr_prt3 {n : Int} {τ : xS} {z s : Int} (I : xI n τ) (hn : n < 512) (hz : 0 ≤ z ∧ z < τ 32 0 0) (hs : 0 ≤ s ∧ s < shT τ (τ 9 z 0)) (hpp : τ 10 z 0 ≤ τ 33 0 0) (hl1 : 1 ≤ τ 34 0 0) : xI (n + 1) (up (ldS (prT3 τ z s) z s (prH τ z)) 15 (3 * z + s) 0 (plC (cOn τ (τ 9 z 0) s) 32)) := by
  have In := I.n0
  have J := I.mono (m := n + 1) (by omega) (by omega)
  have hr0 : (up (ldS (prT3 τ z s) z s (prH τ z)) 15 (3 * z + s) 0 (plC (cOn τ (τ 9 z 0) s) 32)) 0 = τ 0 := by simp (discharger := decide) only [up_r, ldS_r, prT3_r]
  have hr1 : (up (ldS (prT3 τ z s) z s (prH τ z)) 15 (3 * z + s) 0 (plC (cOn τ (τ 9 z 0) s) 32)) 1 = τ 1 := by simp (discharger := decide) only [up_r, ldS_r, prT3_r]
  have hr2 : (up (ldS (prT3 τ z s) z s (prH τ z)) 15 (3 * z + s) 0 (plC (cOn τ (τ 9 z 0) s) 32)) 2 = τ 2 := by simp (discharger := decide) only [up_r, ldS_r, prT3_r]
  have hr3 : (up (ldS (prT3 τ z s) z s (prH τ z)) 15 (3 * z + s) 0 (plC (cOn τ (τ 9 z 0) s) 32)) 3 = τ 3 := by simp (discharger := decide) only [up_r, ldS_r, prT3_r]
  have hr4 : (up (ldS (prT3 τ z s) z s (prH τ z)) 15 (3 * z + s) 0 (plC (cOn τ (τ 9 z 0) s) 32)) 4 = τ 4 := by simp (discharger := decide) only [up_r, ldS_r, prT3_r]
  have hr5 : (up (ldS (prT3 τ z s) z s (prH τ z)) 15 (3 * z + s) 0 (plC (cOn τ (τ 9 z 0) s) 32)) 5 = τ 5 := by simp (discharger := decide) only [up_r, ldS_r, prT3_r]
  have hr6 : (up (ldS (prT3 τ z s) z s (prH τ z)) 15 (3 * z + s) 0 (plC (cOn τ (τ 9 z 0) s) 32)) 6 = τ 6 := by simp (discharger := decide) only [up_r, ldS_r, prT3_r]
  have hr7 : (up (ldS (prT3 τ z s) z s (prH τ z)) 15 (3 * z + s) 0 (plC (cOn τ (τ 9 z 0) s) 32)) 7 = τ 7 := by simp (discharger := decide) only [up_r, ldS_r, prT3_r]
  have hr8 : (up (ldS (prT3 τ z s) z s (prH τ z)) 15 (3 * z + s) 0 (plC (cOn τ (τ 9 z 0) s) 32)) 8 = τ 8 := by simp (discharger := decide) only [up_r, ldS_r, prT3_r]
  have hr9 : (up (ldS (prT3 τ z s) z s (prH τ z)) 15 (3 * z + s) 0 (plC (cOn τ (τ 9 z 0) s) 32)) 9 = τ 9 := by simp (discharger := decide) only [up_r, ldS_r, prT3_r]
  have hr10 : (up (ldS (prT3 τ z s) z s (prH τ z)) 15 (3 * z + s) 0 (plC (cOn τ (τ 9 z 0) s) 32)) 10 = τ 10 := by simp (discharger := decide) only [up_r, ldS_r, prT3_r]
  have hr11 : (up (ldS (prT3 τ z s) z s (prH τ z)) 15 (3 * z + s) 0 (plC (cOn τ (τ 9 z 0) s) 32)) 11 = τ 11 := by simp (discharger := decide) only [up_r, ldS_r, prT3_r]
  have hr14 : (up (ldS (prT3 τ z s) z s (prH τ z)) 15 (3 * z + s) 0 (plC (cOn τ (τ 9 z 0) s) 32)) 14 = τ 14 := by simp (discharger := decide) only [up_r, ldS_r, prT3_r]
  have hr16 : (up (ldS (prT3 τ z s) z s (prH τ z)) 15 (3 * z + s) 0 (plC (cOn τ (τ 9 z 0) s) 32)) 16 = τ 16 := by simp (discharger := decide) only [up_r, ldS_r, prT3_r]
  have hr20 : (up (ldS (prT3 τ z s) z s (prH τ z)) 15 (3 * z + s) 0 (plC (cOn τ (τ 9 z 0) s) 32)) 20 = τ 20 := by simp (discharger := decide) only [up_r, ldS_r, prT3_r]
  have hr21 : (up (ldS (prT3 τ z s) z s (prH τ z)) 15 (3 * z + s) 0 (plC (cOn τ (τ 9 z 0) s) 32)) 21 = τ 21 := by simp (discharger := decide) only [up_r, ldS_r, prT3_r]
  have hr22 : (up (ldS (prT3 τ z s) z s (prH τ z)) 15 (3 * z + s) 0 (plC (cOn τ (τ 9 z 0) s) 32)) 22 = τ 22 := by simp (discharger := decide) only [up_r, ldS_r, prT3_r]
  have hr23 : (up (ldS (prT3 τ z s) z s (prH τ z)) 15 (3 * z + s) 0 (plC (cOn τ (τ 9 z 0) s) 32)) 23 = τ 23 := by simp (discharger := decide) only [up_r, ldS_r, prT3_r]
  have hr24 : (up (ldS (prT3 τ z s) z s (prH τ z)) 15 (3 * z + s) 0 (plC (cOn τ (τ 9 z 0) s) 32)) 24 = τ 24 := by simp (discharger := decide) only [up_r, ldS_r, prT3_r]
  have hr25 : (up (ldS (prT3 τ z s) z s (prH τ z)) 15 (3 * z + s) 0 (plC (cOn τ (τ 9 z 0) s) 32)) 25 = τ 25 := by simp (discharger := decide) only [up_r, ldS_r, prT3_r]
  have hr26 : (up (ldS (prT3 τ z s) z s (prH τ z)) 15 (3 * z + s) 0 (plC (cOn τ (τ 9 z 0) s) 32)) 26 = τ 26 := by simp (discharger := decide) only [up_r, ldS_r, prT3_r]
  have hr30 : (up (ldS (prT3 τ z s) z s (prH τ z)) 15 (3 * z + s) 0 (plC (cOn τ (τ 9 z 0) s) 32)) 30 = τ 30 := by simp (discharger := decide) only [up_r, ldS_r, prT3_r]
  have hr31 : (up (ldS (prT3 τ z s) z s (prH τ z)) 15 (3 * z + s) 0 (plC (cOn τ (τ 9 z 0) s) 32)) 31 = τ 31 := by simp (discharger := decide) only [up_r, ldS_r, prT3_r]
  have hr32 : (up (ldS (prT3 τ z s) z s (prH τ z)) 15 (3 * z + s) 0 (plC (cOn τ (τ 9 z 0) s) 32)) 32 = τ 32 := by simp (discharger := decide) only [up_r, ldS_r, prT3_r]
  have hr39 : (up (ldS (prT3 τ z s) z s (prH τ z)) 15 (3 * z + s) 0 (plC (cOn τ (τ 9 z 0) s) 32)) 39 = τ 39 := by simp (discharger := decide) only [up_r, ldS_r, prT3_r]
  have hr41 : (up (ldS (prT3 τ z s) z s (prH τ z)) 15 (3 * z + s) 0 (plC (cOn τ (τ 9 z 0) s) 32)) 41 = τ 41 := by simp (discharger := decide) only [up_r, ldS_r, prT3_r]
  have Ino := J.no
  have hod := J.od z hz.1 hz.2
  have hsb := J.sb (τ 9 z 0)
  have hcp := J.cp z 0
  have hpc := plC_b (cd := (cOn τ (τ 9 z 0) s)) (m := 32) (by omega)
  have hcd : ∀ k, -1 ≤ cOn τ (τ 9 z 0) s k ∧ cOn τ (τ 9 z 0) s k ≤ 128527 := fun k => cOn_b J.cd (τ 9 z 0) s k
  have h9 : (prT3 τ z s) 9 z 0 = τ 9 z 0 := by rw [prT3_r (by decide) (by decide) (by decide) (by decide) (by decide) (by decide) (by decide)]
  have hcT : cOn (prT3 τ z s) (τ 9 z 0) s = cOn τ (τ 9 z 0) s := by
    funext k
    exact cOn_c (prT3_r (by decide) (by decide) (by decide) (by decide) (by decide) (by decide) (by decide)) (prT3_r (by decide) (by decide) (by decide) (by decide) (by decide) (by decide) (by decide))
  have hsT : shT (prT3 τ z s) (τ 9 z 0) = shT τ (τ 9 z 0) := shT_c (prT3_r (by decide) (by decide) (by decide) (by decide) (by decide) (by decide) (by decide))
  have r15 : ∀ t j, (up (ldS (prT3 τ z s) z s (prH τ z)) 15 (3 * z + s) 0 (plC (cOn τ (τ 9 z 0) s) 32)) 15 t j = if t = 3 * z + s ∧ j = 0 then plC (cOn τ (τ 9 z 0) s) 32 else τ 15 t j := by
    intro t j
    rw [up_e, ldS_r (by decide) (by decide) (by decide) (by decide) (by decide), prT3_r (by decide) (by decide) (by decide) (by decide) (by decide) (by decide) (by decide)]
  have r18 : ∀ t j, (up (ldS (prT3 τ z s) z s (prH τ z)) 15 (3 * z + s) 0 (plC (cOn τ (τ 9 z 0) s) 32)) 18 t j = if t = 0 then rwU (τ 18 0) (cOn τ (τ 9 z 0) s) 32 j else τ 18 t j := by
    intro t j
    rw [up_r (by decide)]
    unfold ldS
    rw [upR_e, h9, hcT]
    simp (discharger := decide) only [up_r, prT3_r]
  have r35 : (up (ldS (prT3 τ z s) z s (prH τ z)) 15 (3 * z + s) 0 (plC (cOn τ (τ 9 z 0) s) 32)) 35 0 0 = z := by
    unfold ldS
    simp (discharger := decide) only [up_r, upR_r, up_s]
  have r36 : (up (ldS (prT3 τ z s) z s (prH τ z)) 15 (3 * z + s) 0 (plC (cOn τ (τ 9 z 0) s) 32)) 36 0 0 = s := by
    unfold ldS
    simp (discharger := decide) only [up_r, upR_r, up_s]
  have r37 : (up (ldS (prT3 τ z s) z s (prH τ z)) 15 (3 * z + s) 0 (plC (cOn τ (τ 9 z 0) s) 32)) 37 0 0 = prH τ z := by
    unfold ldS
    simp (discharger := decide) only [up_r, upR_r, up_s]
  have r38 : (up (ldS (prT3 τ z s) z s (prH τ z)) 15 (3 * z + s) 0 (plC (cOn τ (τ 9 z 0) s) 32)) 38 0 0 = pgA (shT τ (τ 9 z 0)) s 0 := by
    unfold ldS
    rw [up_r (by decide), upR_r (by decide), up_s, h9, hsT]
  have hpg := pg_b (S := shT τ (τ 9 z 0)) (s := s) (q := 0) hs.1 hs.2 (by omega) hsb.2
  have hu : ∀ r, r ≠ 15 → r ≠ 35 → r ≠ 36 → r ≠ 37 → r ≠ 38 → r ≠ 18 → (up (ldS (prT3 τ z s) z s (prH τ z)) 15 (3 * z + s) 0 (plC (cOn τ (τ 9 z 0) s) 32)) r = (prT3 τ z s) r := by
    intro r a b c d e f
    rw [up_r a, ldS_r b c d e f]
  have h9b : ∀ k, cOn (prT2 τ z) (τ 9 z 0) s k = cOn τ (τ 9 z 0) s k := fun k => cOn_c (prT2_r (by decide) (by decide) (by decide) (by decide)) (prT2_r (by decide) (by decide) (by decide) (by decide))
  have h9c : cOn (prT2 τ z) (τ 9 z 0) s = cOn τ (τ 9 z 0) s := funext h9b
  have r12 : ∀ t j, (up (ldS (prT3 τ z s) z s (prH τ z)) 15 (3 * z + s) 0 (plC (cOn τ (τ 9 z 0) s) 32)) 12 t j = if t = z ∧ j = 0 then τ 12 z 0 + τ 10 z 0 else τ 12 t j := by
    intro t j
    rw [hu 12 (by decide) (by decide) (by decide) (by decide) (by decide) (by decide)]
    unfold prT3
    rw [up_r (by decide), plS_r (by decide) (by decide)]
    unfold prT2
    rw [up_r (by decide), up_r (by decide)]
    unfold prT1
    rw [up_e, up_r (by decide)]
  have r33 : (up (ldS (prT3 τ z s) z s (prH τ z)) 15 (3 * z + s) 0 (plC (cOn τ (τ 9 z 0) s) 32)) 33 0 0 = τ 33 0 0 - τ 10 z 0 := by
    rw [hu 33 (by decide) (by decide) (by decide) (by decide) (by decide) (by decide)]
    unfold prT3
    rw [up_r (by decide), plS_r (by decide) (by decide)]
    unfold prT2
    rw [up_r (by decide), up_r (by decide)]
    unfold prT1
    rw [up_r (by decide), up_s]
  have r34 : (up (ldS (prT3 τ z s) z s (prH τ z)) 15 (3 * z + s) 0 (plC (cOn τ (τ 9 z 0) s) 32)) 34 0 0 = τ 34 0 0 - 1 := by
    rw [hu 34 (by decide) (by decide) (by decide) (by decide) (by decide) (by decide)]
    unfold prT3
    rw [up_r (by decide), plS_r (by decide) (by decide)]
    unfold prT2
    rw [up_r (by decide), up_s]
  have r13 : ∀ t j, (up (ldS (prT3 τ z s) z s (prH τ z)) 15 (3 * z + s) 0 (plC (cOn τ (τ 9 z 0) s) 32)) 13 t j = if t = z ∧ j = 0 then τ 13 z 0 + 1 else τ 13 t j := by
    intro t j
    rw [hu 13 (by decide) (by decide) (by decide) (by decide) (by decide) (by decide)]
    unfold prT3
    rw [up_r (by decide), plS_r (by decide) (by decide)]
    unfold prT2
    rw [up_e, up_r (by decide), prT1_r (by decide) (by decide)]
  have r17 : ∀ t j, (up (ldS (prT3 τ z s) z s (prH τ z)) 15 (3 * z + s) 0 (plC (cOn τ (τ 9 z 0) s) 32)) 17 t j = if t = 3 * z + s then plR (τ 17 (3 * z + s)) (cOn τ (τ 9 z 0) s) 32 j else τ 17 t j := by
    intro t j
    rw [hu 17 (by decide) (by decide) (by decide) (by decide) (by decide) (by decide)]
    unfold prT3 plS
    rw [up_r (by decide), upR_e, up_r (by decide), h9c, prT2_r (by decide) (by decide) (by decide) (by decide)]
  have r27 : ∀ t j, (up (ldS (prT3 τ z s) z s (prH τ z)) 15 (3 * z + s) 0 (plC (cOn τ (τ 9 z 0) s) 32)) 27 t j = if t = 3 * z + s ∧ j = 0 then plC (cOn τ (τ 9 z 0) s) 32 else τ 27 t j := by
    intro t j
    rw [hu 27 (by decide) (by decide) (by decide) (by decide) (by decide) (by decide)]
    unfold prT3 plS
    rw [up_r (by decide), upR_r (by decide), up_e, h9c, prT2_r (by decide) (by decide) (by decide) (by decide)]
  have r28 : ∀ t j, (up (ldS (prT3 τ z s) z s (prH τ z)) 15 (3 * z + s) 0 (plC (cOn τ (τ 9 z 0) s) 32)) 28 t j = if t = 3 * z + s ∧ j = 0 then 1 else τ 28 t j := by
    intro t j
    rw [hu 28 (by decide) (by decide) (by decide) (by decide) (by decide) (by decide)]
    unfold prT3
    rw [up_e, plS_r (by decide) (by decide), prT2_r (by decide) (by decide) (by decide) (by decide)]
  have x_pl : ∀ i9 j9, -1 ≤ (up (ldS (prT3 τ z s) z s (prH τ z)) 15 (3 * z + s) 0 (plC (cOn τ (τ 9 z 0) s) 32)) 15 i9 j9 ∧ (up (ldS (prT3 τ z s) z s (prH τ z)) 15 (3 * z + s) 0 (plC (cOn τ (τ 9 z 0) s) 32)) 15 i9 j9 ≤ 32 := by
    intro i j
    have e := J.pl i j
    rw [r15]
    split <;> omega
  have x_im : ∀ i9 k9, -1 ≤ (up (ldS (prT3 τ z s) z s (prH τ z)) 15 (3 * z + s) 0 (plC (cOn τ (τ 9 z 0) s) 32)) 18 i9 k9 ∧ (up (ldS (prT3 τ z s) z s (prH τ z)) 15 (3 * z + s) 0 (plC (cOn τ (τ 9 z 0) s) 32)) 18 i9 k9 ≤ 128527 := by
    intro i k
    rw [r18]
    split
    · unfold rwU
      split
      · exact hcd k
      · exact J.im _ _
    · exact J.im i k
  have x_po : (up (ldS (prT3 τ z s) z s (prH τ z)) 15 (3 * z + s) 0 (plC (cOn τ (τ 9 z 0) s) 32)) 35 0 0 = -1 ∨ 0 ≤ (up (ldS (prT3 τ z s) z s (prH τ z)) 15 (3 * z + s) 0 (plC (cOn τ (τ 9 z 0) s) 32)) 35 0 0 ∧ (up (ldS (prT3 τ z s) z s (prH τ z)) 15 (3 * z + s) 0 (plC (cOn τ (τ 9 z 0) s) 32)) 35 0 0 < (up (ldS (prT3 τ z s) z s (prH τ z)) 15 (3 * z + s) 0 (plC (cOn τ (τ 9 z 0) s) 32)) 32 0 0 := by
    rw [r35, hr32]
    omega
  have x_ph : (up (ldS (prT3 τ z s) z s (prH τ z)) 15 (3 * z + s) 0 (plC (cOn τ (τ 9 z 0) s) 32)) 35 0 0 ≠ -1 → (up (ldS (prT3 τ z s) z s (prH τ z)) 15 (3 * z + s) 0 (plC (cOn τ (τ 9 z 0) s) 32)) 39 0 0 < (up (ldS (prT3 τ z s) z s (prH τ z)) 15 (3 * z + s) 0 (plC (cOn τ (τ 9 z 0) s) 32)) 37 0 0 := by
    intro _
    rw [r37, hr39]
    unfold prH
    omega
  have x_ps : 0 ≤ (up (ldS (prT3 τ z s) z s (prH τ z)) 15 (3 * z + s) 0 (plC (cOn τ (τ 9 z 0) s) 32)) 36 0 0 ∧ (up (ldS (prT3 τ z s) z s (prH τ z)) 15 (3 * z + s) 0 (plC (cOn τ (τ 9 z 0) s) 32)) 36 0 0 < 3 := by
    rw [r36]
    omega
  have x_pu : 0 ≤ (up (ldS (prT3 τ z s) z s (prH τ z)) 15 (3 * z + s) 0 (plC (cOn τ (τ 9 z 0) s) 32)) 37 0 0 ∧ (up (ldS (prT3 τ z s) z s (prH τ z)) 15 (3 * z + s) 0 (plC (cOn τ (τ 9 z 0) s) 32)) 37 0 0 ≤ 2000 := by
    rw [r37]
    have e := J.hr
    unfold prH
    omega
  have x_pm : 0 ≤ (up (ldS (prT3 τ z s) z s (prH τ z)) 15 (3 * z + s) 0 (plC (cOn τ (τ 9 z 0) s) 32)) 38 0 0 ∧ (up (ldS (prT3 τ z s) z s (prH τ z)) 15 (3 * z + s) 0 (plC (cOn τ (τ 9 z 0) s) 32)) 38 0 0 ≤ 100 := by
    rw [r38]
    omega
  have x_pf : ∀ i9 j9, 0 ≤ (up (ldS (prT3 τ z s) z s (prH τ z)) 15 (3 * z + s) 0 (plC (cOn τ (τ 9 z 0) s) 32)) 12 i9 j9 ∧ (up (ldS (prT3 τ z s) z s (prH τ z)) 15 (3 * z + s) 0 (plC (cOn τ (τ 9 z 0) s) 32)) 12 i9 j9 ≤ 500 * (n + 1) := by
    intro i j
    have e := I.pf i j
    have e2 := J.pf i j
    have e3 := I.pf z 0
    rw [r12]
    split <;> omega
  have x_pa : 0 ≤ (up (ldS (prT3 τ z s) z s (prH τ z)) 15 (3 * z + s) 0 (plC (cOn τ (τ 9 z 0) s) 32)) 33 0 0 ∧ (up (ldS (prT3 τ z s) z s (prH τ z)) 15 (3 * z + s) 0 (plC (cOn τ (τ 9 z 0) s) 32)) 33 0 0 ≤ 99999 := by
    rw [r33]
    have e := J.pa
    omega
  have x_ls : 0 ≤ (up (ldS (prT3 τ z s) z s (prH τ z)) 15 (3 * z + s) 0 (plC (cOn τ (τ 9 z 0) s) 32)) 34 0 0 ∧ (up (ldS (prT3 τ z s) z s (prH τ z)) 15 (3 * z + s) 0 (plC (cOn τ (τ 9 z 0) s) 32)) 34 0 0 ≤ 999 := by
    rw [r34]
    have e := J.ls
    omega
  have x_lf : ∀ i9 j9, 0 ≤ (up (ldS (prT3 τ z s) z s (prH τ z)) 15 (3 * z + s) 0 (plC (cOn τ (τ 9 z 0) s) 32)) 13 i9 j9 ∧ (up (ldS (prT3 τ z s) z s (prH τ z)) 15 (3 * z + s) 0 (plC (cOn τ (τ 9 z 0) s) 32)) 13 i9 j9 ≤ n + 1 := by
    intro i j
    have e := J.lf i j
    have e2 := I.lf z 0
    rw [r13]
    split <;> omega
  have x_vo : ∀ o9, (up (ldS (prT3 τ z s) z s (prH τ z)) 15 (3 * z + s) 0 (plC (cOn τ (τ 9 z 0) s) 32)) 32 0 0 ≤ o9 → (up (ldS (prT3 τ z s) z s (prH τ z)) 15 (3 * z + s) 0 (plC (cOn τ (τ 9 z 0) s) 32)) 12 o9 0 = 0 ∧ (up (ldS (prT3 τ z s) z s (prH τ z)) 15 (3 * z + s) 0 (plC (cOn τ (τ 9 z 0) s) 32)) 13 o9 0 = 0 := by
    intro x hx
    rw [hr32] at hx
    have e := J.vo x hx
    rw [r12, if_neg (by omega), r13, if_neg (by omega)]
    exact e
  have x_pt : ∀ i9 k9, -1 ≤ (up (ldS (prT3 τ z s) z s (prH τ z)) 15 (3 * z + s) 0 (plC (cOn τ (τ 9 z 0) s) 32)) 17 i9 k9 ∧ (up (ldS (prT3 τ z s) z s (prH τ z)) 15 (3 * z + s) 0 (plC (cOn τ (τ 9 z 0) s) 32)) 17 i9 k9 ≤ 128527 := by
    intro i k
    rw [r17]
    split
    · exact plR_b (fun q => J.pt _ q) hcd 32 k
    · exact J.pt i k
  have x_zs : ∀ i9, 0 ≤ (up (ldS (prT3 τ z s) z s (prH τ z)) 15 (3 * z + s) 0 (plC (cOn τ (τ 9 z 0) s) 32)) 27 i9 0 ∧ (up (ldS (prT3 τ z s) z s (prH τ z)) 15 (3 * z + s) 0 (plC (cOn τ (τ 9 z 0) s) 32)) 27 i9 0 ≤ 32 := by
    intro i
    have e := J.zs i
    rw [r27]
    split <;> omega
  have x_hp : ∀ i9 j9, (up (ldS (prT3 τ z s) z s (prH τ z)) 15 (3 * z + s) 0 (plC (cOn τ (τ 9 z 0) s) 32)) 28 i9 j9 = 0 ∨ (up (ldS (prT3 τ z s) z s (prH τ z)) 15 (3 * z + s) 0 (plC (cOn τ (τ 9 z 0) s) 32)) 28 i9 j9 = 1 := by
    intro i j
    have e := J.hp i j
    rw [r28]
    split <;> omega
  have x_vi : ∀ i9, 3 * (up (ldS (prT3 τ z s) z s (prH τ z)) 15 (3 * z + s) 0 (plC (cOn τ (τ 9 z 0) s) 32)) 32 0 0 ≤ i9 → (up (ldS (prT3 τ z s) z s (prH τ z)) 15 (3 * z + s) 0 (plC (cOn τ (τ 9 z 0) s) 32)) 14 i9 0 = 0 ∧ (up (ldS (prT3 τ z s) z s (prH τ z)) 15 (3 * z + s) 0 (plC (cOn τ (τ 9 z 0) s) 32)) 27 i9 0 = 0 ∧ (up (ldS (prT3 τ z s) z s (prH τ z)) 15 (3 * z + s) 0 (plC (cOn τ (τ 9 z 0) s) 32)) 28 i9 0 = 0 ∧ ∀ k9, (up (ldS (prT3 τ z s) z s (prH τ z)) 15 (3 * z + s) 0 (plC (cOn τ (τ 9 z 0) s) 32)) 16 i9 k9 = 0 ∧ (up (ldS (prT3 τ z s) z s (prH τ z)) 15 (3 * z + s) 0 (plC (cOn τ (τ 9 z 0) s) 32)) 17 i9 k9 = 0 := by
    intro i hi
    rw [hr32] at hi
    obtain ⟨a, b, c, d⟩ := J.vi i hi
    refine ⟨?_, ?_, ?_, fun k => ⟨?_, ?_⟩⟩
    · rw [hr14]; exact a
    · rw [r27, if_neg (by omega)]; exact b
    · rw [r28, if_neg (by omega)]; exact c
    · rw [hr16]; exact (d k).1
    · rw [r17, if_neg (by omega)]; exact (d k).2
  have x_hl : ∀ i9, 0 ≤ i9 → i9 < 3 * (up (ldS (prT3 τ z s) z s (prH τ z)) 15 (3 * z + s) 0 (plC (cOn τ (τ 9 z 0) s) 32)) 32 0 0 → ((up (ldS (prT3 τ z s) z s (prH τ z)) 15 (3 * z + s) 0 (plC (cOn τ (τ 9 z 0) s) 32)) 28 i9 0 = 1 ∧ (up (ldS (prT3 τ z s) z s (prH τ z)) 15 (3 * z + s) 0 (plC (cOn τ (τ 9 z 0) s) 32)) 15 i9 0 = (up (ldS (prT3 τ z s) z s (prH τ z)) 15 (3 * z + s) 0 (plC (cOn τ (τ 9 z 0) s) 32)) 27 i9 0) ∨ ((up (ldS (prT3 τ z s) z s (prH τ z)) 15 (3 * z + s) 0 (plC (cOn τ (τ 9 z 0) s) 32)) 28 i9 0 = 0 ∧ (up (ldS (prT3 τ z s) z s (prH τ z)) 15 (3 * z + s) 0 (plC (cOn τ (τ 9 z 0) s) 32)) 15 i9 0 = -1) := by
    intro i i0 i1
    rw [hr32] at i1
    rw [r28, r27, r15]
    have e := J.hl i i0 i1
    by_cases c : i = 3 * z + s
    · rw [if_pos ⟨c, rfl⟩, if_pos ⟨c, rfl⟩, if_pos ⟨c, rfl⟩]
      exact Or.inl ⟨rfl, rfl⟩
    · rw [if_neg (by omega), if_neg (by omega), if_neg (by omega)]
      exact e
  exact ⟨(by omega), (by simp only [hr0]; exact J.cd), (by simp only [hr1]; exact J.sz), (by simp only [hr2]; exact J.ver), (by simp only [hr3]; exact J.pv), (by simp only [hr4]; exact J.cl), (by simp only [hr5, hr30, hr31]; exact J.on), (by simp only [hr6]; exact J.fr), (by simp only [hr7]; exact J.to), (by simp only [hr8]; exact J.op), (by intro i; rw [hr32, hr9, hr30, shT_c hr1]; exact J.od i), (by simp only [hr10]; exact J.cp), (by simp only [hr11]; exact J.du), (by exact x_pf), (by exact x_lf), (by simp only [hr14]; exact J.pr), (by exact x_pl), (by simp only [hr16]; exact J.pd), (by exact x_pt), (by exact x_im), (by simp only [hr30]; exact J.nd), (by simp only [hr31]; exact J.nc), (by simp only [hr32]; exact J.no), (by exact x_pa), (by exact x_ls), (by exact x_po), (by exact x_ph), (by exact x_ps), (by exact x_pu), (by exact x_pm), (by simp only [hr39]; exact J.hr), (by simp only [hr41]; exact J.lg), (by intro i; rw [hr24, shT_c hr1]; exact J.sh i), (by intro i; rw [hr25, wsA_c hr10 hr14]; exact J.wa i), (by simp only [hr14, hr26]; exact J.ip), (by exact x_zs), (by exact x_hp), (by exact x_hl), (by simp only [hr0, hr1, hr2, hr30]; exact J.vd), (by exact x_vo), (by exact x_vi), (by simp only [hr1, hr3, hr30]; exact J.pe), (by simp only [hr1, hr5, hr6, hr7, hr8, hr31]; exact J.sp), (lgI_c J.li hr0 hr1 hr3 hr20 hr21 hr22 hr23 hr30 hr41)⟩
theorem pr_prt {n : Int} {τ : xS} {z s : Int} (I : xI n τ) (hn : n < 512) (hz : 0 ≤ z ∧ z < τ 32 0 0) (hs : 0 ≤ s ∧ s < shT τ (τ 9 z 0)) (hpp : τ 10 z 0 ≤ τ 33 0 0) (hl : bI (hasP τ (3 * z + s) (τ 9 z 0) s) = 0 → 1 ≤ τ 34 0 0) : xI (n + 1) (prtT τ z s) := by
  unfold prtT prtS prT
  by_cases c : bI (hasP τ (3 * z + s) (τ 9 z 0) s) = 0
  · rw [if_pos c]
    exact pr_prt3 I hn hz hs hpp (hl c)
  · rw [if_neg c]
    have hh : hasP τ (3 * z + s) (τ 9 z 0) s := Classical.byContradiction (fun w => c (bI_f w))
    exact pr_prt1 I hn hz hs hpp hh
