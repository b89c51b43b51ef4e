/-! the log, one entry longer -/
theorem lgN_e {τ τ2 : xS} (d : Int) : ∀ (m : Nat), (∀ j : Int, 0 ≤ j → j < m → τ2 20 0 j = τ 20 0 j ∧ τ2 21 0 j = τ 21 0 j ∧ τ2 22 0 j = τ 22 0 j ∧ τ2 23 0 j = τ 23 0 j) → ∀ p, lgN τ2 d m p = lgN τ d m p := by
  intro m
  induction m with
  | zero => intro _ p; rfl
  | succ m ih =>
    intro h p
    obtain ⟨e0, e1, e2, e3⟩ := h m (by omega) (by omega)
    have ih2 := ih (fun j a b => h j a (by omega))
    show (if τ2 21 0 m = d then (if τ2 20 0 m = 0 then (if τ2 22 0 m = p then τ2 23 0 m else if τ2 22 0 m < p then lgN τ2 d m (p - 1) else lgN τ2 d m p) else if τ2 20 0 m = 1 then (if τ2 22 0 m ≤ p then lgN τ2 d m (p + 1) else lgN τ2 d m p) else lgN τ2 d m p) else lgN τ2 d m p) = _
    rw [e0, e1, e2, e3, ih2, ih2, ih2]
    rfl
theorem lgC_e {τ τ2 : xS} (d : Int) : ∀ (m : Nat), (∀ j : Int, 0 ≤ j → j < m → τ2 20 0 j = τ 20 0 j ∧ τ2 21 0 j = τ 21 0 j) → lgC τ2 d m = lgC τ d m := by
  intro m
  induction m with
  | zero => intro _; rfl
  | succ m ih =>
    intro h
    obtain ⟨e0, e1⟩ := h m (by omega) (by omega)
    have ih2 := ih (fun j a b => h j a (by omega))
    show (if τ2 21 0 m = d then (if τ2 20 0 m = 0 then lgC τ2 d m + 1 else if τ2 20 0 m = 1 then lgC τ2 d m - 1 else lgC τ2 d m) else lgC τ2 d m) = _
    rw [e0, e1, ih2]
    rfl
theorem lgI_A {τ β : xS} {k d p c : Int} (h : lgI τ) (hs : 0 ≤ τ 41 0 0) (b20 : β 20 = τ 20) (b21 : β 21 = τ 21) (b22 : β 22 = τ 22) (b23 : β 23 = τ 23) (b41 : β 41 = τ 41) (b30 : β 30 = τ 30)
    (hk : 0 ≤ k ∧ k ≤ 2) (hd : 0 ≤ d ∧ d < τ 30 0 0) (h3 : τ 30 0 0 ≤ 3) (hp : 0 ≤ p ∧ p ≤ 80) (hc : -1 ≤ c ∧ c ≤ 128527) (hpn : k = 0 → p ≤ τ 1 (2 * d) 0)
    (o1 : ∀ x, 0 ≤ x → x < τ 30 0 0 → ¬ x = d → β 1 (2 * x) 0 = τ 1 (2 * x) 0 ∧ ∀ q, β 0 (2 * x) q = τ 0 (2 * x) q)
    (o2 : β 1 (2 * d) 0 = (if k = 0 then τ 1 (2 * d) 0 + 1 else if k = 1 then τ 1 (2 * d) 0 - 1 else τ 1 (2 * d) 0))
    (o3 : ∀ q, 0 ≤ q → q < β 1 (2 * d) 0 → β 0 (2 * d) q = (if k = 0 then (if p = q then c else if p < q then τ 0 (2 * d) (q - 1) else τ 0 (2 * d) q) else if k = 1 then (if p ≤ q then τ 0 (2 * d) (q + 1) else τ 0 (2 * d) q) else τ 0 (2 * d) q))
    (o4 : ∀ x, 0 ≤ x → x < τ 30 0 0 → β 3 x 0 ≠ -1 → (k = 2 ∧ x = d) ∨ (τ 3 x 0 ≠ -1 ∧ ¬ (k = 2 ∧ x = d) ∧ β 1 (2 * x + 1) 0 = τ 1 (2 * x + 1) 0 ∧ ∀ q, β 0 (2 * x + 1) q = τ 0 (2 * x + 1) q))
    (o5 : k = 2 → β 1 (2 * d + 1) 0 = τ 1 (2 * d) 0 ∧ ∀ q, 0 ≤ q → q < τ 1 (2 * d) 0 → β 0 (2 * d + 1) q = τ 0 (2 * d) q) : lgI (lgA β k d p c) := by
  obtain ⟨l1, l2, l3, l4⟩ := h
  have a20 : ∀ j, ¬ j = τ 41 0 0 → lgA β k d p c 20 0 j = τ 20 0 j := by
    intro j hj
    unfold lgA
    simp (discharger := decide) only [up_r, b41]
    rw [up_n (by omega), b20]
  have s20 : lgA β k d p c 20 0 (τ 41 0 0) = k := by
    unfold lgA
    simp (discharger := decide) only [up_r, b41, up_s]
  have a21 : ∀ j, ¬ j = τ 41 0 0 → lgA β k d p c 21 0 j = τ 21 0 j := by
    intro j hj
    unfold lgA
    simp (discharger := decide) only [up_r, b41]
    rw [up_n (by omega)]
    simp (discharger := decide) only [up_r, b21]
  have s21 : lgA β k d p c 21 0 (τ 41 0 0) = d := by
    unfold lgA
    simp (discharger := decide) only [up_r, b41, up_s]
  have a22 : ∀ j, ¬ j = τ 41 0 0 → lgA β k d p c 22 0 j = τ 22 0 j := by
    intro j hj
    unfold lgA
    simp (discharger := decide) only [up_r, b41]
    rw [up_n (by omega)]
    simp (discharger := decide) only [up_r, b22]
  have s22 : lgA β k d p c 22 0 (τ 41 0 0) = p := by
    unfold lgA
    simp (discharger := decide) only [up_r, b41, up_s]
  have a23 : ∀ j, ¬ j = τ 41 0 0 → lgA β k d p c 23 0 j = τ 23 0 j := by
    intro j hj
    unfold lgA
    simp (discharger := decide) only [up_r, b41]
    rw [up_n (by omega)]
    simp (discharger := decide) only [up_r, b23]
  have s23 : lgA β k d p c 23 0 (τ 41 0 0) = c := by
    unfold lgA
    simp (discharger := decide) only [up_r, b41, up_s]
  have h41 : lgA β k d p c 41 0 0 = τ 41 0 0 + 1 := by
    unfold lgA
    simp only [up_s, b41]
  have h30 : lgA β k d p c 30 = τ 30 := by
    rw [lgA_r (by decide) (by decide) (by decide) (by decide) (by decide), b30]
  have h0 : lgA β k d p c 0 = β 0 := lgA_r (by decide) (by decide) (by decide) (by decide) (by decide)
  have h1 : lgA β k d p c 1 = β 1 := lgA_r (by decide) (by decide) (by decide) (by decide) (by decide)
  have h3r : lgA β k d p c 3 = β 3 := lgA_r (by decide) (by decide) (by decide) (by decide) (by decide)
  have N : ∀ (x : Int) (m : Nat), (m : Int) ≤ τ 41 0 0 → ∀ q, lgN (lgA β k d p c) x m q = lgN τ x m q := fun x m hm => lgN_e x m (fun j a b => ⟨a20 j (by omega), a21 j (by omega), a22 j (by omega), a23 j (by omega)⟩)
  have Q : ∀ (x : Int) (m : Nat), (m : Int) ≤ τ 41 0 0 → lgC (lgA β k d p c) x m = lgC τ x m := fun x m hm => lgC_e x m (fun j a b => ⟨a20 j (by omega), a21 j (by omega)⟩)
  have hn : (((τ 41 0 0).toNat : Nat) : Int) ≤ τ 41 0 0 := by omega
  unfold lgI
  simp only [h41, h30, h0, h1, h3r]
  refine ⟨?_, ?_, ?_, ?_⟩
  · intro j j0 j1
    by_cases e : j = τ 41 0 0
    · rw [e, s20, s21, s22, s23]
      exact ⟨hk, ⟨hd.1, by omega⟩, hp, hc⟩
    · rw [a20 j e, a21 j e, a22 j e, a23 j e]
      exact l1 j j0 (by omega)
  · intro x x0 x1
    have L := l2 x x0 x1
    by_cases e : x = d
    · rw [e] at L ⊢
      refine ⟨?_, fun q q0 q1 => ?_⟩
      · rw [lgC_s hs, s21, if_pos rfl, s20, Q d _ hn, L.1, o2]
      · rw [lgN_s hs, s21, if_pos rfl, s20, s22, s23, o3 q q0 q1]
        simp only [N d _ hn]
        rw [o2] at q1
        by_cases k0 : k = 0
        · rw [if_pos k0] at q1
          rw [if_pos k0, if_pos k0]
          have hq := hpn k0
          by_cases c1 : p = q
          · rw [if_pos c1, if_pos c1]
          · rw [if_neg c1, if_neg c1]
            by_cases c2 : p < q
            · rw [if_pos c2, if_pos c2]
              exact L.2 _ (by omega) (by omega)
            · rw [if_neg c2, if_neg c2]
              exact L.2 _ q0 (by omega)
        · rw [if_neg k0] at q1
          rw [if_neg k0, if_neg k0]
          by_cases k1 : k = 1
          · rw [if_pos k1] at q1
            rw [if_pos k1, if_pos k1]
            by_cases c1 : p ≤ q
            · rw [if_pos c1, if_pos c1]
              exact L.2 _ (by omega) (by omega)
            · rw [if_neg c1, if_neg c1]
              exact L.2 _ q0 (by omega)
          · rw [if_neg k1] at q1
            rw [if_neg k1, if_neg k1]
            exact L.2 _ q0 q1
    · obtain ⟨w1, w2⟩ := o1 x x0 x1 e
      refine ⟨?_, fun q q0 q1 => ?_⟩
      · rw [lgC_s hs, s21, if_neg (fun w => e w.symm), Q x _ hn, w1]
        exact L.1
      · rw [w1] at q1
        rw [lgN_s hs, s21, if_neg (fun w => e w.symm), N x _ hn, w2]
        exact L.2 q q0 q1
  · intro x x0 x1 x2
    rcases o4 x x0 x1 x2 with ⟨k2, e⟩ | ⟨t3, nk, e1, e0⟩
    · refine ⟨τ 41 0 0, hs, by omega, by rw [s21, e], by rw [s20, k2], fun j a b => absurd a (by omega), ?_, fun q q0 q1 => ?_⟩
      · rw [e, Q d _ hn, (l2 d hd.1 hd.2).1, (o5 k2).1]
      · rw [e] at q1 ⊢
        rw [(o5 k2).1] at q1
        rw [N d _ hn, (o5 k2).2 q q0 q1]
        exact (l2 d hd.1 hd.2).2 q q0 q1
    · obtain ⟨z, y0, y1, y2, y3, y4, y5, y6⟩ := l3 x x0 x1 t3
      refine ⟨z, y0, by omega, by rw [a21 z (by omega)]; exact y2, by rw [a20 z (by omega)]; exact y3, fun j a b => ?_, ?_, fun q q0 q1 => ?_⟩
      · by_cases ej : j = τ 41 0 0
        · rw [ej, s21, s20]
          exact fun w => nk ⟨w.2, w.1.symm⟩
        · rw [a21 j ej, a20 j ej]
          exact y4 j a (by omega)
      · rw [Q x _ (by omega), y5, e1]
      · rw [e1] at q1
        rw [N x _ (by omega), e0]
        exact y6 q q0 q1
  · intro x hx j j0 j1
    by_cases ej : j = τ 41 0 0
    · rw [ej, s21]
      omega
    · rw [a21 j ej]
      exact l4 x hx j j0 (by omega)
theorem mvS_67 {β τ : xS} {d p k b : Int} (h5 : β 5 = τ 5) (h6 : β 6 = τ 6) (h7 : β 7 = τ 7) (h8 : β 8 = τ 8) (h31 : β 31 = τ 31) (i j : Int) : (mvS β d p k b (β 31 0 0) 6 i j = τ 6 i j ∧ mvS β d p k b (β 31 0 0) 7 i j = τ 7 i j ∧ ¬ (j = 0 ∧ 0 ≤ i ∧ i < τ 31 0 0 ∧ τ 8 i 0 = 1 ∧ τ 5 i 0 = d ∧ p + k ≤ τ 6 i 0)) ∨ (mvS β d p k b (β 31 0 0) 6 i j = τ 6 i j + b ∧ mvS β d p k b (β 31 0 0) 7 i j = τ 7 i j + b ∧ j = 0 ∧ 0 ≤ i ∧ i < τ 31 0 0 ∧ τ 8 i 0 = 1 ∧ τ 5 i 0 = d ∧ p + k ≤ τ 6 i 0) := by
  rw [h31]
  unfold mvS
  by_cases c : j = 0 ∧ 0 ≤ i ∧ i < τ 31 0 0 ∧ mvC β d p k i
  · right
    rw [pk_t ⟨Or.inl rfl, c⟩, pk_t ⟨Or.inr rfl, c⟩, h6, h7]
    have c4 := c.2.2.2
    unfold mvC at c4
    rw [h8, h5, h6] at c4
    exact ⟨rfl, rfl, c.1, c.2.1, c.2.2.1, c4⟩
  · left
    rw [pk_f (fun w => c w.2), pk_f (fun w => c w.2), h6, h7]
    refine ⟨rfl, rfl, fun w => c ⟨w.1, w.2.1, w.2.2.1, ?_⟩⟩
    unfold mvC
    rw [h8, h5, h6]
    exact w.2.2.2
theorem brA_f {τ : xS} {d p b : Int} (h : brA τ d p b = 45) : ¬ fzA τ d p b := by
  intro w
  unfold brA at h
  split at h
  · omega
  · rw [pk_t w] at h
    omega
theorem pr_ins {n : Int} {τ : xS} {d p c : Int} (I : xI n τ) (hn : n < 512) (hz : 0 ≤ d ∧ d < τ 30 0 0) (hp : 0 ≤ p ∧ p ≤ τ 1 (2 * d) 0) (hc : -1 ≤ c ∧ c ≤ 128527) (h80 : τ 1 (2 * d) 0 < 80) : xI (n + 1) (insS τ d p c) := by
  have In := I.n0
  have J := I.mono (m := n + 1) (by omega) (by omega)
  have hr3 : (insS τ d p c) 3 = τ 3 := by simp (discharger := decide) only [insS, lgA_r, mvS_r, inS0_r]
  have hr4 : (insS τ d p c) 4 = τ 4 := by simp (discharger := decide) only [insS, lgA_r, mvS_r, inS0_r]
  have hr5 : (insS τ d p c) 5 = τ 5 := by simp (discharger := decide) only [insS, lgA_r, mvS_r, inS0_r]
  have hr8 : (insS τ d p c) 8 = τ 8 := by simp (discharger := decide) only [insS, lgA_r, mvS_r, inS0_r]
  have hr9 : (insS τ d p c) 9 = τ 9 := by simp (discharger := decide) only [insS, lgA_r, mvS_r, inS0_r]
  have hr10 : (insS τ d p c) 10 = τ 10 := by simp (discharger := decide) only [insS, lgA_r, mvS_r, inS0_r]
  have hr11 : (insS τ d p c) 11 = τ 11 := by simp (discharger := decide) only [insS, lgA_r, mvS_r, inS0_r]
  have hr12 : (insS τ d p c) 12 = τ 12 := by simp (discharger := decide) only [insS, lgA_r, mvS_r, inS0_r]
  have hr13 : (insS τ d p c) 13 = τ 13 := by simp (discharger := decide) only [insS, lgA_r, mvS_r, inS0_r]
  have hr14 : (insS τ d p c) 14 = τ 14 := by simp (discharger := decide) only [insS, lgA_r, mvS_r, inS0_r]
  have hr15 : (insS τ d p c) 15 = τ 15 := by simp (discharger := decide) only [insS, lgA_r, mvS_r, inS0_r]
  have hr16 : (insS τ d p c) 16 = τ 16 := by simp (discharger := decide) only [insS, lgA_r, mvS_r, inS0_r]
  have hr17 : (insS τ d p c) 17 = τ 17 := by simp (discharger := decide) only [insS, lgA_r, mvS_r, inS0_r]
  have hr18 : (insS τ d p c) 18 = τ 18 := by simp (discharger := decide) only [insS, lgA_r, mvS_r, inS0_r]
  have hr24 : (insS τ d p c) 24 = τ 24 := by simp (discharger := decide) only [insS, lgA_r, mvS_r, inS0_r]
  have hr25 : (insS τ d p c) 25 = τ 25 := by simp (discharger := decide) only [insS, lgA_r, mvS_r, inS0_r]
  have hr26 : (insS τ d p c) 26 = τ 26 := by simp (discharger := decide) only [insS, lgA_r, mvS_r, inS0_r]
  have hr27 : (insS τ d p c) 27 = τ 27 := by simp (discharger := decide) only [insS, lgA_r, mvS_r, inS0_r]
  have hr28 : (insS τ d p c) 28 = τ 28 := by simp (discharger := decide) only [insS, lgA_r, mvS_r, inS0_r]
  have hr30 : (insS τ d p c) 30 = τ 30 := by simp (discharger := decide) only [insS, lgA_r, mvS_r, inS0_r]
  have hr31 : (insS τ d p c) 31 = τ 31 := by simp (discharger := decide) only [insS, lgA_r, mvS_r, inS0_r]
  have hr32 : (insS τ d p c) 32 = τ 32 := by simp (discharger := decide) only [insS, lgA_r, mvS_r, inS0_r]
  have hr33 : (insS τ d p c) 33 = τ 33 := by simp (discharger := decide) only [insS, lgA_r, mvS_r, inS0_r]
  have hr34 : (insS τ d p c) 34 = τ 34 := by simp (discharger := decide) only [insS, lgA_r, mvS_r, inS0_r]
  have hr35 : (insS τ d p c) 35 = τ 35 := by simp (discharger := decide) only [insS, lgA_r, mvS_r, inS0_r]
  have hr36 : (insS τ d p c) 36 = τ 36 := by simp (discharger := decide) only [insS, lgA_r, mvS_r, inS0_r]
  have hr37 : (insS τ d p c) 37 = τ 37 := by simp (discharger := decide) only [insS, lgA_r, mvS_r, inS0_r]
  have hr38 : (insS τ d p c) 38 = τ 38 := by simp (discharger := decide) only [insS, lgA_r, mvS_r, inS0_r]
  have hr39 : (insS τ d p c) 39 = τ 39 := by simp (discharger := decide) only [insS, lgA_r, mvS_r, inS0_r]
  have r0 : ∀ t q, (insS τ d p c) 0 t q = if t = 2 * d then insR (τ 0 (2 * d)) (τ 1 (2 * d) 0) p c q else τ 0 t q := by
    intro t q
    simp (discharger := decide) only [insS, lgA_r, mvS_r, inS0, pinS, up_r, upR_r, up_e, upR_e]
  have r1 : ∀ t j, (insS τ d p c) 1 t j = if t = 2 * d ∧ j = 0 then τ 1 (2 * d) 0 + 1 else τ 1 t j := by
    intro t j
    simp (discharger := decide) only [insS, lgA_r, mvS_r, inS0, pinS, up_r, upR_r, up_e, upR_e]
  have r2 : ∀ t j, (insS τ d p c) 2 t j = if t = d ∧ j = 0 then τ 2 d 0 + 1 else τ 2 t j := by
    intro t j
    simp (discharger := decide) only [insS, lgA_r, mvS_r, inS0, pinS, up_r, upR_r, up_e, upR_e]
  have k41 : (insS τ d p c) 41 0 0 = τ 41 0 0 + 1 := by
    unfold insS lgA
    simp (discharger := decide) only [up_s, mvS_r, inS0_r]
  have r6 : ∀ i j, ((insS τ d p c) 6 i j = τ 6 i j ∧ (insS τ d p c) 7 i j = τ 7 i j ∧ ¬ (j = 0 ∧ 0 ≤ i ∧ i < τ 31 0 0 ∧ τ 8 i 0 = 1 ∧ τ 5 i 0 = d ∧ p + 0 ≤ τ 6 i 0)) ∨ ((insS τ d p c) 6 i j = τ 6 i j + 1 ∧ (insS τ d p c) 7 i j = τ 7 i j + 1 ∧ j = 0 ∧ 0 ≤ i ∧ i < τ 31 0 0 ∧ τ 8 i 0 = 1 ∧ τ 5 i 0 = d ∧ p + 0 ≤ τ 6 i 0) := by
    intro i j
    rw [show (insS τ d p c) 6 = mvS (inS0 τ d p c) d p 0 1 ((inS0 τ d p c) 31 0 0) 6 from lgA_r (by decide) (by decide) (by decide) (by decide) (by decide), show (insS τ d p c) 7 = mvS (inS0 τ d p c) d p 0 1 ((inS0 τ d p c) 31 0 0) 7 from lgA_r (by decide) (by decide) (by decide) (by decide) (by decide)]
    exact mvS_67 (inS0_r (by decide) (by decide) (by decide)) (inS0_r (by decide) (by decide) (by decide)) (inS0_r (by decide) (by decide) (by decide)) (inS0_r (by decide) (by decide) (by decide)) (inS0_r (by decide) (by decide) (by decide)) i j
  have sT : ∀ x, shT (insS τ d p c) x = shT τ x := by
    intro x
    unfold shT
    rw [r1, if_neg (by omega)]
  have nz := J.sz (2 * d) 0
  have Ind := J.nd
  have x_cd : ∀ t9 p9, -1 ≤ (insS τ d p c) 0 t9 p9 ∧ (insS τ d p c) 0 t9 p9 ≤ 128527 := by
    intro t q
    rw [r0]
    split
    · unfold insR
      (repeat' split) <;> first | exact J.cd _ _ | exact hc
    · exact J.cd t q
  have x_sz : ∀ i9 j9, 0 ≤ (insS τ d p c) 1 i9 j9 ∧ (insS τ d p c) 1 i9 j9 ≤ 80 := by
    intro i j
    have e := J.sz i j
    rw [r1]
    split <;> omega
  have x_ver : ∀ i9 j9, 0 ≤ (insS τ d p c) 2 i9 j9 ∧ (insS τ d p c) 2 i9 j9 ≤ n + 1 := by
    intro i j
    have e := J.ver i j
    have e2 := I.ver d 0
    rw [r2]
    split <;> omega
  have x_fr : ∀ i9 j9, 0 ≤ (insS τ d p c) 6 i9 j9 ∧ (insS τ d p c) 6 i9 j9 ≤ 80 := by
    intro i j
    rcases r6 i j with ⟨x, y, w⟩ | ⟨x, y, j0, i0, i1, o1, o2, o3⟩
    · rw [x]
      exact J.fr i j
    · rw [x, j0]
      have s := J.sp i i0 i1 o1
      rw [o2] at s
      have e := J.fr i 0
      omega
  have x_to : ∀ i9 j9, 0 ≤ (insS τ d p c) 7 i9 j9 ∧ (insS τ d p c) 7 i9 j9 ≤ 80 := by
    intro i j
    rcases r6 i j with ⟨x, y, w⟩ | ⟨x, y, j0, i0, i1, o1, o2, o3⟩
    · rw [y]
      exact J.to i j
    · rw [y, j0]
      have s := J.sp i i0 i1 o1
      rw [o2] at s
      have e := J.fr i 0
      have e2 := J.to i 0
      omega
  have x_od : ∀ i9, 0 ≤ i9 → i9 < (insS τ d p c) 32 0 0 → 0 ≤ (insS τ d p c) 9 i9 0 ∧ (insS τ d p c) 9 i9 0 < (insS τ d p c) 30 0 0 ∧ 1 ≤ shT (insS τ d p c) ((insS τ d p c) 9 i9 0) := by
    intro i i0 i1
    rw [hr32] at i1
    rw [hr9, hr30, sT]
    exact J.od i i0 i1
  have x_sh : ∀ i9, (insS τ d p c) 24 i9 0 = shT (insS τ d p c) i9 := by
    intro i
    rw [hr24, sT]
    exact J.sh i
  have x_lg : 0 ≤ (insS τ d p c) 41 0 0 ∧ (insS τ d p c) 41 0 0 ≤ n + 1 := by
    rw [k41]
    have e := I.lg
    omega
  have x_vd : ∀ d9, (insS τ d p c) 30 0 0 ≤ d9 → (insS τ d p c) 2 d9 0 = 0 ∧ (insS τ d p c) 1 (2 * d9) 0 = 0 ∧ (insS τ d p c) 1 (2 * d9 + 1) 0 = 0 ∧ ∀ p9, (insS τ d p c) 0 (2 * d9) p9 = 0 ∧ (insS τ d p c) 0 (2 * d9 + 1) p9 = 0 := by
    intro x hx
    rw [hr30] at hx
    obtain ⟨a, b, e, f⟩ := J.vd x hx
    refine ⟨?_, ?_, ?_, fun q => ⟨?_, ?_⟩⟩
    · rw [r2, if_neg (by omega)]; exact a
    · rw [r1, if_neg (by omega)]; exact b
    · rw [r1, if_neg (by omega)]; exact e
    · rw [r0, if_neg (by omega)]; exact (f q).1
    · rw [r0, if_neg (by omega)]; exact (f q).2
  have x_pe : ∀ d9, 0 ≤ d9 → d9 < (insS τ d p c) 30 0 0 → (insS τ d p c) 3 d9 0 ≠ -1 → 1 ≤ (insS τ d p c) 1 (2 * d9 + 1) 0 := by
    intro x x0 x1 x2
    rw [hr30] at x1
    rw [hr3] at x2
    rw [r1, if_neg (by omega)]
    exact J.pe x x0 x1 x2
  have x_sp : ∀ c9, 0 ≤ c9 → c9 < (insS τ d p c) 31 0 0 → (insS τ d p c) 8 c9 0 = 1 → (insS τ d p c) 6 c9 0 < (insS τ d p c) 7 c9 0 ∧ (insS τ d p c) 7 c9 0 ≤ (insS τ d p c) 1 (2 * (insS τ d p c) 5 c9 0) 0 := by
    intro x x0 x1 x2
    rw [hr31] at x1
    rw [hr8] at x2
    have s := J.sp x x0 x1 x2
    rw [hr5, r1]
    by_cases e : τ 5 x 0 = d
    · rw [e, if_pos ⟨rfl, rfl⟩]
      rw [e] at s
      rcases r6 x 0 with ⟨a, b, w⟩ | ⟨a, b, y0, y1, y2, y3, y4, y5⟩
      · rw [a, b]
        omega
      · rw [a, b]
        omega
    · rw [if_neg (by omega)]
      rcases r6 x 0 with ⟨a, b, w⟩ | ⟨a, b, y0, y1, y2, y3, y4, y5⟩
      · rw [a, b]
        exact s
      · exact absurd y4 e
  have x_li : lgI (insS τ d p c) := by
    have y0 : ∀ t q, mvS (inS0 τ d p c) d p 0 1 ((inS0 τ d p c) 31 0 0) 0 t q = (insS τ d p c) 0 t q := fun t q => by rw [show (insS τ d p c) 0 = mvS (inS0 τ d p c) d p 0 1 ((inS0 τ d p c) 31 0 0) 0 from lgA_r (by decide) (by decide) (by decide) (by decide) (by decide)]
    have y1 : ∀ t q, mvS (inS0 τ d p c) d p 0 1 ((inS0 τ d p c) 31 0 0) 1 t q = (insS τ d p c) 1 t q := fun t q => by rw [show (insS τ d p c) 1 = mvS (inS0 τ d p c) d p 0 1 ((inS0 τ d p c) 31 0 0) 1 from lgA_r (by decide) (by decide) (by decide) (by decide) (by decide)]
    refine lgI_A J.li J.lg.1 (by rw [mvS_r (by decide) (by decide), inS0_r (by decide) (by decide) (by decide)]) (by rw [mvS_r (by decide) (by decide), inS0_r (by decide) (by decide) (by decide)]) (by rw [mvS_r (by decide) (by decide), inS0_r (by decide) (by decide) (by decide)]) (by rw [mvS_r (by decide) (by decide), inS0_r (by decide) (by decide) (by decide)]) (by rw [mvS_r (by decide) (by decide), inS0_r (by decide) (by decide) (by decide)]) (by rw [mvS_r (by decide) (by decide), inS0_r (by decide) (by decide) (by decide)]) (by omega) hz (by omega) (by omega) hc (by omega) ?_ ?_ ?_ ?_ (by omega)
    · intro x x0 x1 e
      refine ⟨?_, fun q => ?_⟩
      · rw [y1, r1, if_neg (by omega)]
      · rw [y0, r0, if_neg (by omega)]
    · rw [y1, r1, if_pos ⟨rfl, rfl⟩]
      rw [if_pos rfl]
    · intro q q0 q1
      rw [y1, r1, if_pos ⟨rfl, rfl⟩] at q1
      rw [y0, r0, if_pos rfl]
      rw [if_pos rfl]
      unfold insR
      (repeat' split) <;> first | rfl | omega
    · intro x x0 x1 x2
      rw [mvS_r (by decide) (by decide), inS0_r (by decide) (by decide) (by decide)] at x2
      refine Or.inr ⟨x2, by omega, ?_, fun q => ?_⟩
      · rw [y1, r1, if_neg (by omega)]
      · rw [y0, r0, if_neg (by omega)]
  exact ⟨(by omega), (by exact x_cd), (by exact x_sz), (by exact x_ver), (by simp only [hr3]; exact J.pv), (by simp only [hr4]; exact J.cl), (by simp only [hr5, hr30, hr31]; exact J.on), (by exact x_fr), (by exact x_to), (by simp only [hr8]; exact J.op), (by exact x_od), (by simp only [hr10]; exact J.cp), (by simp only [hr11]; exact J.du), (by simp only [hr12]; exact J.pf), (by simp only [hr13]; exact J.lf), (by simp only [hr14]; exact J.pr), (by simp only [hr15]; exact J.pl), (by simp only [hr16]; exact J.pd), (by simp only [hr17]; exact J.pt), (by simp only [hr18]; exact J.im), (by simp only [hr30]; exact J.nd), (by simp only [hr31]; exact J.nc), (by simp only [hr32]; exact J.no), (by simp only [hr33]; exact J.pa), (by simp only [hr34]; exact J.ls), (by simp only [hr32, hr35]; exact J.po), (by simp only [hr35, hr37, hr39]; exact J.ph), (by simp only [hr36]; exact J.ps), (by simp only [hr37]; exact J.pu), (by simp only [hr38]; exact J.pm), (by simp only [hr39]; exact J.hr), (by exact x_lg), (by exact x_sh), (by intro i; rw [hr25, wsA_c hr10 hr14]; exact J.wa i), (by simp only [hr14, hr26]; exact J.ip), (by simp only [hr27]; exact J.zs), (by simp only [hr28]; exact J.hp), (by simp only [hr15, hr27, hr28, hr32]; exact J.hl), (by exact x_vd), (by simp only [hr12, hr13, hr32]; exact J.vo), (by simp only [hr14, hr16, hr17, hr27, hr28, hr32]; exact J.vi), (by exact x_pe), (by exact x_sp), (by exact x_li)⟩
theorem pr_del {n : Int} {τ : xS} {d p : Int} (I : xI n τ) (hn : n < 512) (hz : 0 ≤ d ∧ d < τ 30 0 0) (hp : 0 ≤ p ∧ p < τ 1 (2 * d) 0) (hb : brA τ d p 0 = 45) : xI (n + 1) (delS τ d p) := by
  have In := I.n0
  have J := I.mono (m := n + 1) (by omega) (by omega)
  have hr3 : (delS τ d p) 3 = τ 3 := by simp (discharger := decide) only [delS, lgA_r, mvS_r, deS0_r]
  have hr4 : (delS τ d p) 4 = τ 4 := by simp (discharger := decide) only [delS, lgA_r, mvS_r, deS0_r]
  have hr5 : (delS τ d p) 5 = τ 5 := by simp (discharger := decide) only [delS, lgA_r, mvS_r, deS0_r]
  have hr8 : (delS τ d p) 8 = τ 8 := by simp (discharger := decide) only [delS, lgA_r, mvS_r, deS0_r]
  have hr9 : (delS τ d p) 9 = τ 9 := by simp (discharger := decide) only [delS, lgA_r, mvS_r, deS0_r]
  have hr10 : (delS τ d p) 10 = τ 10 := by simp (discharger := decide) only [delS, lgA_r, mvS_r, deS0_r]
  have hr11 : (delS τ d p) 11 = τ 11 := by simp (discharger := decide) only [delS, lgA_r, mvS_r, deS0_r]
  have hr12 : (delS τ d p) 12 = τ 12 := by simp (discharger := decide) only [delS, lgA_r, mvS_r, deS0_r]
  have hr13 : (delS τ d p) 13 = τ 13 := by simp (discharger := decide) only [delS, lgA_r, mvS_r, deS0_r]
  have hr14 : (delS τ d p) 14 = τ 14 := by simp (discharger := decide) only [delS, lgA_r, mvS_r, deS0_r]
  have hr15 : (delS τ d p) 15 = τ 15 := by simp (discharger := decide) only [delS, lgA_r, mvS_r, deS0_r]
  have hr16 : (delS τ d p) 16 = τ 16 := by simp (discharger := decide) only [delS, lgA_r, mvS_r, deS0_r]
  have hr17 : (delS τ d p) 17 = τ 17 := by simp (discharger := decide) only [delS, lgA_r, mvS_r, deS0_r]
  have hr18 : (delS τ d p) 18 = τ 18 := by simp (discharger := decide) only [delS, lgA_r, mvS_r, deS0_r]
  have hr24 : (delS τ d p) 24 = τ 24 := by simp (discharger := decide) only [delS, lgA_r, mvS_r, deS0_r]
  have hr25 : (delS τ d p) 25 = τ 25 := by simp (discharger := decide) only [delS, lgA_r, mvS_r, deS0_r]
  have hr26 : (delS τ d p) 26 = τ 26 := by simp (discharger := decide) only [delS, lgA_r, mvS_r, deS0_r]
  have hr27 : (delS τ d p) 27 = τ 27 := by simp (discharger := decide) only [delS, lgA_r, mvS_r, deS0_r]
  have hr28 : (delS τ d p) 28 = τ 28 := by simp (discharger := decide) only [delS, lgA_r, mvS_r, deS0_r]
  have hr30 : (delS τ d p) 30 = τ 30 := by simp (discharger := decide) only [delS, lgA_r, mvS_r, deS0_r]
  have hr31 : (delS τ d p) 31 = τ 31 := by simp (discharger := decide) only [delS, lgA_r, mvS_r, deS0_r]
  have hr32 : (delS τ d p) 32 = τ 32 := by simp (discharger := decide) only [delS, lgA_r, mvS_r, deS0_r]
  have hr33 : (delS τ d p) 33 = τ 33 := by simp (discharger := decide) only [delS, lgA_r, mvS_r, deS0_r]
  have hr34 : (delS τ d p) 34 = τ 34 := by simp (discharger := decide) only [delS, lgA_r, mvS_r, deS0_r]
  have hr35 : (delS τ d p) 35 = τ 35 := by simp (discharger := decide) only [delS, lgA_r, mvS_r, deS0_r]
  have hr36 : (delS τ d p) 36 = τ 36 := by simp (discharger := decide) only [delS, lgA_r, mvS_r, deS0_r]
  have hr37 : (delS τ d p) 37 = τ 37 := by simp (discharger := decide) only [delS, lgA_r, mvS_r, deS0_r]
  have hr38 : (delS τ d p) 38 = τ 38 := by simp (discharger := decide) only [delS, lgA_r, mvS_r, deS0_r]
  have hr39 : (delS τ d p) 39 = τ 39 := by simp (discharger := decide) only [delS, lgA_r, mvS_r, deS0_r]
  have r0 : ∀ t q, (delS τ d p) 0 t q = if t = 2 * d then dlR (τ 0 (2 * d)) p (τ 1 (2 * d) 0 - 1) q else τ 0 t q := by
    intro t q
    simp (discharger := decide) only [delS, lgA_r, mvS_r, deS0, pouS, up_r, upR_r, up_e, upR_e]
  have r1 : ∀ t j, (delS τ d p) 1 t j = if t = 2 * d ∧ j = 0 then τ 1 (2 * d) 0 - 1 else τ 1 t j := by
    intro t j
    simp (discharger := decide) only [delS, lgA_r, mvS_r, deS0, pouS, up_r, upR_r, up_e, upR_e]
  have r2 : ∀ t j, (delS τ d p) 2 t j = if t = d ∧ j = 0 then τ 2 d 0 + 1 else τ 2 t j := by
    intro t j
    simp (discharger := decide) only [delS, lgA_r, mvS_r, deS0, pouS, up_r, upR_r, up_e, upR_e]
  have k41 : (delS τ d p) 41 0 0 = τ 41 0 0 + 1 := by
    unfold delS lgA
    simp (discharger := decide) only [up_s, mvS_r, deS0_r]
  have r6 : ∀ i j, ((delS τ d p) 6 i j = τ 6 i j ∧ (delS τ d p) 7 i j = τ 7 i j ∧ ¬ (j = 0 ∧ 0 ≤ i ∧ i < τ 31 0 0 ∧ τ 8 i 0 = 1 ∧ τ 5 i 0 = d ∧ p + 1 ≤ τ 6 i 0)) ∨ ((delS τ d p) 6 i j = τ 6 i j + (-1) ∧ (delS τ d p) 7 i j = τ 7 i j + (-1) ∧ j = 0 ∧ 0 ≤ i ∧ i < τ 31 0 0 ∧ τ 8 i 0 = 1 ∧ τ 5 i 0 = d ∧ p + 1 ≤ τ 6 i 0) := by
    intro i j
    rw [show (delS τ d p) 6 = mvS (deS0 τ d p) d p 1 (-1) ((deS0 τ d p) 31 0 0) 6 from lgA_r (by decide) (by decide) (by decide) (by decide) (by decide), show (delS τ d p) 7 = mvS (deS0 τ d p) d p 1 (-1) ((deS0 τ d p) 31 0 0) 7 from lgA_r (by decide) (by decide) (by decide) (by decide) (by decide)]
    exact mvS_67 (deS0_r (by decide) (by decide) (by decide)) (deS0_r (by decide) (by decide) (by decide)) (deS0_r (by decide) (by decide) (by decide)) (deS0_r (by decide) (by decide) (by decide)) (deS0_r (by decide) (by decide) (by decide)) i j
  have sT : ∀ x, shT (delS τ d p) x = shT τ x := by
    intro x
    unfold shT
    rw [r1, if_neg (by omega)]
  have nz := J.sz (2 * d) 0
  have Ind := J.nd
  have x_cd : ∀ t9 p9, -1 ≤ (delS τ d p) 0 t9 p9 ∧ (delS τ d p) 0 t9 p9 ≤ 128527 := by
    intro t q
    rw [r0]
    split
    · unfold dlR
      (repeat' split) <;> exact J.cd _ _
    · exact J.cd t q
  have x_sz : ∀ i9 j9, 0 ≤ (delS τ d p) 1 i9 j9 ∧ (delS τ d p) 1 i9 j9 ≤ 80 := by
    intro i j
    have e := J.sz i j
    rw [r1]
    split <;> omega
  have x_ver : ∀ i9 j9, 0 ≤ (delS τ d p) 2 i9 j9 ∧ (delS τ d p) 2 i9 j9 ≤ n + 1 := by
    intro i j
    have e := J.ver i j
    have e2 := I.ver d 0
    rw [r2]
    split <;> omega
  have x_fr : ∀ i9 j9, 0 ≤ (delS τ d p) 6 i9 j9 ∧ (delS τ d p) 6 i9 j9 ≤ 80 := by
    intro i j
    rcases r6 i j with ⟨x, y, w⟩ | ⟨x, y, j0, i0, i1, o1, o2, o3⟩
    · rw [x]
      exact J.fr i j
    · rw [x, j0]
      have s := J.sp i i0 i1 o1
      rw [o2] at s
      have e := J.fr i 0
      omega
  have x_to : ∀ i9 j9, 0 ≤ (delS τ d p) 7 i9 j9 ∧ (delS τ d p) 7 i9 j9 ≤ 80 := by
    intro i j
    rcases r6 i j with ⟨x, y, w⟩ | ⟨x, y, j0, i0, i1, o1, o2, o3⟩
    · rw [y]
      exact J.to i j
    · rw [y, j0]
      have s := J.sp i i0 i1 o1
      rw [o2] at s
      have e := J.fr i 0
      have e2 := J.to i 0
      omega
  have x_od : ∀ i9, 0 ≤ i9 → i9 < (delS τ d p) 32 0 0 → 0 ≤ (delS τ d p) 9 i9 0 ∧ (delS τ d p) 9 i9 0 < (delS τ d p) 30 0 0 ∧ 1 ≤ shT (delS τ d p) ((delS τ d p) 9 i9 0) := by
    intro i i0 i1
    rw [hr32] at i1
    rw [hr9, hr30, sT]
    exact J.od i i0 i1
  have x_sh : ∀ i9, (delS τ d p) 24 i9 0 = shT (delS τ d p) i9 := by
    intro i
    rw [hr24, sT]
    exact J.sh i
  have x_lg : 0 ≤ (delS τ d p) 41 0 0 ∧ (delS τ d p) 41 0 0 ≤ n + 1 := by
    rw [k41]
    have e := I.lg
    omega
  have x_vd : ∀ d9, (delS τ d p) 30 0 0 ≤ d9 → (delS τ d p) 2 d9 0 = 0 ∧ (delS τ d p) 1 (2 * d9) 0 = 0 ∧ (delS τ d p) 1 (2 * d9 + 1) 0 = 0 ∧ ∀ p9, (delS τ d p) 0 (2 * d9) p9 = 0 ∧ (delS τ d p) 0 (2 * d9 + 1) p9 = 0 := by
    intro x hx
    rw [hr30] at hx
    obtain ⟨a, b, e, f⟩ := J.vd x hx
    refine ⟨?_, ?_, ?_, fun q => ⟨?_, ?_⟩⟩
    · rw [r2, if_neg (by omega)]; exact a
    · rw [r1, if_neg (by omega)]; exact b
    · rw [r1, if_neg (by omega)]; exact e
    · rw [r0, if_neg (by omega)]; exact (f q).1
    · rw [r0, if_neg (by omega)]; exact (f q).2
  have x_pe : ∀ d9, 0 ≤ d9 → d9 < (delS τ d p) 30 0 0 → (delS τ d p) 3 d9 0 ≠ -1 → 1 ≤ (delS τ d p) 1 (2 * d9 + 1) 0 := by
    intro x x0 x1 x2
    rw [hr30] at x1
    rw [hr3] at x2
    rw [r1, if_neg (by omega)]
    exact J.pe x x0 x1 x2
  have x_sp : ∀ c9, 0 ≤ c9 → c9 < (delS τ d p) 31 0 0 → (delS τ d p) 8 c9 0 = 1 → (delS τ d p) 6 c9 0 < (delS τ d p) 7 c9 0 ∧ (delS τ d p) 7 c9 0 ≤ (delS τ d p) 1 (2 * (delS τ d p) 5 c9 0) 0 := by
    intro x x0 x1 x2
    rw [hr31] at x1
    rw [hr8] at x2
    have s := J.sp x x0 x1 x2
    rw [hr5, r1]
    by_cases e : τ 5 x 0 = d
    · rw [e, if_pos ⟨rfl, rfl⟩]
      rw [e] at s
      rcases r6 x 0 with ⟨a, b, w⟩ | ⟨a, b, y0, y1, y2, y3, y4, y5⟩
      · rw [a, b]
        have g : ¬ fzP τ d p 0 x := fun g => brA_f hb ⟨x, x0, x1, g⟩
        have g2 : ¬ (τ 6 x 0 + 0 ≤ p ∧ p < τ 7 x 0) := fun g3 => g ⟨x2, e, g3.1, g3.2⟩
        omega
      · rw [a, b]
        omega
    · rw [if_neg (by omega)]
      rcases r6 x 0 with ⟨a, b, w⟩ | ⟨a, b, y0, y1, y2, y3, y4, y5⟩
      · rw [a, b]
        exact s
      · exact absurd y4 e
  have x_li : lgI (delS τ d p) := by
    have y0 : ∀ t q, mvS (deS0 τ d p) d p 1 (-1) ((deS0 τ d p) 31 0 0) 0 t q = (delS τ d p) 0 t q := fun t q => by rw [show (delS τ d p) 0 = mvS (deS0 τ d p) d p 1 (-1) ((deS0 τ d p) 31 0 0) 0 from lgA_r (by decide) (by decide) (by decide) (by decide) (by decide)]
    have y1 : ∀ t q, mvS (deS0 τ d p) d p 1 (-1) ((deS0 τ d p) 31 0 0) 1 t q = (delS τ d p) 1 t q := fun t q => by rw [show (delS τ d p) 1 = mvS (deS0 τ d p) d p 1 (-1) ((deS0 τ d p) 31 0 0) 1 from lgA_r (by decide) (by decide) (by decide) (by decide) (by decide)]
    refine lgI_A J.li J.lg.1 (by rw [mvS_r (by decide) (by decide), deS0_r (by decide) (by decide) (by decide)]) (by rw [mvS_r (by decide) (by decide), deS0_r (by decide) (by decide) (by decide)]) (by rw [mvS_r (by decide) (by decide), deS0_r (by decide) (by decide) (by decide)]) (by rw [mvS_r (by decide) (by decide), deS0_r (by decide) (by decide) (by decide)]) (by rw [mvS_r (by decide) (by decide), deS0_r (by decide) (by decide) (by decide)]) (by rw [mvS_r (by decide) (by decide), deS0_r (by decide) (by decide) (by decide)]) (by omega) hz (by omega) (by omega) (by omega) (by omega) ?_ ?_ ?_ ?_ (by omega)
    · intro x x0 x1 e
      refine ⟨?_, fun q => ?_⟩
      · rw [y1, r1, if_neg (by omega)]
      · rw [y0, r0, if_neg (by omega)]
    · rw [y1, r1, if_pos ⟨rfl, rfl⟩]
      rw [if_neg (by decide), if_pos rfl]
    · intro q q0 q1
      rw [y1, r1, if_pos ⟨rfl, rfl⟩] at q1
      rw [y0, r0, if_pos rfl]
      rw [if_neg (by decide), if_pos rfl]
      unfold dlR
      (repeat' split) <;> first | rfl | omega
    · intro x x0 x1 x2
      rw [mvS_r (by decide) (by decide), deS0_r (by decide) (by decide) (by decide)] at x2
      refine Or.inr ⟨x2, by omega, ?_, fun q => ?_⟩
      · rw [y1, r1, if_neg (by omega)]
      · rw [y0, r0, if_neg (by omega)]
  exact ⟨(by omega), (by exact x_cd), (by exact x_sz), (by exact x_ver), (by simp only [hr3]; exact J.pv), (by simp only [hr4]; exact J.cl), (by simp only [hr5, hr30, hr31]; exact J.on), (by exact x_fr), (by exact x_to), (by simp only [hr8]; exact J.op), (by exact x_od), (by simp only [hr10]; exact J.cp), (by simp only [hr11]; exact J.du), (by simp only [hr12]; exact J.pf), (by simp only [hr13]; exact J.lf), (by simp only [hr14]; exact J.pr), (by simp only [hr15]; exact J.pl), (by simp only [hr16]; exact J.pd), (by simp only [hr17]; exact J.pt), (by simp only [hr18]; exact J.im), (by simp only [hr30]; exact J.nd), (by simp only [hr31]; exact J.nc), (by simp only [hr32]; exact J.no), (by simp only [hr33]; exact J.pa), (by simp only [hr34]; exact J.ls), (by simp only [hr32, hr35]; exact J.po), (by simp only [hr35, hr37, hr39]; exact J.ph), (by simp only [hr36]; exact J.ps), (by simp only [hr37]; exact J.pu), (by simp only [hr38]; exact J.pm), (by simp only [hr39]; exact J.hr), (by exact x_lg), (by exact x_sh), (by intro i; rw [hr25, wsA_c hr10 hr14]; exact J.wa i), (by simp only [hr14, hr26]; exact J.ip), (by simp only [hr27]; exact J.zs), (by simp only [hr28]; exact J.hp), (by simp only [hr15, hr27, hr28, hr32]; exact J.hl), (by exact x_vd), (by simp only [hr12, hr13, hr32]; exact J.vo), (by simp only [hr14, hr16, hr17, hr27, hr28, hr32]; exact J.vi), (by exact x_pe), (by exact x_sp), (by exact x_li)⟩
theorem pr_sgn {n : Int} {τ : xS} {d : Int} (I : xI n τ) (hn : n < 512) (hz : 0 ≤ d ∧ d < τ 30 0 0) (h1 : 1 ≤ τ 1 (2 * d) 0) : xI (n + 1) (sgnS τ d) := by
  have In := I.n0
  have J := I.mono (m := n + 1) (by omega) (by omega)
  have hr2 : (sgnS τ d) 2 = τ 2 := by simp (discharger := decide) only [sgnS, lgA_r, mkpS_r]
  have hr4 : (sgnS τ d) 4 = τ 4 := by simp (discharger := decide) only [sgnS, lgA_r, mkpS_r]
  have hr5 : (sgnS τ d) 5 = τ 5 := by simp (discharger := decide) only [sgnS, lgA_r, mkpS_r]
  have hr6 : (sgnS τ d) 6 = τ 6 := by simp (discharger := decide) only [sgnS, lgA_r, mkpS_r]
  have hr7 : (sgnS τ d) 7 = τ 7 := by simp (discharger := decide) only [sgnS, lgA_r, mkpS_r]
  have hr8 : (sgnS τ d) 8 = τ 8 := by simp (discharger := decide) only [sgnS, lgA_r, mkpS_r]
  have hr9 : (sgnS τ d) 9 = τ 9 := by simp (discharger := decide) only [sgnS, lgA_r, mkpS_r]
  have hr10 : (sgnS τ d) 10 = τ 10 := by simp (discharger := decide) only [sgnS, lgA_r, mkpS_r]
  have hr11 : (sgnS τ d) 11 = τ 11 := by simp (discharger := decide) only [sgnS, lgA_r, mkpS_r]
  have hr12 : (sgnS τ d) 12 = τ 12 := by simp (discharger := decide) only [sgnS, lgA_r, mkpS_r]
  have hr13 : (sgnS τ d) 13 = τ 13 := by simp (discharger := decide) only [sgnS, lgA_r, mkpS_r]
  have hr14 : (sgnS τ d) 14 = τ 14 := by simp (discharger := decide) only [sgnS, lgA_r, mkpS_r]
  have hr15 : (sgnS τ d) 15 = τ 15 := by simp (discharger := decide) only [sgnS, lgA_r, mkpS_r]
  have hr16 : (sgnS τ d) 16 = τ 16 := by simp (discharger := decide) only [sgnS, lgA_r, mkpS_r]
  have hr17 : (sgnS τ d) 17 = τ 17 := by simp (discharger := decide) only [sgnS, lgA_r, mkpS_r]
  have hr18 : (sgnS τ d) 18 = τ 18 := by simp (discharger := decide) only [sgnS, lgA_r, mkpS_r]
  have hr25 : (sgnS τ d) 25 = τ 25 := by simp (discharger := decide) only [sgnS, lgA_r, mkpS_r]
  have hr26 : (sgnS τ d) 26 = τ 26 := by simp (discharger := decide) only [sgnS, lgA_r, mkpS_r]
  have hr27 : (sgnS τ d) 27 = τ 27 := by simp (discharger := decide) only [sgnS, lgA_r, mkpS_r]
  have hr28 : (sgnS τ d) 28 = τ 28 := by simp (discharger := decide) only [sgnS, lgA_r, mkpS_r]
  have hr30 : (sgnS τ d) 30 = τ 30 := by simp (discharger := decide) only [sgnS, lgA_r, mkpS_r]
  have hr31 : (sgnS τ d) 31 = τ 31 := by simp (discharger := decide) only [sgnS, lgA_r, mkpS_r]
  have hr32 : (sgnS τ d) 32 = τ 32 := by simp (discharger := decide) only [sgnS, lgA_r, mkpS_r]
  have hr33 : (sgnS τ d) 33 = τ 33 := by simp (discharger := decide) only [sgnS, lgA_r, mkpS_r]
  have hr34 : (sgnS τ d) 34 = τ 34 := by simp (discharger := decide) only [sgnS, lgA_r, mkpS_r]
  have hr35 : (sgnS τ d) 35 = τ 35 := by simp (discharger := decide) only [sgnS, lgA_r, mkpS_r]
  have hr36 : (sgnS τ d) 36 = τ 36 := by simp (discharger := decide) only [sgnS, lgA_r, mkpS_r]
  have hr37 : (sgnS τ d) 37 = τ 37 := by simp (discharger := decide) only [sgnS, lgA_r, mkpS_r]
  have hr38 : (sgnS τ d) 38 = τ 38 := by simp (discharger := decide) only [sgnS, lgA_r, mkpS_r]
  have hr39 : (sgnS τ d) 39 = τ 39 := by simp (discharger := decide) only [sgnS, lgA_r, mkpS_r]
  have r0 : ∀ t q, (sgnS τ d) 0 t q = if t = 2 * d + 1 then rwU (τ 0 (2 * d + 1)) (τ 0 (2 * d)) (τ 1 (2 * d) 0) q else τ 0 t q := by
    intro t q
    simp (discharger := decide) only [sgnS, lgA_r, mkpS, becS, up_r, upR_r, up_e, upR_e]
  have r1 : ∀ t j, (sgnS τ d) 1 t j = if t = 2 * d + 1 ∧ j = 0 then τ 1 (2 * d) 0 else τ 1 t j := by
    intro t j
    simp (discharger := decide) only [sgnS, lgA_r, mkpS, becS, up_r, upR_r, up_e, upR_e]
  have r3 : ∀ t j, (sgnS τ d) 3 t j = if t = d ∧ j = 0 then τ 2 d 0 else τ 3 t j := by
    intro t j
    simp (discharger := decide) only [sgnS, lgA_r, mkpS, becS, up_r, upR_r, up_e, upR_e]
  have r24 : ∀ t j, (sgnS τ d) 24 t j = if t = d ∧ j = 0 then shC (τ 1 (2 * d) 0) else τ 24 t j := by
    intro t j
    simp (discharger := decide) only [sgnS, lgA_r, mkpS, becS, up_r, upR_r, up_e, upR_e]
  have k41 : (sgnS τ d) 41 0 0 = τ 41 0 0 + 1 := by
    unfold sgnS lgA
    simp (discharger := decide) only [up_s, mkpS_r]
  have sD : shT (sgnS τ d) d = shC (τ 1 (2 * d) 0) := by
    unfold shT
    rw [r1, if_pos ⟨rfl, rfl⟩]
  have sT : ∀ x, ¬ x = d → shT (sgnS τ d) x = shT τ x := by
    intro x hx
    unfold shT
    rw [r1, if_neg (by omega)]
  have nz := J.sz (2 * d) 0
  have Ind := J.nd
  have s1 : 1 ≤ shC (τ 1 (2 * d) 0) := by unfold shC; omega
  have x_cd : ∀ t9 p9, -1 ≤ (sgnS τ d) 0 t9 p9 ∧ (sgnS τ d) 0 t9 p9 ≤ 128527 := by
    intro t q
    rw [r0]
    split
    · unfold rwU
      split <;> exact J.cd _ _
    · exact J.cd t q
  have x_sz : ∀ i9 j9, 0 ≤ (sgnS τ d) 1 i9 j9 ∧ (sgnS τ d) 1 i9 j9 ≤ 80 := by
    intro i j
    have e := J.sz i j
    rw [r1]
    split <;> omega
  have x_pv : ∀ i9 j9, -1 ≤ (sgnS τ d) 3 i9 j9 ∧ (sgnS τ d) 3 i9 j9 ≤ n + 1 := by
    intro i j
    have e := J.pv i j
    have e2 := J.ver d 0
    rw [r3]
    split <;> omega
  have x_od : ∀ i9, 0 ≤ i9 → i9 < (sgnS τ d) 32 0 0 → 0 ≤ (sgnS τ d) 9 i9 0 ∧ (sgnS τ d) 9 i9 0 < (sgnS τ d) 30 0 0 ∧ 1 ≤ shT (sgnS τ d) ((sgnS τ d) 9 i9 0) := by
    intro i i0 i1
    rw [hr32] at i1
    rw [hr9, hr30]
    have e := J.od i i0 i1
    by_cases x : τ 9 i 0 = d
    · rw [x] at e ⊢
      rw [sD]
      exact ⟨e.1, e.2.1, s1⟩
    · rw [sT _ x]
      exact e
  have x_sh : ∀ i9, (sgnS τ d) 24 i9 0 = shT (sgnS τ d) i9 := by
    intro i
    rw [r24]
    by_cases x : i = d
    · rw [x, if_pos ⟨rfl, rfl⟩, sD]
    · rw [if_neg (by omega), sT _ x]
      exact J.sh i
  have x_lg : 0 ≤ (sgnS τ d) 41 0 0 ∧ (sgnS τ d) 41 0 0 ≤ n + 1 := by
    rw [k41]
    have e := I.lg
    omega
  have x_vd : ∀ d9, (sgnS τ d) 30 0 0 ≤ d9 → (sgnS τ d) 2 d9 0 = 0 ∧ (sgnS τ d) 1 (2 * d9) 0 = 0 ∧ (sgnS τ d) 1 (2 * d9 + 1) 0 = 0 ∧ ∀ p9, (sgnS τ d) 0 (2 * d9) p9 = 0 ∧ (sgnS τ d) 0 (2 * d9 + 1) p9 = 0 := by
    intro x hx
    rw [hr30] at hx
    obtain ⟨a, b, e, f⟩ := J.vd x hx
    refine ⟨?_, ?_, ?_, fun q => ⟨?_, ?_⟩⟩
    · rw [hr2]; exact a
    · rw [r1, if_neg (by omega)]; exact b
    · rw [r1, if_neg (by omega)]; exact e
    · rw [r0, if_neg (by omega)]; exact (f q).1
    · rw [r0, if_neg (by omega)]; exact (f q).2
  have x_pe : ∀ d9, 0 ≤ d9 → d9 < (sgnS τ d) 30 0 0 → (sgnS τ d) 3 d9 0 ≠ -1 → 1 ≤ (sgnS τ d) 1 (2 * d9 + 1) 0 := by
    intro x x0 x1 x2
    rw [hr30] at x1
    rw [r1]
    by_cases e : x = d
    · rw [e, if_pos ⟨rfl, rfl⟩]
      exact h1
    · rw [r3, if_neg (by omega)] at x2
      rw [if_neg (by omega)]
      exact J.pe x x0 x1 x2
  have x_sp : ∀ c9, 0 ≤ c9 → c9 < (sgnS τ d) 31 0 0 → (sgnS τ d) 8 c9 0 = 1 → (sgnS τ d) 6 c9 0 < (sgnS τ d) 7 c9 0 ∧ (sgnS τ d) 7 c9 0 ≤ (sgnS τ d) 1 (2 * (sgnS τ d) 5 c9 0) 0 := by
    intro x x0 x1 x2
    rw [hr31] at x1
    rw [hr8] at x2
    rw [hr5, hr6, hr7, r1, if_neg (by omega)]
    exact J.sp x x0 x1 x2
  have x_li : lgI (sgnS τ d) := by
    have y0 : ∀ t q, (mkpS τ d) 0 t q = (sgnS τ d) 0 t q := fun t q => by rw [show (sgnS τ d) 0 = (mkpS τ d) 0 from lgA_r (by decide) (by decide) (by decide) (by decide) (by decide)]
    have y1 : ∀ t q, (mkpS τ d) 1 t q = (sgnS τ d) 1 t q := fun t q => by rw [show (sgnS τ d) 1 = (mkpS τ d) 1 from lgA_r (by decide) (by decide) (by decide) (by decide) (by decide)]
    have y3 : ∀ t q, (mkpS τ d) 3 t q = (sgnS τ d) 3 t q := fun t q => by rw [show (sgnS τ d) 3 = (mkpS τ d) 3 from lgA_r (by decide) (by decide) (by decide) (by decide) (by decide)]
    refine lgI_A J.li J.lg.1 (mkpS_r (by decide) (by decide) (by decide) (by decide)) (mkpS_r (by decide) (by decide) (by decide) (by decide)) (mkpS_r (by decide) (by decide) (by decide) (by decide)) (mkpS_r (by decide) (by decide) (by decide) (by decide)) (mkpS_r (by decide) (by decide) (by decide) (by decide)) (mkpS_r (by decide) (by decide) (by decide) (by decide)) (by omega) hz (by omega) (by omega) (by omega) (by omega) ?_ ?_ ?_ ?_ (fun _ => ⟨?_, fun q q0 q1 => ?_⟩)
    · intro x x0 x1 e
      refine ⟨?_, fun q => ?_⟩
      · rw [y1, r1, if_neg (by omega)]
      · rw [y0, r0, if_neg (by omega)]
    · rw [y1, r1, if_neg (by omega), if_neg (by decide), if_neg (by decide)]
    · intro q q0 q1
      rw [y0, r0, if_neg (by omega), if_neg (by decide), if_neg (by decide)]
    · intro x x0 x1 x2
      rw [y3, r3] at x2
      by_cases e : x = d
      · exact Or.inl ⟨rfl, e⟩
      · rw [if_neg (by omega)] at x2
        refine Or.inr ⟨x2, fun w => e w.2, ?_, fun q => ?_⟩
        · rw [y1, r1, if_neg (by omega)]
        · rw [y0, r0, if_neg (by omega)]
    · rw [y1, r1, if_pos ⟨rfl, rfl⟩]
    · rw [y0, r0, if_pos rfl]
      unfold rwU
      rw [if_pos ⟨q0, q1⟩]
  exact ⟨(by omega), (by exact x_cd), (by exact x_sz), (by simp only [hr2]; exact J.ver), (by exact x_pv), (by simp only [hr4]; exact J.cl), (by simp only [hr5, hr30, hr31]; exact J.on), (by simp only [hr6]; exact J.fr), (by simp only [hr7]; exact J.to), (by simp only [hr8]; exact J.op), (by exact x_od), (by simp only [hr10]; exact J.cp), (by simp only [hr11]; exact J.du), (by simp only [hr12]; exact J.pf), (by simp only [hr13]; exact J.lf), (by simp only [hr14]; exact J.pr), (by simp only [hr15]; exact J.pl), (by simp only [hr16]; exact J.pd), (by simp only [hr17]; exact J.pt), (by simp only [hr18]; exact J.im), (by simp only [hr30]; exact J.nd), (by simp only [hr31]; exact J.nc), (by simp only [hr32]; exact J.no), (by simp only [hr33]; exact J.pa), (by simp only [hr34]; exact J.ls), (by simp only [hr32, hr35]; exact J.po), (by simp only [hr35, hr37, hr39]; exact J.ph), (by simp only [hr36]; exact J.ps), (by simp only [hr37]; exact J.pu), (by simp only [hr38]; exact J.pm), (by simp only [hr39]; exact J.hr), (by exact x_lg), (by exact x_sh), (by intro i; rw [hr25, wsA_c hr10 hr14]; exact J.wa i), (by simp only [hr14, hr26]; exact J.ip), (by simp only [hr27]; exact J.zs), (by simp only [hr28]; exact J.hp), (by simp only [hr15, hr27, hr28, hr32]; exact J.hl), (by exact x_vd), (by simp only [hr12, hr13, hr32]; exact J.vo), (by simp only [hr14, hr16, hr17, hr27, hr28, hr32]; exact J.vi), (by exact x_pe), (by exact x_sp), (by exact x_li)⟩
