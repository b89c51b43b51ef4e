/-- the first k sheets of an order have no plate -/
def m15 (σ : xS) (o k : Int) : xS := fun r i j => if r = 15 ∧ j = 0 ∧ 3 * o ≤ i ∧ i < 3 * o + k then -1 else σ r i j
theorem m15_0 {σ : xS} {o : Int} : m15 σ o 0 = σ := by
  funext r i j
  unfold m15
  exact if_neg (by omega)
theorem m15_s {σ : xS} {o k : Int} (h : 0 ≤ k) : up (m15 σ o k) 15 (3 * o + k) 0 (-1) = m15 σ o (k + 1) := by
  funext r i j
  unfold up m15
  by_cases c : r = 15 ∧ i = 3 * o + k ∧ j = 0
  · rw [if_pos c, if_pos (by omega)]
  · rw [if_neg c]
    by_cases c2 : r = 15 ∧ j = 0 ∧ 3 * o ≤ i ∧ i < 3 * o + k
    · rw [if_pos c2, if_pos (by omega)]
    · rw [if_neg c2, if_neg (by omega)]
theorem m15_r {σ : xS} {o k : Int} {r : Nat} (h : r ≠ 15) : m15 σ o k r = σ r := by
  funext i j
  unfold m15
  exact if_neg (by omega)
theorem sumZ_3 {f : Int → Int} : sumZ f 3 = f 0 + f 1 + f 2 := by
  have a : sumZ f 3 = sumZ f 2 + f 2 := sumZ_s (z := 2) (by omega)
  have b : sumZ f 2 = sumZ f 1 + f 1 := sumZ_s (z := 1) (by omega)
  have c : sumZ f 1 = sumZ f 0 + f 0 := sumZ_s (z := 0) (by omega)
  rw [sumZ_0] at c
  omega
noncomputable def wsN (σ : xS) (z s : Int) : Int := sumZ (fun q => σ 10 z 0 * wzA (σ 14 (3 * z + q) 0)) s
theorem wsN_3 (σ : xS) (z : Int) : wsN σ z 3 = wsA σ z := by
  unfold wsN wsA
  rw [sumZ_3, Int.mul_add, Int.mul_add]
  rw [show 3 * z + 0 = 3 * z by omega]
