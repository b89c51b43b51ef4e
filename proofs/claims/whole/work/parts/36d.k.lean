/-! the hours of the reference, one by one -/
theorem up_cm {σ : xS} {r r' : Nat} {i j v i' j' w : Int} (h : r ≠ r') : up (up σ r i j v) r' i' j' w = up (up σ r' i' j' w) r i j v := by
  funext a b c
  unfold up
  by_cases c1 : a = r' ∧ b = i' ∧ c = j'
  · rw [if_pos c1, if_neg (by omega), if_pos c1]
  · rw [if_neg c1]
    by_cases c2 : a = r ∧ b = i ∧ c = j
    · rw [if_pos c2, if_pos c2]
    · rw [if_neg c2, if_neg c2, if_neg c1]
theorem upR_cm {σ : xS} {r r' : Nat} {i i' j' w : Int} {f : Int → Int} (h : r ≠ r') : up (upR σ r i f) r' i' j' w = upR (up σ r' i' j' w) r i f := by
  funext a b c
  unfold up upR
  by_cases c1 : a = r' ∧ b = i' ∧ c = j'
  · rw [if_pos c1, if_neg (by omega)]
    exact (if_pos c1).symm
  · rw [if_neg c1]
    by_cases c2 : a = r ∧ b = i
    · rw [if_pos c2, if_pos c2]
    · rw [if_neg c2, if_neg c2]
      exact (if_neg c1).symm
def lvS (σ : xS) : xS := up (up (upR σ 16 (3 * σ 35 0 0 + σ 36 0 0) (rwU (σ 16 (3 * σ 35 0 0 + σ 36 0 0)) (σ 18 0) 32)) 14 (3 * σ 35 0 0 + σ 36 0 0) 0 (σ 14 (3 * σ 35 0 0 + σ 36 0 0) 0 + 1)) 35 0 0 (-1)
theorem lvS_39 {σ : xS} {v : Int} : up (lvS σ) 39 0 0 v = lvS (up σ 39 0 0 v) := by
  unfold lvS
  rw [show (up σ 39 0 0 v) 35 = σ 35 from up_r (by decide), show (up σ 39 0 0 v) 36 = σ 36 from up_r (by decide), show (up σ 39 0 0 v) 16 = σ 16 from up_r (by decide), show (up σ 39 0 0 v) 18 = σ 18 from up_r (by decide), show (up σ 39 0 0 v) 14 = σ 14 from up_r (by decide)]
  rw [up_cm (by decide), up_cm (r := 14) (by decide), upR_cm (by decide)]
theorem lvS_r {σ : xS} {r : Nat} (h1 : r ≠ 16) (h2 : r ≠ 14) (h3 : r ≠ 35) : lvS σ r = σ r := by
  unfold lvS
  rw [up_r h3, up_r h2, upR_r h1]
theorem lvS_35 {σ : xS} : lvS σ 35 0 0 = -1 := by
  unfold lvS
  rw [up_s]
def hrS (σ : xS) : xS := if pasP σ 1 then lvS (pasH σ 1) else pasH σ 1
def hrA (σ : xS) : Int := if pasP σ 1 then 1 else 0
def pkS (σ : xS) (k : Int) : xS := if pasP σ k then lvS (pasH σ k) else pasH σ k
theorem pas_H {σ : xS} {k : Int} : pasH (pasH σ k) 1 = pasH σ (k + 1) := by
  unfold pasH
  rw [up_s, up_up, Int.add_assoc]
theorem pkS_s {σ : xS} {k : Int} : hrS (pkS σ k) = pkS σ (k + 1) ∧ pasA σ k + hrA (pkS σ k) = pasA σ (k + 1) := by
  by_cases c : pasP σ k
  · have e : pkS σ k = lvS (pasH σ k) := if_pos c
    have n : ¬ pasP (lvS (pasH σ k)) 1 := fun w => w.1 lvS_35
    have c1 : pasP σ (k + 1) := ⟨c.1, by have := c.2; omega⟩
    refine ⟨?_, ?_⟩
    · rw [e, show hrS (lvS (pasH σ k)) = pasH (lvS (pasH σ k)) 1 from if_neg n, show pkS σ (k + 1) = lvS (pasH σ (k + 1)) from if_pos c1]
      rw [← pas_H]
      show up (lvS (pasH σ k)) 39 0 0 (lvS (pasH σ k) 39 0 0 + 1) = lvS (up (pasH σ k) 39 0 0 (pasH σ k 39 0 0 + 1))
      rw [lvS_39, lvS_r (by decide) (by decide) (by decide)]
    · rw [e]
      unfold pasA hrA
      rw [if_pos c, if_neg n, if_pos c1]
      rfl
  · have e : pkS σ k = pasH σ k := if_neg c
    have h35 : pasH σ k 35 0 0 = σ 35 0 0 := by rw [pasH_r (by decide)]
    have h37 : pasH σ k 37 0 0 = σ 37 0 0 := by rw [pasH_r (by decide)]
    have h39 : pasH σ k 39 0 0 = σ 39 0 0 + k := by unfold pasH; rw [up_s]
    have q : pasP (pasH σ k) 1 ↔ pasP σ (k + 1) := by
      show (pasH σ k 35 0 0 ≠ -1 ∧ pasH σ k 37 0 0 ≤ pasH σ k 39 0 0 + 1) ↔ (σ 35 0 0 ≠ -1 ∧ σ 37 0 0 ≤ σ 39 0 0 + (k + 1))
      rw [h35, h37, h39, Int.add_assoc]
    rw [e]
    unfold hrS pkS pasA hrA
    rw [if_neg c, pas_H]
    by_cases c1 : pasP σ (k + 1)
    · rw [if_pos (q.mpr c1), if_pos c1, if_pos (q.mpr c1), if_pos c1]
      exact ⟨rfl, rfl⟩
    · rw [if_neg (fun w => c1 (q.mp w)), if_neg c1, if_neg (fun w => c1 (q.mp w)), if_neg c1]
      exact ⟨rfl, rfl⟩
theorem up_same {σ : xS} {r : Nat} {i j : Int} : up σ r i j (σ r i j) = σ := by
  funext a b c
  unfold up
  by_cases h : a = r ∧ b = i ∧ c = j
  · rw [if_pos h, h.1, h.2.1, h.2.2]
  · exact if_neg h
theorem pkS_0 {σ : xS} (np : ¬ pasP σ 0) : pkS σ 0 = σ := by
  unfold pkS
  rw [if_neg np]
  unfold pasH
  rw [Int.add_zero]
  exact up_same
