/-! what the cells speak of: the class's not of regions 14, 15, 40; the reference's not of 20 to 28 and 41 -/
theorem kdep_n : ∀ k, k < 20 → ∀ r ∈ kdep k, r ≠ 14 ∧ r ≠ 15 ∧ r ≠ 40 := by decide
theorem mdep_n : ∀ k, k < 22 → ∀ r ∈ mdep k, r < 20 ∨ 30 ≤ r ∧ r ≠ 41 := by decide
theorem jG_ext {Y : Nat → ClassId} {τ τ2 σ σ2 : xS} {ρ : xG} {ad : xL} (hc : ∀ r, r ≠ 14 → r ≠ 15 → r ≠ 40 → τ2 r = τ r) (hm : ∀ r, r < 20 ∨ 30 ≤ r ∧ r ≠ 41 → σ2 r = σ r) : jG Y τ2 σ2 ρ ad = jG Y τ σ ρ ad := by
  funext k n
  show (if k < 20 then cG Y τ2 ad k n else if k < 42 then mG Y σ2 ad (k - 20) n else ρ k n) = (if k < 20 then cG Y τ ad k n else if k < 42 then mG Y σ ad (k - 20) n else ρ k n)
  by_cases h1 : k < 20
  · rw [if_pos h1, if_pos h1, cG_c (fun r hr => hc r (kdep_n k h1 r hr).1 (kdep_n k h1 r hr).2.1 (kdep_n k h1 r hr).2.2)]
  · rw [if_neg h1, if_neg h1]
    by_cases h2 : k < 42
    · rw [if_pos h2, if_pos h2, mG_c (fun r hr => hm r (mdep_n (k - 20) (by omega) r hr))]
    · rw [if_neg h2, if_neg h2]
