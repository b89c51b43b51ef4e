/-! answers and states of the reference: k is what it throws -/
def mA (k a b : Int) : Int := if k = 0 then a else b
noncomputable def mS (k : Int) (F : xS → xS) (σ : xS) : xS := if k = 0 then F (up σ 40 0 0 0) else up σ 40 0 0 k
theorem mA_0 {k a b : Int} (h : k = 0) : mA k a b = a := if_pos h
theorem mA_n {k a b : Int} (h : k ≠ 0) : mA k a b = b := if_neg h
theorem mS_0 {k : Int} {F : xS → xS} {σ : xS} (h : k = 0) : mS k F σ = F (up σ 40 0 0 0) := if_pos h
theorem mS_n {k v : Int} {F : xS → xS} {σ : xS} (h : k = v) (hv : v ≠ 0) : mS k F σ = up σ 40 0 0 v := by
  subst h
  exact if_neg hv
theorem toA_2 {σ : xS} {o z : Int} (h : 0 ≤ z) : toA σ o z = sumZ (fun s => bI (stA σ o s = 119)) z + sumZ (fun s => bI (stA σ o s = 115)) z := by
  have k : ∀ n : Nat, toA σ o n = sumZ (fun s => bI (stA σ o s = 119)) n + sumZ (fun s => bI (stA σ o s = 115)) n := by
    intro n
    induction n with
    | zero => unfold toA; rw [show ((0 : Nat) : Int) = 0 by rfl, sumZ_0, sumZ_0, sumZ_0]; rfl
    | succ n ih =>
      unfold toA at ih ⊢
      rw [show ((n + 1 : Nat) : Int) = (n : Int) + 1 by omega, sumZ_s (by omega), sumZ_s (by omega), sumZ_s (by omega), ih]
      by_cases c1 : stA σ o n = 119
      · rw [bI_t (Or.inl c1), bI_t c1, bI_f (show ¬ stA σ o n = 115 by omega)]; omega
      · by_cases c2 : stA σ o n = 115
        · rw [bI_t (Or.inr c2), bI_f c1, bI_t c2]; omega
        · rw [bI_f (fun w => w.elim c1 c2), bI_f c1, bI_f c2]; omega
  have := k z.toNat
  rwa [show ((z.toNat : Nat) : Int) = z by omega] at this
theorem up_up {σ : xS} {r : Nat} {i j v w : Int} : up (up σ r i j v) r i j w = up σ r i j w := by
  funext r' i' j'
  unfold up
  split
  · rfl
  · rfl
theorem jG_up {Y : Nat → ClassId} {τ σ : xS} {ρ : xG} {ad : xL} {v w x : Int} (h : w = x) : jG Y τ (up (up σ 40 0 0 v) 40 0 0 w) ρ ad = jG Y τ (up σ 40 0 0 x) ρ ad := by
  rw [up_up, h]
theorem up_q {σ : xS} {r : Nat} {v i j : Int} (h : r ≠ 40) : up σ 40 0 0 v r i j = σ r i j := by rw [up_r h]
theorem up_q2 {σ : xS} {r : Nat} {v w i j : Int} (h : r ≠ 40) : up (up σ 40 0 0 v) 40 0 0 w r i j = σ r i j := by rw [up_r h, up_r h]
theorem kDoc_f (σ : xS) (z : Int) : (kDoc σ z = 0 ∧ 0 ≤ z ∧ z < σ 30 0 0) ∨ (kDoc σ z = 1 ∧ ¬ (0 ≤ z ∧ z < σ 30 0 0)) := by unfold kDoc; split <;> omega
theorem kOdr_f (σ : xS) (z : Int) : (kOdr σ z = 0 ∧ 0 ≤ z ∧ z < σ 32 0 0) ∨ (kOdr σ z = 1 ∧ ¬ (0 ≤ z ∧ z < σ 32 0 0)) := by unfold kOdr; split <;> omega
theorem kPrf_f (σ : xS) (z : Int) : (kPrf σ z = 0 ∧ 0 ≤ z ∧ z < σ 30 0 0 ∧ σ 3 z 0 ≠ -1) ∨ (kPrf σ z = 1 ∧ ¬ (0 ≤ z ∧ z < σ 30 0 0)) ∨ (kPrf σ z = 2 ∧ 0 ≤ z ∧ z < σ 30 0 0 ∧ σ 3 z 0 = -1) := by unfold kPrf; (repeat' split) <;> omega
theorem kSta_f (σ : xS) (z s : Int) : (kSta σ z s = 0 ∧ (0 ≤ z ∧ z < σ 32 0 0) ∧ 0 ≤ s ∧ s < shT σ (σ 9 z 0)) ∨ (kSta σ z s = 1 ∧ ¬ (0 ≤ z ∧ z < σ 32 0 0)) ∨ (kSta σ z s = 2 ∧ (0 ≤ z ∧ z < σ 32 0 0) ∧ ¬ (0 ≤ s ∧ s < shT σ (σ 9 z 0))) := by unfold kSta; (repeat' split) <;> omega
theorem rLm {a b : Int} (h : a = b) : some (Value.long (lI a)) = some (Value.long (lI b)) := by rw [h]
def mQ {α : Type} (k : Int) (a b : α) : α := if k = 0 then a else b
theorem mQ_0 {α : Type} {k : Int} {a b : α} (h : k = 0) : mQ k a b = a := if_pos h
theorem mQ_n {α : Type} {k : Int} {a b : α} (h : k ≠ 0) : mQ k a b = b := if_neg h
