theorem fsh_n {a b : Int} (h0 : 0 ≤ a) (h1 : a ≤ 18) (h2 : 1 ≤ b) (h3 : b ≤ 18) : vf_n32 (FP.fdiv (FP.i2f (iI a)) (FP.i2f (iI b))) := by
  have k : ∀ x : Fin 19, ∀ y : Fin 18, (FP.fdiv (FP.i2f (iI ((x : Nat) : Int))) (FP.i2f (iI (((y : Nat) : Int) + 1)))) &&& 0x7fffffff ≤ 0x7f800000 := by decide +kernel
  have := k ⟨a.toNat, by omega⟩ ⟨(b - 1).toNat, by omega⟩
  simp only [] at this
  rw [show ((a.toNat : Nat) : Int) = a by omega, show (((b - 1).toNat : Nat) : Int) + 1 = b by omega] at this
  exact this
theorem dml_n {a b : Int} (h0 : 0 ≤ a) (h1 : a ≤ 240) (h2 : 1 ≤ b) (h3 : b ≤ 3) : vf_n64 (FP.ddiv (FP.i2d (iI a)) (FP.i2d (iI b))) := by
  have k : ∀ x : Fin 241, ∀ y : Fin 3, (FP.ddiv (FP.i2d (iI ((x : Nat) : Int))) (FP.i2d (iI (((y : Nat) : Int) + 1)))) &&& 0x7fffffffffffffff ≤ 0x7ff0000000000000 := by decide +kernel
  have := k ⟨a.toNat, by omega⟩ ⟨(b - 1).toNat, by omega⟩
  simp only [] at this
  rw [show ((a.toNat : Nat) : Int) = a by omega, show (((b - 1).toNat : Nat) : Int) + 1 = b by omega] at this
  exact this
noncomputable def gsG (τ : xS) (z : Int) : Int := sumZ (fun o => gdA τ o (shT τ (τ 9 o 0))) z
def gsT (τ : xS) (z : Int) : Int := sumZ (fun o => shT τ (τ 9 o 0)) z
def mlT (τ : xS) (z : Int) : Int := sumZ (fun d => τ 1 (2 * d) 0) z
theorem gs_b {n : Int} {τ : xS} (I : xI n τ) {z : Int} (h : 0 ≤ z) (h1 : z ≤ τ 32 0 0) : 0 ≤ gsG τ z ∧ gsG τ z ≤ gsT τ z ∧ z ≤ gsT τ z ∧ gsT τ z ≤ 3 * z := by
  have k : ∀ m : Nat, (m : Int) ≤ τ 32 0 0 → 0 ≤ gsG τ m ∧ gsG τ m ≤ gsT τ m ∧ (m : Int) ≤ gsT τ m ∧ gsT τ m ≤ 3 * m := by
    intro m
    induction m with
    | zero => intro _; unfold gsG gsT; rw [show ((0 : Nat) : Int) = 0 by rfl, sumZ_0, sumZ_0]; omega
    | succ m ih =>
      intro hm
      have h9 := ih (by omega)
      have e1 : gsG τ ((m + 1 : Nat) : Int) = gsG τ m + gdA τ m (shT τ (τ 9 m 0)) := by
        unfold gsG; rw [show ((m + 1 : Nat) : Int) = (m : Int) + 1 by omega, sumZ_s (by omega)]
      have e2 : gsT τ ((m + 1 : Nat) : Int) = gsT τ m + shT τ (τ 9 m 0) := by
        unfold gsT; rw [show ((m + 1 : Nat) : Int) = (m : Int) + 1 by omega, sumZ_s (by omega)]
      have k3 := I.od m (by omega) (by omega)
      have k5 := I.sb (τ 9 m 0)
      have k6 := gdA_b τ m k5.1
      omega
  have := k z.toNat (by omega)
  rwa [show ((z.toNat : Nat) : Int) = z by omega] at this
theorem ml_b {n : Int} {τ : xS} (I : xI n τ) {z : Int} (h : 0 ≤ z) : 0 ≤ mlT τ z ∧ mlT τ z ≤ 80 * z := by
  have := sumZ_b (f := fun d => τ 1 (2 * d) 0) (b := 80) h (fun i _ _ => I.sz _ _)
  unfold mlT; omega
theorem lgC_s {τ : xS} {d z : Int} (h : 0 ≤ z) : lgC τ d (z + 1).toNat = (if τ 21 0 z = d then (if τ 20 0 z = 0 then lgC τ d z.toNat + 1 else if τ 20 0 z = 1 then lgC τ d z.toNat - 1 else lgC τ d z.toNat) else lgC τ d z.toNat) := by
  obtain ⟨m, rfl⟩ : ∃ m : Nat, z = (m : Int) := ⟨z.toNat, by omega⟩
  rw [show ((m : Int) + 1).toNat = m + 1 by omega, show ((m : Int)).toNat = m by omega]
  rfl
theorem lgN_s {τ : xS} {d z p : Int} (h : 0 ≤ z) : lgN τ d (z + 1).toNat p = (if τ 21 0 z = d then (if τ 20 0 z = 0 then (if τ 22 0 z = p then τ 23 0 z else if τ 22 0 z < p then lgN τ d z.toNat (p - 1) else lgN τ d z.toNat p) else if τ 20 0 z = 1 then (if τ 22 0 z ≤ p then lgN τ d z.toNat (p + 1) else lgN τ d z.toNat p) else lgN τ d z.toNat p) else lgN τ d z.toNat p) := by
  obtain ⟨m, rfl⟩ : ∃ m : Nat, z = (m : Int) := ⟨z.toNat, by omega⟩
  rw [show ((m : Int) + 1).toNat = m + 1 by omega, show ((m : Int)).toNat = m by omega]
  rfl
