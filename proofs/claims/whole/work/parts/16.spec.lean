/-! what the class and the reference both answer: functions of the state -/
def shC (n : Int) : Int := ((n + 7) / 8 + 3) / 4
def tAt (τ : xS) (t p : Int) : Int := if 0 ≤ p ∧ p < τ 1 t 0 then τ 0 t p else -1
def pgA (S s q : Int) : Int := if q = 0 then 4 * S - 1 - 2 * s else if q = 1 then 2 * s else if q = 2 then 2 * s + 1 else 4 * S - 2 - 2 * s
def shT (τ : xS) (d : Int) : Int := shC (τ 1 (2 * d + 1) 0)
def cOn (τ : xS) (d s k : Int) : Int := tAt τ (2 * d + 1) (8 * pgA (shT τ d) s (k / 8) + k % 8)
/-- sums over places below z -/
def sumN (f : Int → Int) : Nat → Int
  | 0 => 0
  | n + 1 => sumN f n + f (n : Int)
def sumZ (f : Int → Int) (z : Int) : Int := sumN f z.toNat
theorem sumZ_0 {f : Int → Int} : sumZ f 0 = 0 := rfl
theorem sumZ_s {f : Int → Int} {z : Int} (h : 0 ≤ z) : sumZ f (z + 1) = sumZ f z + f z := by
  unfold sumZ
  rw [show (z + 1).toNat = z.toNat + 1 by omega]
  show sumN f z.toNat + f ((z.toNat : Nat) : Int) = _
  rw [iz h]
theorem sumZ_c {f g : Int → Int} {z : Int} (h : ∀ i, 0 ≤ i → i < z → f i = g i) : sumZ f z = sumZ g z := by
  unfold sumZ
  have k : ∀ n : Nat, (∀ i : Int, 0 ≤ i → i < n → f i = g i) → sumN f n = sumN g n := by
    intro n
    induction n with
    | zero => intro _; rfl
    | succ n ih =>
      intro hn
      show sumN f n + f n = sumN g n + g n
      rw [ih (fun i h0 h1 => hn i h0 (by omega)), hn n (by omega) (by omega)]
  exact k _ (fun i h0 h1 => h i h0 (by omega))
theorem sumZ_b {f : Int → Int} {z b : Int} (hz : 0 ≤ z) (h : ∀ i, 0 ≤ i → i < z → 0 ≤ f i ∧ f i ≤ b) : 0 ≤ sumZ f z ∧ sumZ f z ≤ b * z := by
  have k : ∀ n : Nat, (∀ i : Int, 0 ≤ i → i < n → 0 ≤ f i ∧ f i ≤ b) → 0 ≤ sumN f n ∧ sumN f n ≤ b * (n : Int) := by
    intro n
    induction n with
    | zero => intro _; exact ⟨Int.le_refl _, by simp [sumN]⟩
    | succ n ih =>
      intro hn
      obtain ⟨h1, h2⟩ := ih (fun i h0 h1 => hn i h0 (by omega))
      obtain ⟨h3, h4⟩ := hn n (by omega) (by omega)
      have e : b * ((n + 1 : Nat) : Int) = b * (n : Int) + b := by rw [Int.natCast_add, Int.mul_add]; simp
      refine ⟨?_, ?_⟩
      · show 0 ≤ sumN f n + f n
        omega
      · show sumN f n + f n ≤ _
        rw [e]
        omega
  have := k z.toNat (fun i h0 h1 => h i h0 (by omega))
  rw [iz hz] at this
  exact this
theorem shC_b {n : Int} (h0 : 0 ≤ n) (h1 : n ≤ 80) : 0 ≤ shC n ∧ shC n ≤ 3 := by unfold shC; constructor <;> omega
/-! what holds of the state behind n calls -/
def xI (n : Int) (τ : xS) : Prop :=
  n ≤ 512 ∧ 0 ≤ n ∧
  (∀ i j, 0 ≤ τ 1 i j ∧ τ 1 i j ≤ 80) ∧ (∀ i j, 0 ≤ τ 2 i j ∧ τ 2 i j ≤ n) ∧ (∀ i j, -1 ≤ τ 3 i j ∧ τ 3 i j ≤ n) ∧ (∀ i j, 0 ≤ τ 4 i j ∧ τ 4 i j ≤ 999) ∧
  (∀ i, 0 ≤ i → i < τ 31 0 0 → 0 ≤ τ 5 i 0 ∧ τ 5 i 0 < τ 30 0 0) ∧ (∀ i j, 0 ≤ τ 6 i j ∧ τ 6 i j ≤ 80) ∧ (∀ i j, 0 ≤ τ 7 i j ∧ τ 7 i j ≤ 80) ∧ (∀ i j, τ 8 i j = 0 ∨ τ 8 i j = 1) ∧
  (∀ i, 0 ≤ i → i < τ 32 0 0 → 0 ≤ τ 9 i 0 ∧ τ 9 i 0 < τ 30 0 0 ∧ 1 ≤ τ 24 (τ 9 i 0) 0) ∧ (∀ i j, 0 ≤ τ 10 i j ∧ τ 10 i j ≤ 500) ∧ (∀ i j, 0 ≤ τ 11 i j ∧ τ 11 i j ≤ 999) ∧
  (∀ i j, 0 ≤ τ 12 i j ∧ τ 12 i j ≤ 500 * n) ∧ (∀ i j, 0 ≤ τ 13 i j ∧ τ 13 i j ≤ n) ∧ (∀ i j, 0 ≤ τ 14 i j ∧ τ 14 i j ≤ n) ∧ (∀ i j, -1 ≤ τ 15 i j ∧ τ 15 i j ≤ 32) ∧
  (0 ≤ τ 30 0 0 ∧ τ 30 0 0 ≤ 3) ∧ (0 ≤ τ 31 0 0 ∧ τ 31 0 0 ≤ 8) ∧ (0 ≤ τ 32 0 0 ∧ τ 32 0 0 ≤ 6) ∧ (0 ≤ τ 33 0 0 ∧ τ 33 0 0 ≤ 99999) ∧ (0 ≤ τ 34 0 0 ∧ τ 34 0 0 ≤ 999) ∧
  (τ 35 0 0 = -1 ∨ 0 ≤ τ 35 0 0 ∧ τ 35 0 0 < τ 32 0 0 ∧ τ 39 0 0 < τ 37 0 0) ∧ (0 ≤ τ 36 0 0 ∧ τ 36 0 0 < 3) ∧ (0 ≤ τ 37 0 0 ∧ τ 37 0 0 ≤ 2000) ∧ (0 ≤ τ 38 0 0 ∧ τ 38 0 0 ≤ 100) ∧ (0 ≤ τ 39 0 0 ∧ τ 39 0 0 ≤ 999) ∧
  (0 ≤ τ 41 0 0 ∧ τ 41 0 0 ≤ n) ∧ (∀ i, τ 24 i 0 = shT τ i) ∧ (∀ i j, 0 ≤ τ 25 i j ∧ τ 25 i j ≤ 500 * n) ∧ (∀ i, τ 26 i 0 = if τ 14 i 0 = 0 then 0 else 1) ∧ (∀ i, 0 ≤ τ 27 i 0 ∧ τ 27 i 0 ≤ 32) ∧ (∀ i j, τ 28 i j = 0 ∨ τ 28 i j = 1)
theorem pg_b {S s q : Int} (h0 : 0 ≤ s) (h1 : s < S) (hq : 0 ≤ q ∧ q ≤ 3) (hS : S ≤ 3) : 0 ≤ pgA S s q ∧ pgA S s q ≤ 4 * S - 1 := by
  unfold pgA
  split
  · omega
  · split
    · omega
    · split <;> omega
/-- codes in range: what an array of codes may hold -/
def xCd (τ : xS) : Prop := ∀ t p, -1 ≤ τ 0 t p ∧ τ 0 t p ≤ 128527
theorem tAt_b {τ : xS} (h : xCd τ) (t p : Int) : -1 ≤ tAt τ t p ∧ tAt τ t p ≤ 128527 := by
  unfold tAt
  split
  · exact h t p
  · omega
theorem cOn_b {τ : xS} (h : xCd τ) (d s k : Int) : -1 ≤ cOn τ d s k ∧ cOn τ d s k ≤ 128527 := tAt_b h _ _
/-- a document that stands, its sheets counted -/
def dOK (τ : xS) (d : Int) : Prop := 0 ≤ d ∧ d < τ 30 0 0 ∧ τ 24 d 0 = shT τ d ∧ 0 ≤ τ 1 (2 * d + 1) 0 ∧ τ 1 (2 * d + 1) 0 ≤ 80
theorem dOK.sh {τ : xS} {d : Int} (h : dOK τ d) : 0 ≤ shT τ d ∧ shT τ d ≤ 3 := shC_b h.2.2.2.1 h.2.2.2.2
theorem dOK.c {τ τ2 : xS} {d : Int} (h : dOK τ d) (h30 : τ2 30 = τ 30) (h24 : τ2 24 = τ 24) (h1 : τ2 1 = τ 1) : dOK τ2 d := by
  unfold dOK shT at *
  rw [h30, h24, h1]
  exact h
theorem shT_c {τ τ2 : xS} {d : Int} (h1 : τ2 1 = τ 1) : shT τ2 d = shT τ d := by unfold shT; rw [h1]
theorem cOn_c {τ τ2 : xS} {d s k : Int} (h0 : τ2 0 = τ 0) (h1 : τ2 1 = τ 1) : cOn τ2 d s k = cOn τ d s k := by
  unfold cOn tAt
  rw [shT_c h1, h0, h1]
/-- a row overwritten up to n -/
def rwU (f g : Int → Int) (n : Int) : Int → Int := fun k => if 0 ≤ k ∧ k < n then g k else f k
theorem rwU_0 {f g : Int → Int} : rwU f g 0 = f := by
  funext k
  unfold rwU
  rw [if_neg (by omega)]
theorem rwU_s {τ : xS} {r : Nat} {i n : Int} {f g : Int → Int} (h : 0 ≤ n) : up (upR τ r i (rwU f g n)) r i n (g n) = upR τ r i (rwU f g (n + 1)) := by
  rw [up_upR]
  congr 1
  funext k
  unfold rwU
  by_cases hk : k = n
  · subst hk
    rw [if_pos rfl, if_pos ⟨h, by omega⟩]
  · rw [if_neg hk]
    by_cases hk2 : 0 ≤ k ∧ k < n
    · rw [if_pos hk2, if_pos ⟨hk2.1, by omega⟩]
    · rw [if_neg hk2, if_neg (by omega)]
/-- what was printed for a sheet is what the proof shows on it now -/
def smA (τ : xS) (i d s : Int) : Prop := ∀ k, 0 ≤ k → k < 32 → τ 16 i k = cOn τ d s k
