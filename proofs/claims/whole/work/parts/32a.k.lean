/-! states behind what makes objects -/
def kAdd (τ : xS) : Int := if 3 ≤ τ 30 0 0 then 1 else 0
def addS (τ : xS) : xS := up (up (up τ 3 (τ 30 0 0) 0 (-1)) 4 (τ 30 0 0) 0 999) 30 0 0 (τ 30 0 0 + 1)
def comS (τ : xS) (d f t : Int) : xS := up (up (up (up (up τ 5 (τ 31 0 0) 0 d) 6 (τ 31 0 0) 0 f) 7 (τ 31 0 0) 0 t) 8 (τ 31 0 0) 0 1) 31 0 0 (τ 31 0 0 + 1)
def ordS (τ : xS) (d c u : Int) : xS := up (up (up (up τ 9 (τ 32 0 0) 0 d) 10 (τ 32 0 0) 0 c) 11 (τ 32 0 0) 0 u) 32 0 0 (τ 32 0 0 + 1)
theorem addS_r {τ : xS} {r : Nat} (h0 : r ≠ 3) (h1 : r ≠ 4) (h2 : r ≠ 30) : addS τ r = τ r := by
  unfold addS
  rw [up_r h2, up_r h1, up_r h0]
theorem comS_r {τ : xS} {d f t : Int} {r : Nat} (h0 : r ≠ 5) (h1 : r ≠ 6) (h2 : r ≠ 7) (h3 : r ≠ 8) (h4 : r ≠ 31) : comS τ d f t r = τ r := by
  unfold comS
  rw [up_r h4, up_r h3, up_r h2, up_r h1, up_r h0]
theorem ordS_r {τ : xS} {d c u : Int} {r : Nat} (h0 : r ≠ 9) (h1 : r ≠ 10) (h2 : r ≠ 11) (h3 : r ≠ 32) : ordS τ d c u r = τ r := by
  unfold ordS
  rw [up_r h3, up_r h2, up_r h1, up_r h0]
/-- the layout of what is neither a document nor a comment nor an order holds -/
def xKp (ad2 ad : xL) : Prop := ∀ k n, k ≤ 10 ∨ 20 ≤ k → ad2 k n = ad k n
theorem jG_m {Y : Nat → ClassId} {τ τ2 σ : xS} {ρ : xG} {ad ad2 : xL} (h : xKp ad2 ad) {k : Nat} (hk : 20 ≤ k) (n : Int) : jG Y τ2 σ ρ ad2 k n = jG Y τ σ ρ ad k n := by
  have e : ∀ k, 20 ≤ k → ad2 k = ad k := fun k hk => funext fun n => h k n (Or.inr hk)
  have m : ∀ q, mG Y σ ad2 q n = mG Y σ ad q n := by
    intro q
    have h20 := e 20 (by decide); have h21 := e 21 (by decide); have h22 := e 22 (by decide); have h23 := e 23 (by decide); have h24 := e 24 (by decide); have h25 := e 25 (by decide)
    have h26 := e 26 (by decide); have h27 := e 27 (by decide); have h28 := e 28 (by decide); have h29 := e 29 (by decide); have h30 := e 30 (by decide); have h31 := e 31 (by decide)
    have h32 := e 32 (by decide); have h33 := e 33 (by decide); have h34 := e 34 (by decide); have h35 := e 35 (by decide); have h36 := e 36 (by decide); have h37 := e 37 (by decide)
    have h38 := e 38 (by decide); have h39 := e 39 (by decide); have h40 := e 40 (by decide); have h41 := e 41 (by decide)
    have h0 : mG20 Y σ ad2 n = mG20 Y σ ad n := by
      unfold mG20
      rw [h21, h22, h23, h24, h25, h26, h27, h28, h29, h30, h31, h32, h33, h34, h35, h36, h37, h38, h39, h40, h41]
    unfold mG
    split
    · exact h0
    all_goals rfl
  show (if k < 20 then cG Y τ2 ad2 k n else if k < 42 then mG Y σ ad2 (k - 20) n else ρ k n) = (if k < 20 then cG Y τ ad k n else if k < 42 then mG Y σ ad (k - 20) n else ρ k n)
  rw [if_neg (show ¬ k < 20 by omega), if_neg (show ¬ k < 20 by omega), m]
