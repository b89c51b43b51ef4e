/-! states behind the calls, two -/
def pasH (τ : xS) (h : Int) : xS := up τ 39 0 0 (τ 39 0 0 + h)
abbrev pasP (τ : xS) (h : Int) : Prop := τ 35 0 0 ≠ -1 ∧ τ 37 0 0 ≤ τ 39 0 0 + h
def pasS (τ : xS) (h : Int) : xS := if pasP τ h then unlS (pasH τ h) else pasH τ h
def pasA (τ : xS) (h : Int) : Int := if pasP τ h then 1 else 0
theorem tpS_r {τ : xS} {o s : Int} {r : Nat} (h0 : r ≠ 16) (h1 : r ≠ 25) (h2 : r ≠ 26) : tpS τ o s r = τ r := by
  unfold tpS
  rw [up_r h2, upR_r h0]
  split
  · rfl
  · rw [up_r h1]
theorem unlS_r {τ : xS} {r : Nat} (h0 : r ≠ 16) (h1 : r ≠ 25) (h2 : r ≠ 26) (h3 : r ≠ 35) : unlS τ r = τ r := by
  unfold unlS
  rw [up_r h3, tpS_r h0 h1 h2]
theorem ldS_r {τ : xS} {o s h : Int} {r : Nat} (h0 : r ≠ 35) (h1 : r ≠ 36) (h2 : r ≠ 37) (h3 : r ≠ 38) (h4 : r ≠ 18) : ldS τ o s h r = τ r := by
  unfold ldS
  rw [upR_r h4, up_r h3, up_r h2, up_r h1, up_r h0]
theorem pasH_r {τ : xS} {h : Int} {r : Nat} (h0 : r ≠ 39) : pasH τ h r = τ r := by
  unfold pasH
  rw [up_r h0]
/-- what print takes of the stock and the plate that it makes -/
def prT1 (τ : xS) (z : Int) : xS := up (up τ 33 0 0 (τ 33 0 0 - τ 10 z 0)) 12 z 0 (τ 12 z 0 + τ 10 z 0)
def prT2 (τ : xS) (z : Int) : xS := up (up (prT1 τ z) 34 0 0 (τ 34 0 0 - 1)) 13 z 0 (τ 13 z 0 + 1)
noncomputable def prT3 (τ : xS) (z s : Int) : xS := up (plS (prT2 τ z) (3 * z + s) (τ 9 z 0) s 32) 28 (3 * z + s) 0 1
noncomputable def prT (τ : xS) (z s : Int) : xS := if bI (hasP τ (3 * z + s) (τ 9 z 0) s) = 0 then prT3 τ z s else prT1 τ z
def prH (τ : xS) (z : Int) : Int := τ 39 0 0 + 1 + τ 10 z 0 / 100
noncomputable def prtS (τ : xS) (z s : Int) : xS := ldS (prT τ z s) z s (prH τ z)
theorem prT1_r {τ : xS} {z : Int} {r : Nat} (h0 : r ≠ 33) (h1 : r ≠ 12) : prT1 τ z r = τ r := by
  unfold prT1
  rw [up_r h1, up_r h0]
theorem prT2_r {τ : xS} {z : Int} {r : Nat} (h0 : r ≠ 33) (h1 : r ≠ 12) (h2 : r ≠ 34) (h3 : r ≠ 13) : prT2 τ z r = τ r := by
  unfold prT2
  rw [up_r h3, up_r h2, prT1_r h0 h1]
theorem prT3_r {τ : xS} {z s : Int} {r : Nat} (h0 : r ≠ 33) (h1 : r ≠ 12) (h2 : r ≠ 34) (h3 : r ≠ 13) (h4 : r ≠ 17) (h5 : r ≠ 27) (h6 : r ≠ 28) : prT3 τ z s r = τ r := by
  unfold prT3
  rw [up_r h6, plS_r h4 h5, prT2_r h0 h1 h2 h3]
theorem prT_r {τ : xS} {z s : Int} {r : Nat} (h0 : r ≠ 33) (h1 : r ≠ 12) (h2 : r ≠ 34) (h3 : r ≠ 13) (h4 : r ≠ 17) (h5 : r ≠ 27) (h6 : r ≠ 28) : prT τ z s r = τ r := by
  unfold prT
  split
  · exact prT3_r h0 h1 h2 h3 h4 h5 h6
  · exact prT1_r h0 h1
noncomputable def ltA (τ : xS) (z : Int) : Int := pk (τ 39 0 0 ≤ τ 11 z 0 ∨ alA τ z) 0 (τ 39 0 0 - τ 11 z 0)
