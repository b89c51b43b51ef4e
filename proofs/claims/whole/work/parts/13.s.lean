/-! the state as regions of numbers; the picture of the class's cells and of the reference's -/
abbrev xS : Type := Nat → Int → Int → Int
def up (τ : xS) (r : Nat) (i j v : Int) : xS := fun r' i' j' => if r' = r ∧ i' = i ∧ j' = j then v else τ r' i' j'
def upR (τ : xS) (r : Nat) (i : Int) (f : Int → Int) : xS := fun r' i' j' => if r' = r ∧ i' = i then f j' else τ r' i' j'
theorem up_r {τ : xS} {r r' : Nat} {i j v : Int} (h : r' ≠ r) : up τ r i j v r' = τ r' := by
  funext i' j'
  unfold up
  rw [if_neg (fun q => h q.1)]
theorem upR_r {τ : xS} {r r' : Nat} {i : Int} {f : Int → Int} (h : r' ≠ r) : upR τ r i f r' = τ r' := by
  funext i' j'
  unfold upR
  rw [if_neg (fun q => h q.1)]
theorem up_s {τ : xS} {r : Nat} {i j v : Int} : up τ r i j v r i j = v := by unfold up; rw [if_pos ⟨rfl, rfl, rfl⟩]
theorem up_n {τ : xS} {r : Nat} {i j v i' j' : Int} (h : ¬ (i' = i ∧ j' = j)) : up τ r i j v r i' j' = τ r i' j' := by unfold up; rw [if_neg (fun q => h q.2)]
theorem up_e {τ : xS} {r : Nat} {i j v i' j' : Int} : up τ r i j v r i' j' = if i' = i ∧ j' = j then v else τ r i' j' := by
  by_cases h : i' = i ∧ j' = j
  · obtain ⟨rfl, rfl⟩ := h
    rw [up_s, if_pos ⟨rfl, rfl⟩]
  · rw [up_n h, if_neg h]
theorem upR_s {τ : xS} {r : Nat} {i : Int} {f : Int → Int} {j : Int} : upR τ r i f r i j = f j := by unfold upR; rw [if_pos ⟨rfl, rfl⟩]
theorem upR_n {τ : xS} {r : Nat} {i i' : Int} {f : Int → Int} {j : Int} (h : i' ≠ i) : upR τ r i f r i' j = τ r i' j := by unfold upR; rw [if_neg (fun q => h q.2)]
theorem upR_e {τ : xS} {r : Nat} {i i' : Int} {f : Int → Int} {j : Int} : upR τ r i f r i' j = if i' = i then f j else τ r i' j := by
  by_cases h : i' = i
  · subst h; rw [upR_s, if_pos rfl]
  · rw [upR_n h, if_neg h]
theorem up_upR {τ : xS} {r : Nat} {i j v : Int} {f : Int → Int} : up (upR τ r i f) r i j v = upR τ r i (fun k => if k = j then v else f k) := by
  funext r' i' j'
  unfold up upR
  by_cases h : r' = r ∧ i' = i
  · obtain ⟨rfl, rfl⟩ := h
    by_cases hj : j' = j
    · subst hj; simp
    · simp [hj]
  · rw [if_neg (fun q => h ⟨q.1, q.2.1⟩), if_neg h, if_neg h]
theorem upR_self {τ : xS} {r : Nat} {i : Int} : upR τ r i (τ r i) = τ := by
  funext r' i' j'
  unfold upR
  by_cases h : r' = r ∧ i' = i
  · obtain ⟨rfl, rfl⟩ := h
    simp
  · rw [if_neg h]
theorem up_self {τ : xS} {r : Nat} {i j : Int} : up τ r i j (τ r i j) = τ := by
  funext r' i' j'
  unfold up
  by_cases h : r' = r ∧ i' = i ∧ j' = j
  · obtain ⟨rfl, rfl, rfl⟩ := h
    simp
  · rw [if_neg h]
def xpo (τ : xS) (ad : xL) : Option Nat := if τ 35 0 0 = -1 then none else some (ad 15 (τ 35 0 0))
def cG0 (Y : Nat → ClassId) (τ : xS) (ad : xL) (n : Int) : Option va_E := if n = 0 then some (.inr (9, [.ref (ad 1 (0)), .int (iI (τ 30 0 0)), .ref (ad 2 (0)), .int (iI (τ 31 0 0)), .ref (ad 3 (0)), .int (iI (τ 32 0 0)), .ref (ad 4 (0)), .ref (ad 9 (0)), .int (iI (τ 33 0 0)), .int (iI (τ 34 0 0)), .int (iI (τ 39 0 0))])) else none
theorem cG0_l {Y : Nat → ClassId} {τ : xS} {ad : xL} {n : Int} (h : n = 0) : cG0 Y τ ad n = some (.inr (9, [.ref (ad 1 (0)), .int (iI (τ 30 0 0)), .ref (ad 2 (0)), .int (iI (τ 31 0 0)), .ref (ad 3 (0)), .int (iI (τ 32 0 0)), .ref (ad 4 (0)), .ref (ad 9 (0)), .int (iI (τ 33 0 0)), .int (iI (τ 34 0 0)), .int (iI (τ 39 0 0))])) := if_pos h
theorem cG0_c {Y : Nat → ClassId} {τ τ2 : xS} {ad : xL} (h30 : τ2 30 = τ 30) (h31 : τ2 31 = τ 31) (h32 : τ2 32 = τ 32) (h33 : τ2 33 = τ 33) (h34 : τ2 34 = τ 34) (h39 : τ2 39 = τ 39) : cG0 Y τ2 ad = cG0 Y τ ad := by
  funext n
  unfold cG0
  simp only [h30, h31, h32, h33, h34, h39]
def cG1 (Y : Nat → ClassId) (τ : xS) (ad : xL) (n : Int) : Option va_E := if n = 0 then some (.inl (Y 4, 3, .inr (.inr (.inr (.inr (fun j => if (j : Int) < τ 30 0 0 then some (ad 11 j) else none)))))) else none
theorem cG1_l {Y : Nat → ClassId} {τ : xS} {ad : xL} {n : Int} (h : n = 0) : cG1 Y τ ad n = some (.inl (Y 4, 3, .inr (.inr (.inr (.inr (fun j => if (j : Int) < τ 30 0 0 then some (ad 11 j) else none)))))) := if_pos h
theorem cG1_c {Y : Nat → ClassId} {τ τ2 : xS} {ad : xL} (h30 : τ2 30 = τ 30) : cG1 Y τ2 ad = cG1 Y τ ad := by
  funext n
  unfold cG1
  simp only [h30]
def cG2 (Y : Nat → ClassId) (τ : xS) (ad : xL) (n : Int) : Option va_E := if n = 0 then some (.inl (Y 5, 8, .inr (.inr (.inr (.inr (fun j => if (j : Int) < τ 31 0 0 then some (ad 14 j) else none)))))) else none
theorem cG2_l {Y : Nat → ClassId} {τ : xS} {ad : xL} {n : Int} (h : n = 0) : cG2 Y τ ad n = some (.inl (Y 5, 8, .inr (.inr (.inr (.inr (fun j => if (j : Int) < τ 31 0 0 then some (ad 14 j) else none)))))) := if_pos h
theorem cG2_c {Y : Nat → ClassId} {τ τ2 : xS} {ad : xL} (h31 : τ2 31 = τ 31) : cG2 Y τ2 ad = cG2 Y τ ad := by
  funext n
  unfold cG2
  simp only [h31]
def cG3 (Y : Nat → ClassId) (τ : xS) (ad : xL) (n : Int) : Option va_E := if n = 0 then some (.inl (Y 6, 6, .inr (.inr (.inr (.inr (fun j => if (j : Int) < τ 32 0 0 then some (ad 15 j) else none)))))) else none
theorem cG3_l {Y : Nat → ClassId} {τ : xS} {ad : xL} {n : Int} (h : n = 0) : cG3 Y τ ad n = some (.inl (Y 6, 6, .inr (.inr (.inr (.inr (fun j => if (j : Int) < τ 32 0 0 then some (ad 15 j) else none)))))) := if_pos h
theorem cG3_c {Y : Nat → ClassId} {τ τ2 : xS} {ad : xL} (h32 : τ2 32 = τ 32) : cG3 Y τ2 ad = cG3 Y τ ad := by
  funext n
  unfold cG3
  simp only [h32]
def cG4 (Y : Nat → ClassId) (τ : xS) (ad : xL) (n : Int) : Option va_E := if n = 0 then some (.inr (4, [.ref (ad 5 (0)), .ref (ad 6 (0)), .ref (ad 7 (0)), .ref (ad 8 (0)), .int (iI (τ 41 0 0))])) else none
theorem cG4_l {Y : Nat → ClassId} {τ : xS} {ad : xL} {n : Int} (h : n = 0) : cG4 Y τ ad n = some (.inr (4, [.ref (ad 5 (0)), .ref (ad 6 (0)), .ref (ad 7 (0)), .ref (ad 8 (0)), .int (iI (τ 41 0 0))])) := if_pos h
theorem cG4_c {Y : Nat → ClassId} {τ τ2 : xS} {ad : xL} (h41 : τ2 41 = τ 41) : cG4 Y τ2 ad = cG4 Y τ ad := by
  funext n
  unfold cG4
  simp only [h41]
def cG5 (Y : Nat → ClassId) (τ : xS) (ad : xL) (n : Int) : Option va_E := if n = 0 then some (.inl (Y 0, 512, .inl (fun j => iI (τ 20 0 (j : Int))))) else none
theorem cG5_l {Y : Nat → ClassId} {τ : xS} {ad : xL} {n : Int} (h : n = 0) : cG5 Y τ ad n = some (.inl (Y 0, 512, .inl (fun j => iI (τ 20 0 (j : Int))))) := if_pos h
theorem cG5_c {Y : Nat → ClassId} {τ τ2 : xS} {ad : xL} (h20 : τ2 20 = τ 20) : cG5 Y τ2 ad = cG5 Y τ ad := by
  funext n
  unfold cG5
  simp only [h20]
def cG6 (Y : Nat → ClassId) (τ : xS) (ad : xL) (n : Int) : Option va_E := if n = 0 then some (.inl (Y 0, 512, .inl (fun j => iI (τ 21 0 (j : Int))))) else none
theorem cG6_l {Y : Nat → ClassId} {τ : xS} {ad : xL} {n : Int} (h : n = 0) : cG6 Y τ ad n = some (.inl (Y 0, 512, .inl (fun j => iI (τ 21 0 (j : Int))))) := if_pos h
theorem cG6_c {Y : Nat → ClassId} {τ τ2 : xS} {ad : xL} (h21 : τ2 21 = τ 21) : cG6 Y τ2 ad = cG6 Y τ ad := by
  funext n
  unfold cG6
  simp only [h21]
def cG7 (Y : Nat → ClassId) (τ : xS) (ad : xL) (n : Int) : Option va_E := if n = 0 then some (.inl (Y 0, 512, .inl (fun j => iI (τ 22 0 (j : Int))))) else none
theorem cG7_l {Y : Nat → ClassId} {τ : xS} {ad : xL} {n : Int} (h : n = 0) : cG7 Y τ ad n = some (.inl (Y 0, 512, .inl (fun j => iI (τ 22 0 (j : Int))))) := if_pos h
theorem cG7_c {Y : Nat → ClassId} {τ τ2 : xS} {ad : xL} (h22 : τ2 22 = τ 22) : cG7 Y τ2 ad = cG7 Y τ ad := by
  funext n
  unfold cG7
  simp only [h22]
def cG8 (Y : Nat → ClassId) (τ : xS) (ad : xL) (n : Int) : Option va_E := if n = 0 then some (.inl (Y 0, 512, .inl (fun j => iI (τ 23 0 (j : Int))))) else none
theorem cG8_l {Y : Nat → ClassId} {τ : xS} {ad : xL} {n : Int} (h : n = 0) : cG8 Y τ ad n = some (.inl (Y 0, 512, .inl (fun j => iI (τ 23 0 (j : Int))))) := if_pos h
theorem cG8_c {Y : Nat → ClassId} {τ τ2 : xS} {ad : xL} (h23 : τ2 23 = τ 23) : cG8 Y τ2 ad = cG8 Y τ ad := by
  funext n
  unfold cG8
  simp only [h23]
def cG9 (Y : Nat → ClassId) (τ : xS) (ad : xL) (n : Int) : Option va_E := if n = 0 then some (.inr (6, [va_rf (xpo τ ad), .int (iI (τ 36 0 0)), .int (iI (τ 37 0 0)), .int (iI (τ 38 0 0)), .ref (ad 10 (0))])) else none
theorem cG9_l {Y : Nat → ClassId} {τ : xS} {ad : xL} {n : Int} (h : n = 0) : cG9 Y τ ad n = some (.inr (6, [va_rf (xpo τ ad), .int (iI (τ 36 0 0)), .int (iI (τ 37 0 0)), .int (iI (τ 38 0 0)), .ref (ad 10 (0))])) := if_pos h
theorem cG9_c {Y : Nat → ClassId} {τ τ2 : xS} {ad : xL} (h35 : τ2 35 = τ 35) (h36 : τ2 36 = τ 36) (h37 : τ2 37 = τ 37) (h38 : τ2 38 = τ 38) : cG9 Y τ2 ad = cG9 Y τ ad := by
  funext n
  unfold cG9
  unfold xpo
  simp only [h35, h36, h37, h38]
def cG10 (Y : Nat → ClassId) (τ : xS) (ad : xL) (n : Int) : Option va_E := if n = 0 then some (.inl (Y 0, 32, .inl (fun j => iI (τ 18 0 (j : Int))))) else none
theorem cG10_l {Y : Nat → ClassId} {τ : xS} {ad : xL} {n : Int} (h : n = 0) : cG10 Y τ ad n = some (.inl (Y 0, 32, .inl (fun j => iI (τ 18 0 (j : Int))))) := if_pos h
theorem cG10_c {Y : Nat → ClassId} {τ τ2 : xS} {ad : xL} (h18 : τ2 18 = τ 18) : cG10 Y τ2 ad = cG10 Y τ ad := by
  funext n
  unfold cG10
  simp only [h18]
def cG11 (Y : Nat → ClassId) (τ : xS) (ad : xL) (n : Int) : Option va_E := if 0 ≤ n ∧ n < τ 30 0 0 then some (.inr (3, [.int (iI n), .ref (ad 12 (2 * n)), .ref (ad 12 (2 * n + 1)), .int (iI (τ 2 n 0)), .int (iI (τ 3 n 0)), .int (iI (τ 24 n 0)), .int (iI (τ 4 n 0))])) else none
theorem cG11_l {Y : Nat → ClassId} {τ : xS} {ad : xL} {n : Int} (h : 0 ≤ n ∧ n < τ 30 0 0) : cG11 Y τ ad n = some (.inr (3, [.int (iI n), .ref (ad 12 (2 * n)), .ref (ad 12 (2 * n + 1)), .int (iI (τ 2 n 0)), .int (iI (τ 3 n 0)), .int (iI (τ 24 n 0)), .int (iI (τ 4 n 0))])) := if_pos h
theorem cG11_c {Y : Nat → ClassId} {τ τ2 : xS} {ad : xL} (h2 : τ2 2 = τ 2) (h3 : τ2 3 = τ 3) (h4 : τ2 4 = τ 4) (h24 : τ2 24 = τ 24) (h30 : τ2 30 = τ 30) : cG11 Y τ2 ad = cG11 Y τ ad := by
  funext n
  unfold cG11
  simp only [h2, h3, h4, h24, h30]
def cG12 (Y : Nat → ClassId) (τ : xS) (ad : xL) (n : Int) : Option va_E := if 0 ≤ n ∧ n < 2 * τ 30 0 0 then some (.inr (8, [.ref (ad 13 (n)), .int (iI (τ 1 n 0))])) else none
theorem cG12_l {Y : Nat → ClassId} {τ : xS} {ad : xL} {n : Int} (h : 0 ≤ n ∧ n < 2 * τ 30 0 0) : cG12 Y τ ad n = some (.inr (8, [.ref (ad 13 (n)), .int (iI (τ 1 n 0))])) := if_pos h
theorem cG12_c {Y : Nat → ClassId} {τ τ2 : xS} {ad : xL} (h1 : τ2 1 = τ 1) (h30 : τ2 30 = τ 30) : cG12 Y τ2 ad = cG12 Y τ ad := by
  funext n
  unfold cG12
  simp only [h1, h30]
def cG13 (Y : Nat → ClassId) (τ : xS) (ad : xL) (n : Int) : Option va_E := if 0 ≤ n ∧ n < 2 * τ 30 0 0 then some (.inl (Y 0, 80, .inl (fun j => iI (τ 0 n (j : Int))))) else none
theorem cG13_l {Y : Nat → ClassId} {τ : xS} {ad : xL} {n : Int} (h : 0 ≤ n ∧ n < 2 * τ 30 0 0) : cG13 Y τ ad n = some (.inl (Y 0, 80, .inl (fun j => iI (τ 0 n (j : Int))))) := if_pos h
theorem cG13_c {Y : Nat → ClassId} {τ τ2 : xS} {ad : xL} (h0 : τ2 0 = τ 0) (h30 : τ2 30 = τ 30) : cG13 Y τ2 ad = cG13 Y τ ad := by
  funext n
  unfold cG13
  simp only [h0, h30]
def cG14 (Y : Nat → ClassId) (τ : xS) (ad : xL) (n : Int) : Option va_E := if 0 ≤ n ∧ n < τ 31 0 0 then some (.inr (2, [.ref (ad 11 (τ 5 n 0)), .int (iI (τ 6 n 0)), .int (iI (τ 7 n 0)), .int (iI (τ 8 n 0))])) else none
theorem cG14_l {Y : Nat → ClassId} {τ : xS} {ad : xL} {n : Int} (h : 0 ≤ n ∧ n < τ 31 0 0) : cG14 Y τ ad n = some (.inr (2, [.ref (ad 11 (τ 5 n 0)), .int (iI (τ 6 n 0)), .int (iI (τ 7 n 0)), .int (iI (τ 8 n 0))])) := if_pos h
theorem cG14_c {Y : Nat → ClassId} {τ τ2 : xS} {ad : xL} (h5 : τ2 5 = τ 5) (h6 : τ2 6 = τ 6) (h7 : τ2 7 = τ 7) (h8 : τ2 8 = τ 8) (h31 : τ2 31 = τ 31) : cG14 Y τ2 ad = cG14 Y τ ad := by
  funext n
  unfold cG14
  simp only [h5, h6, h7, h8, h31]
def cG15 (Y : Nat → ClassId) (τ : xS) (ad : xL) (n : Int) : Option va_E := if 0 ≤ n ∧ n < τ 32 0 0 then some (.inr (5, [.int (iI n), .ref (ad 11 (τ 9 n 0)), .int (iI (τ 10 n 0)), .int (iI (τ 11 n 0)), .ref (ad 16 (n)), .int (iI (τ 12 n 0)), .int (iI (τ 25 n 0)), .int (iI (τ 13 n 0))])) else none
theorem cG15_l {Y : Nat → ClassId} {τ : xS} {ad : xL} {n : Int} (h : 0 ≤ n ∧ n < τ 32 0 0) : cG15 Y τ ad n = some (.inr (5, [.int (iI n), .ref (ad 11 (τ 9 n 0)), .int (iI (τ 10 n 0)), .int (iI (τ 11 n 0)), .ref (ad 16 (n)), .int (iI (τ 12 n 0)), .int (iI (τ 25 n 0)), .int (iI (τ 13 n 0))])) := if_pos h
theorem cG15_c {Y : Nat → ClassId} {τ τ2 : xS} {ad : xL} (h9 : τ2 9 = τ 9) (h10 : τ2 10 = τ 10) (h11 : τ2 11 = τ 11) (h12 : τ2 12 = τ 12) (h13 : τ2 13 = τ 13) (h25 : τ2 25 = τ 25) (h32 : τ2 32 = τ 32) : cG15 Y τ2 ad = cG15 Y τ ad := by
  funext n
  unfold cG15
  simp only [h9, h10, h11, h12, h13, h25, h32]
def cG16 (Y : Nat → ClassId) (τ : xS) (ad : xL) (n : Int) : Option va_E := if 0 ≤ n ∧ n < τ 32 0 0 then some (.inl (Y 7, 3, .inr (.inr (.inr (.inr (fun j => if (j : Int) < 3 then some (ad 17 (3 * n + (j : Int))) else none)))))) else none
theorem cG16_l {Y : Nat → ClassId} {τ : xS} {ad : xL} {n : Int} (h : 0 ≤ n ∧ n < τ 32 0 0) : cG16 Y τ ad n = some (.inl (Y 7, 3, .inr (.inr (.inr (.inr (fun j => if (j : Int) < 3 then some (ad 17 (3 * n + (j : Int))) else none)))))) := if_pos h
theorem cG16_c {Y : Nat → ClassId} {τ τ2 : xS} {ad : xL} (h32 : τ2 32 = τ 32) : cG16 Y τ2 ad = cG16 Y τ ad := by
  funext n
  unfold cG16
  simp only [h32]
def cG17 (Y : Nat → ClassId) (τ : xS) (ad : xL) (n : Int) : Option va_E := if 0 ≤ n ∧ n < 3 * τ 32 0 0 then some (.inr (7, [.ref (ad 18 (n)), .int (iI (τ 26 n 0)), .ref (ad 19 (n)), .int (iI (τ 27 n 0)), .int (iI (τ 28 n 0))])) else none
theorem cG17_l {Y : Nat → ClassId} {τ : xS} {ad : xL} {n : Int} (h : 0 ≤ n ∧ n < 3 * τ 32 0 0) : cG17 Y τ ad n = some (.inr (7, [.ref (ad 18 (n)), .int (iI (τ 26 n 0)), .ref (ad 19 (n)), .int (iI (τ 27 n 0)), .int (iI (τ 28 n 0))])) := if_pos h
theorem cG17_c {Y : Nat → ClassId} {τ τ2 : xS} {ad : xL} (h26 : τ2 26 = τ 26) (h27 : τ2 27 = τ 27) (h28 : τ2 28 = τ 28) (h32 : τ2 32 = τ 32) : cG17 Y τ2 ad = cG17 Y τ ad := by
  funext n
  unfold cG17
  simp only [h26, h27, h28, h32]
def cG18 (Y : Nat → ClassId) (τ : xS) (ad : xL) (n : Int) : Option va_E := if 0 ≤ n ∧ n < 3 * τ 32 0 0 then some (.inl (Y 0, 32, .inl (fun j => iI (τ 16 n (j : Int))))) else none
theorem cG18_l {Y : Nat → ClassId} {τ : xS} {ad : xL} {n : Int} (h : 0 ≤ n ∧ n < 3 * τ 32 0 0) : cG18 Y τ ad n = some (.inl (Y 0, 32, .inl (fun j => iI (τ 16 n (j : Int))))) := if_pos h
theorem cG18_c {Y : Nat → ClassId} {τ τ2 : xS} {ad : xL} (h16 : τ2 16 = τ 16) (h32 : τ2 32 = τ 32) : cG18 Y τ2 ad = cG18 Y τ ad := by
  funext n
  unfold cG18
  simp only [h16, h32]
def cG19 (Y : Nat → ClassId) (τ : xS) (ad : xL) (n : Int) : Option va_E := if 0 ≤ n ∧ n < 3 * τ 32 0 0 then some (.inl (Y 0, 32, .inl (fun j => iI (τ 17 n (j : Int))))) else none
theorem cG19_l {Y : Nat → ClassId} {τ : xS} {ad : xL} {n : Int} (h : 0 ≤ n ∧ n < 3 * τ 32 0 0) : cG19 Y τ ad n = some (.inl (Y 0, 32, .inl (fun j => iI (τ 17 n (j : Int))))) := if_pos h
theorem cG19_c {Y : Nat → ClassId} {τ τ2 : xS} {ad : xL} (h17 : τ2 17 = τ 17) (h32 : τ2 32 = τ 32) : cG19 Y τ2 ad = cG19 Y τ ad := by
  funext n
  unfold cG19
  simp only [h17, h32]
def cG (Y : Nat → ClassId) (τ : xS) (ad : xL) (k : Nat) : Int → Option va_E := match k with
  | 0 => cG0 Y τ ad
  | 1 => cG1 Y τ ad
  | 2 => cG2 Y τ ad
  | 3 => cG3 Y τ ad
  | 4 => cG4 Y τ ad
  | 5 => cG5 Y τ ad
  | 6 => cG6 Y τ ad
  | 7 => cG7 Y τ ad
  | 8 => cG8 Y τ ad
  | 9 => cG9 Y τ ad
  | 10 => cG10 Y τ ad
  | 11 => cG11 Y τ ad
  | 12 => cG12 Y τ ad
  | 13 => cG13 Y τ ad
  | 14 => cG14 Y τ ad
  | 15 => cG15 Y τ ad
  | 16 => cG16 Y τ ad
  | 17 => cG17 Y τ ad
  | 18 => cG18 Y τ ad
  | 19 => cG19 Y τ ad
  | _ => fun _ => none
def kdep (k : Nat) : List Nat := match k with
  | 0 => [30, 31, 32, 33, 34, 39]
  | 1 => [30]
  | 2 => [31]
  | 3 => [32]
  | 4 => [41]
  | 5 => [20]
  | 6 => [21]
  | 7 => [22]
  | 8 => [23]
  | 9 => [35, 36, 37, 38]
  | 10 => [18]
  | 11 => [2, 3, 4, 24, 30]
  | 12 => [1, 30]
  | 13 => [0, 30]
  | 14 => [5, 6, 7, 8, 31]
  | 15 => [9, 10, 11, 12, 13, 25, 32]
  | 16 => [32]
  | 17 => [26, 27, 28, 32]
  | 18 => [16, 32]
  | 19 => [17, 32]
  | _ => []
theorem cG_c {Y : Nat → ClassId} {τ τ2 : xS} {ad : xL} {k : Nat} (h : ∀ r, r ∈ kdep k → τ2 r = τ r) : cG Y τ2 ad k = cG Y τ ad k := by
  match k, h with
  | 0, h => exact cG0_c (Y := Y) (ad := ad) (h 30 (by decide)) (h 31 (by decide)) (h 32 (by decide)) (h 33 (by decide)) (h 34 (by decide)) (h 39 (by decide))
  | 1, h => exact cG1_c (Y := Y) (ad := ad) (h 30 (by decide))
  | 2, h => exact cG2_c (Y := Y) (ad := ad) (h 31 (by decide))
  | 3, h => exact cG3_c (Y := Y) (ad := ad) (h 32 (by decide))
  | 4, h => exact cG4_c (Y := Y) (ad := ad) (h 41 (by decide))
  | 5, h => exact cG5_c (Y := Y) (ad := ad) (h 20 (by decide))
  | 6, h => exact cG6_c (Y := Y) (ad := ad) (h 21 (by decide))
  | 7, h => exact cG7_c (Y := Y) (ad := ad) (h 22 (by decide))
  | 8, h => exact cG8_c (Y := Y) (ad := ad) (h 23 (by decide))
  | 9, h => exact cG9_c (Y := Y) (ad := ad) (h 35 (by decide)) (h 36 (by decide)) (h 37 (by decide)) (h 38 (by decide))
  | 10, h => exact cG10_c (Y := Y) (ad := ad) (h 18 (by decide))
  | 11, h => exact cG11_c (Y := Y) (ad := ad) (h 2 (by decide)) (h 3 (by decide)) (h 4 (by decide)) (h 24 (by decide)) (h 30 (by decide))
  | 12, h => exact cG12_c (Y := Y) (ad := ad) (h 1 (by decide)) (h 30 (by decide))
  | 13, h => exact cG13_c (Y := Y) (ad := ad) (h 0 (by decide)) (h 30 (by decide))
  | 14, h => exact cG14_c (Y := Y) (ad := ad) (h 5 (by decide)) (h 6 (by decide)) (h 7 (by decide)) (h 8 (by decide)) (h 31 (by decide))
  | 15, h => exact cG15_c (Y := Y) (ad := ad) (h 9 (by decide)) (h 10 (by decide)) (h 11 (by decide)) (h 12 (by decide)) (h 13 (by decide)) (h 25 (by decide)) (h 32 (by decide))
  | 16, h => exact cG16_c (Y := Y) (ad := ad) (h 32 (by decide))
  | 17, h => exact cG17_c (Y := Y) (ad := ad) (h 26 (by decide)) (h 27 (by decide)) (h 28 (by decide)) (h 32 (by decide))
  | 18, h => exact cG18_c (Y := Y) (ad := ad) (h 16 (by decide)) (h 32 (by decide))
  | 19, h => exact cG19_c (Y := Y) (ad := ad) (h 17 (by decide)) (h 32 (by decide))
  | _ + 20, h => rfl
def mG20 (Y : Nat → ClassId) (τ : xS) (ad : xL) (n : Int) : Option va_E := if n = 0 then some (.inr (10, [.ref (ad 21 0), .ref (ad 22 0), .ref (ad 23 0), .ref (ad 24 0), .ref (ad 25 0), .ref (ad 26 0), .ref (ad 27 0), .int (iI (τ 30 0 0)), .ref (ad 28 0), .ref (ad 29 0), .ref (ad 30 0), .ref (ad 31 0), .int (iI (τ 31 0 0)), .ref (ad 32 0), .ref (ad 33 0), .ref (ad 34 0), .ref (ad 35 0), .ref (ad 36 0), .int (iI (τ 32 0 0)), .ref (ad 37 0), .ref (ad 38 0), .ref (ad 39 0), .ref (ad 40 0), .int (iI (τ 33 0 0)), .int (iI (τ 34 0 0)), .int (iI (τ 35 0 0)), .int (iI (τ 36 0 0)), .int (iI (τ 37 0 0)), .int (iI (τ 38 0 0)), .ref (ad 41 0), .int (iI (τ 39 0 0)), .int (iI (τ 40 0 0))])) else none
theorem mG20_l {Y : Nat → ClassId} {τ : xS} {ad : xL} : mG20 Y τ ad 0 = some (.inr (10, [.ref (ad 21 0), .ref (ad 22 0), .ref (ad 23 0), .ref (ad 24 0), .ref (ad 25 0), .ref (ad 26 0), .ref (ad 27 0), .int (iI (τ 30 0 0)), .ref (ad 28 0), .ref (ad 29 0), .ref (ad 30 0), .ref (ad 31 0), .int (iI (τ 31 0 0)), .ref (ad 32 0), .ref (ad 33 0), .ref (ad 34 0), .ref (ad 35 0), .ref (ad 36 0), .int (iI (τ 32 0 0)), .ref (ad 37 0), .ref (ad 38 0), .ref (ad 39 0), .ref (ad 40 0), .int (iI (τ 33 0 0)), .int (iI (τ 34 0 0)), .int (iI (τ 35 0 0)), .int (iI (τ 36 0 0)), .int (iI (τ 37 0 0)), .int (iI (τ 38 0 0)), .ref (ad 41 0), .int (iI (τ 39 0 0)), .int (iI (τ 40 0 0))])) := if_pos rfl
theorem mG20_c {Y : Nat → ClassId} {τ τ2 : xS} {ad : xL} (h30 : τ2 30 = τ 30) (h31 : τ2 31 = τ 31) (h32 : τ2 32 = τ 32) (h33 : τ2 33 = τ 33) (h34 : τ2 34 = τ 34) (h35 : τ2 35 = τ 35) (h36 : τ2 36 = τ 36) (h37 : τ2 37 = τ 37) (h38 : τ2 38 = τ 38) (h39 : τ2 39 = τ 39) (h40 : τ2 40 = τ 40) : mG20 Y τ2 ad = mG20 Y τ ad := by
  funext n
  unfold mG20
  simp only [h30, h31, h32, h33, h34, h35, h36, h37, h38, h39, h40]
def mG21 (Y : Nat → ClassId) (τ : xS) (ad : xL) (n : Int) : Option va_E := if n = 0 then some (.inl (Y 0, 240, .inl (fun j => iI (τ 0 (2 * ((j : Int) / 80)) ((j : Int) % 80))))) else none
theorem mG21_l {Y : Nat → ClassId} {τ : xS} {ad : xL} : mG21 Y τ ad 0 = some (.inl (Y 0, 240, .inl (fun j => iI (τ 0 (2 * ((j : Int) / 80)) ((j : Int) % 80))))) := if_pos rfl
theorem mG21_c {Y : Nat → ClassId} {τ τ2 : xS} {ad : xL} (h0 : τ2 0 = τ 0) : mG21 Y τ2 ad = mG21 Y τ ad := by
  funext n
  unfold mG21
  simp only [h0]
def mG22 (Y : Nat → ClassId) (τ : xS) (ad : xL) (n : Int) : Option va_E := if n = 0 then some (.inl (Y 0, 3, .inl (fun j => iI (τ 1 (2 * (j : Int)) (0))))) else none
theorem mG22_l {Y : Nat → ClassId} {τ : xS} {ad : xL} : mG22 Y τ ad 0 = some (.inl (Y 0, 3, .inl (fun j => iI (τ 1 (2 * (j : Int)) (0))))) := if_pos rfl
theorem mG22_c {Y : Nat → ClassId} {τ τ2 : xS} {ad : xL} (h1 : τ2 1 = τ 1) : mG22 Y τ2 ad = mG22 Y τ ad := by
  funext n
  unfold mG22
  simp only [h1]
def mG23 (Y : Nat → ClassId) (τ : xS) (ad : xL) (n : Int) : Option va_E := if n = 0 then some (.inl (Y 0, 3, .inl (fun j => iI (τ 2 ((j : Int)) (0))))) else none
theorem mG23_l {Y : Nat → ClassId} {τ : xS} {ad : xL} : mG23 Y τ ad 0 = some (.inl (Y 0, 3, .inl (fun j => iI (τ 2 ((j : Int)) (0))))) := if_pos rfl
theorem mG23_c {Y : Nat → ClassId} {τ τ2 : xS} {ad : xL} (h2 : τ2 2 = τ 2) : mG23 Y τ2 ad = mG23 Y τ ad := by
  funext n
  unfold mG23
  simp only [h2]
def mG24 (Y : Nat → ClassId) (τ : xS) (ad : xL) (n : Int) : Option va_E := if n = 0 then some (.inl (Y 0, 3, .inl (fun j => iI (τ 4 ((j : Int)) (0))))) else none
theorem mG24_l {Y : Nat → ClassId} {τ : xS} {ad : xL} : mG24 Y τ ad 0 = some (.inl (Y 0, 3, .inl (fun j => iI (τ 4 ((j : Int)) (0))))) := if_pos rfl
theorem mG24_c {Y : Nat → ClassId} {τ τ2 : xS} {ad : xL} (h4 : τ2 4 = τ 4) : mG24 Y τ2 ad = mG24 Y τ ad := by
  funext n
  unfold mG24
  simp only [h4]
def mG25 (Y : Nat → ClassId) (τ : xS) (ad : xL) (n : Int) : Option va_E := if n = 0 then some (.inl (Y 0, 240, .inl (fun j => iI (τ 0 (2 * ((j : Int) / 80) + 1) ((j : Int) % 80))))) else none
theorem mG25_l {Y : Nat → ClassId} {τ : xS} {ad : xL} : mG25 Y τ ad 0 = some (.inl (Y 0, 240, .inl (fun j => iI (τ 0 (2 * ((j : Int) / 80) + 1) ((j : Int) % 80))))) := if_pos rfl
theorem mG25_c {Y : Nat → ClassId} {τ τ2 : xS} {ad : xL} (h0 : τ2 0 = τ 0) : mG25 Y τ2 ad = mG25 Y τ ad := by
  funext n
  unfold mG25
  simp only [h0]
def mG26 (Y : Nat → ClassId) (τ : xS) (ad : xL) (n : Int) : Option va_E := if n = 0 then some (.inl (Y 0, 3, .inl (fun j => iI (τ 1 (2 * (j : Int) + 1) (0))))) else none
theorem mG26_l {Y : Nat → ClassId} {τ : xS} {ad : xL} : mG26 Y τ ad 0 = some (.inl (Y 0, 3, .inl (fun j => iI (τ 1 (2 * (j : Int) + 1) (0))))) := if_pos rfl
theorem mG26_c {Y : Nat → ClassId} {τ τ2 : xS} {ad : xL} (h1 : τ2 1 = τ 1) : mG26 Y τ2 ad = mG26 Y τ ad := by
  funext n
  unfold mG26
  simp only [h1]
def mG27 (Y : Nat → ClassId) (τ : xS) (ad : xL) (n : Int) : Option va_E := if n = 0 then some (.inl (Y 0, 3, .inl (fun j => iI (τ 3 ((j : Int)) (0))))) else none
theorem mG27_l {Y : Nat → ClassId} {τ : xS} {ad : xL} : mG27 Y τ ad 0 = some (.inl (Y 0, 3, .inl (fun j => iI (τ 3 ((j : Int)) (0))))) := if_pos rfl
theorem mG27_c {Y : Nat → ClassId} {τ τ2 : xS} {ad : xL} (h3 : τ2 3 = τ 3) : mG27 Y τ2 ad = mG27 Y τ ad := by
  funext n
  unfold mG27
  simp only [h3]
def mG28 (Y : Nat → ClassId) (τ : xS) (ad : xL) (n : Int) : Option va_E := if n = 0 then some (.inl (Y 0, 8, .inl (fun j => iI (τ 5 ((j : Int)) (0))))) else none
theorem mG28_l {Y : Nat → ClassId} {τ : xS} {ad : xL} : mG28 Y τ ad 0 = some (.inl (Y 0, 8, .inl (fun j => iI (τ 5 ((j : Int)) (0))))) := if_pos rfl
theorem mG28_c {Y : Nat → ClassId} {τ τ2 : xS} {ad : xL} (h5 : τ2 5 = τ 5) : mG28 Y τ2 ad = mG28 Y τ ad := by
  funext n
  unfold mG28
  simp only [h5]
def mG29 (Y : Nat → ClassId) (τ : xS) (ad : xL) (n : Int) : Option va_E := if n = 0 then some (.inl (Y 0, 8, .inl (fun j => iI (τ 6 ((j : Int)) (0))))) else none
theorem mG29_l {Y : Nat → ClassId} {τ : xS} {ad : xL} : mG29 Y τ ad 0 = some (.inl (Y 0, 8, .inl (fun j => iI (τ 6 ((j : Int)) (0))))) := if_pos rfl
theorem mG29_c {Y : Nat → ClassId} {τ τ2 : xS} {ad : xL} (h6 : τ2 6 = τ 6) : mG29 Y τ2 ad = mG29 Y τ ad := by
  funext n
  unfold mG29
  simp only [h6]
def mG30 (Y : Nat → ClassId) (τ : xS) (ad : xL) (n : Int) : Option va_E := if n = 0 then some (.inl (Y 0, 8, .inl (fun j => iI (τ 7 ((j : Int)) (0))))) else none
theorem mG30_l {Y : Nat → ClassId} {τ : xS} {ad : xL} : mG30 Y τ ad 0 = some (.inl (Y 0, 8, .inl (fun j => iI (τ 7 ((j : Int)) (0))))) := if_pos rfl
theorem mG30_c {Y : Nat → ClassId} {τ τ2 : xS} {ad : xL} (h7 : τ2 7 = τ 7) : mG30 Y τ2 ad = mG30 Y τ ad := by
  funext n
  unfold mG30
  simp only [h7]
def mG31 (Y : Nat → ClassId) (τ : xS) (ad : xL) (n : Int) : Option va_E := if n = 0 then some (.inl (Y 1, 8, .inl (fun j => iI (τ 8 ((j : Int)) (0))))) else none
theorem mG31_l {Y : Nat → ClassId} {τ : xS} {ad : xL} : mG31 Y τ ad 0 = some (.inl (Y 1, 8, .inl (fun j => iI (τ 8 ((j : Int)) (0))))) := if_pos rfl
theorem mG31_c {Y : Nat → ClassId} {τ τ2 : xS} {ad : xL} (h8 : τ2 8 = τ 8) : mG31 Y τ2 ad = mG31 Y τ ad := by
  funext n
  unfold mG31
  simp only [h8]
def mG32 (Y : Nat → ClassId) (τ : xS) (ad : xL) (n : Int) : Option va_E := if n = 0 then some (.inl (Y 0, 6, .inl (fun j => iI (τ 9 ((j : Int)) (0))))) else none
theorem mG32_l {Y : Nat → ClassId} {τ : xS} {ad : xL} : mG32 Y τ ad 0 = some (.inl (Y 0, 6, .inl (fun j => iI (τ 9 ((j : Int)) (0))))) := if_pos rfl
theorem mG32_c {Y : Nat → ClassId} {τ τ2 : xS} {ad : xL} (h9 : τ2 9 = τ 9) : mG32 Y τ2 ad = mG32 Y τ ad := by
  funext n
  unfold mG32
  simp only [h9]
def mG33 (Y : Nat → ClassId) (τ : xS) (ad : xL) (n : Int) : Option va_E := if n = 0 then some (.inl (Y 0, 6, .inl (fun j => iI (τ 10 ((j : Int)) (0))))) else none
theorem mG33_l {Y : Nat → ClassId} {τ : xS} {ad : xL} : mG33 Y τ ad 0 = some (.inl (Y 0, 6, .inl (fun j => iI (τ 10 ((j : Int)) (0))))) := if_pos rfl
theorem mG33_c {Y : Nat → ClassId} {τ τ2 : xS} {ad : xL} (h10 : τ2 10 = τ 10) : mG33 Y τ2 ad = mG33 Y τ ad := by
  funext n
  unfold mG33
  simp only [h10]
def mG34 (Y : Nat → ClassId) (τ : xS) (ad : xL) (n : Int) : Option va_E := if n = 0 then some (.inl (Y 0, 6, .inl (fun j => iI (τ 11 ((j : Int)) (0))))) else none
theorem mG34_l {Y : Nat → ClassId} {τ : xS} {ad : xL} : mG34 Y τ ad 0 = some (.inl (Y 0, 6, .inl (fun j => iI (τ 11 ((j : Int)) (0))))) := if_pos rfl
theorem mG34_c {Y : Nat → ClassId} {τ τ2 : xS} {ad : xL} (h11 : τ2 11 = τ 11) : mG34 Y τ2 ad = mG34 Y τ ad := by
  funext n
  unfold mG34
  simp only [h11]
def mG35 (Y : Nat → ClassId) (τ : xS) (ad : xL) (n : Int) : Option va_E := if n = 0 then some (.inl (Y 0, 6, .inl (fun j => iI (τ 12 ((j : Int)) (0))))) else none
theorem mG35_l {Y : Nat → ClassId} {τ : xS} {ad : xL} : mG35 Y τ ad 0 = some (.inl (Y 0, 6, .inl (fun j => iI (τ 12 ((j : Int)) (0))))) := if_pos rfl
theorem mG35_c {Y : Nat → ClassId} {τ τ2 : xS} {ad : xL} (h12 : τ2 12 = τ 12) : mG35 Y τ2 ad = mG35 Y τ ad := by
  funext n
  unfold mG35
  simp only [h12]
def mG36 (Y : Nat → ClassId) (τ : xS) (ad : xL) (n : Int) : Option va_E := if n = 0 then some (.inl (Y 0, 6, .inl (fun j => iI (τ 13 ((j : Int)) (0))))) else none
theorem mG36_l {Y : Nat → ClassId} {τ : xS} {ad : xL} : mG36 Y τ ad 0 = some (.inl (Y 0, 6, .inl (fun j => iI (τ 13 ((j : Int)) (0))))) := if_pos rfl
theorem mG36_c {Y : Nat → ClassId} {τ τ2 : xS} {ad : xL} (h13 : τ2 13 = τ 13) : mG36 Y τ2 ad = mG36 Y τ ad := by
  funext n
  unfold mG36
  simp only [h13]
def mG37 (Y : Nat → ClassId) (τ : xS) (ad : xL) (n : Int) : Option va_E := if n = 0 then some (.inl (Y 0, 18, .inl (fun j => iI (τ 14 ((j : Int)) (0))))) else none
theorem mG37_l {Y : Nat → ClassId} {τ : xS} {ad : xL} : mG37 Y τ ad 0 = some (.inl (Y 0, 18, .inl (fun j => iI (τ 14 ((j : Int)) (0))))) := if_pos rfl
theorem mG37_c {Y : Nat → ClassId} {τ τ2 : xS} {ad : xL} (h14 : τ2 14 = τ 14) : mG37 Y τ2 ad = mG37 Y τ ad := by
  funext n
  unfold mG37
  simp only [h14]
def mG38 (Y : Nat → ClassId) (τ : xS) (ad : xL) (n : Int) : Option va_E := if n = 0 then some (.inl (Y 0, 18, .inl (fun j => iI (τ 15 ((j : Int)) (0))))) else none
theorem mG38_l {Y : Nat → ClassId} {τ : xS} {ad : xL} : mG38 Y τ ad 0 = some (.inl (Y 0, 18, .inl (fun j => iI (τ 15 ((j : Int)) (0))))) := if_pos rfl
theorem mG38_c {Y : Nat → ClassId} {τ τ2 : xS} {ad : xL} (h15 : τ2 15 = τ 15) : mG38 Y τ2 ad = mG38 Y τ ad := by
  funext n
  unfold mG38
  simp only [h15]
def mG39 (Y : Nat → ClassId) (τ : xS) (ad : xL) (n : Int) : Option va_E := if n = 0 then some (.inl (Y 0, 576, .inl (fun j => iI (τ 16 ((j : Int) / 32) ((j : Int) % 32))))) else none
theorem mG39_l {Y : Nat → ClassId} {τ : xS} {ad : xL} : mG39 Y τ ad 0 = some (.inl (Y 0, 576, .inl (fun j => iI (τ 16 ((j : Int) / 32) ((j : Int) % 32))))) := if_pos rfl
theorem mG39_c {Y : Nat → ClassId} {τ τ2 : xS} {ad : xL} (h16 : τ2 16 = τ 16) : mG39 Y τ2 ad = mG39 Y τ ad := by
  funext n
  unfold mG39
  simp only [h16]
def mG40 (Y : Nat → ClassId) (τ : xS) (ad : xL) (n : Int) : Option va_E := if n = 0 then some (.inl (Y 0, 576, .inl (fun j => iI (τ 17 ((j : Int) / 32) ((j : Int) % 32))))) else none
theorem mG40_l {Y : Nat → ClassId} {τ : xS} {ad : xL} : mG40 Y τ ad 0 = some (.inl (Y 0, 576, .inl (fun j => iI (τ 17 ((j : Int) / 32) ((j : Int) % 32))))) := if_pos rfl
theorem mG40_c {Y : Nat → ClassId} {τ τ2 : xS} {ad : xL} (h17 : τ2 17 = τ 17) : mG40 Y τ2 ad = mG40 Y τ ad := by
  funext n
  unfold mG40
  simp only [h17]
def mG41 (Y : Nat → ClassId) (τ : xS) (ad : xL) (n : Int) : Option va_E := if n = 0 then some (.inl (Y 0, 32, .inl (fun j => iI (τ 18 (0) ((j : Int)))))) else none
theorem mG41_l {Y : Nat → ClassId} {τ : xS} {ad : xL} : mG41 Y τ ad 0 = some (.inl (Y 0, 32, .inl (fun j => iI (τ 18 (0) ((j : Int)))))) := if_pos rfl
theorem mG41_c {Y : Nat → ClassId} {τ τ2 : xS} {ad : xL} (h18 : τ2 18 = τ 18) : mG41 Y τ2 ad = mG41 Y τ ad := by
  funext n
  unfold mG41
  simp only [h18]
def mG (Y : Nat → ClassId) (τ : xS) (ad : xL) (k : Nat) : Int → Option va_E := match k with
  | 0 => mG20 Y τ ad
  | 1 => mG21 Y τ ad
  | 2 => mG22 Y τ ad
  | 3 => mG23 Y τ ad
  | 4 => mG24 Y τ ad
  | 5 => mG25 Y τ ad
  | 6 => mG26 Y τ ad
  | 7 => mG27 Y τ ad
  | 8 => mG28 Y τ ad
  | 9 => mG29 Y τ ad
  | 10 => mG30 Y τ ad
  | 11 => mG31 Y τ ad
  | 12 => mG32 Y τ ad
  | 13 => mG33 Y τ ad
  | 14 => mG34 Y τ ad
  | 15 => mG35 Y τ ad
  | 16 => mG36 Y τ ad
  | 17 => mG37 Y τ ad
  | 18 => mG38 Y τ ad
  | 19 => mG39 Y τ ad
  | 20 => mG40 Y τ ad
  | 21 => mG41 Y τ ad
  | _ => fun _ => none
def mdep (k : Nat) : List Nat := match k with
  | 0 => [30, 31, 32, 33, 34, 35, 36, 37, 38, 39, 40]
  | 1 => [0]
  | 2 => [1]
  | 3 => [2]
  | 4 => [4]
  | 5 => [0]
  | 6 => [1]
  | 7 => [3]
  | 8 => [5]
  | 9 => [6]
  | 10 => [7]
  | 11 => [8]
  | 12 => [9]
  | 13 => [10]
  | 14 => [11]
  | 15 => [12]
  | 16 => [13]
  | 17 => [14]
  | 18 => [15]
  | 19 => [16]
  | 20 => [17]
  | 21 => [18]
  | _ => []
theorem mG_c {Y : Nat → ClassId} {τ τ2 : xS} {ad : xL} {k : Nat} (h : ∀ r, r ∈ mdep k → τ2 r = τ r) : mG Y τ2 ad k = mG Y τ ad k := by
  match k, h with
  | 0, h => exact mG20_c (Y := Y) (ad := ad) (h 30 (by decide)) (h 31 (by decide)) (h 32 (by decide)) (h 33 (by decide)) (h 34 (by decide)) (h 35 (by decide)) (h 36 (by decide)) (h 37 (by decide)) (h 38 (by decide)) (h 39 (by decide)) (h 40 (by decide))
  | 1, h => exact mG21_c (Y := Y) (ad := ad) (h 0 (by decide))
  | 2, h => exact mG22_c (Y := Y) (ad := ad) (h 1 (by decide))
  | 3, h => exact mG23_c (Y := Y) (ad := ad) (h 2 (by decide))
  | 4, h => exact mG24_c (Y := Y) (ad := ad) (h 4 (by decide))
  | 5, h => exact mG25_c (Y := Y) (ad := ad) (h 0 (by decide))
  | 6, h => exact mG26_c (Y := Y) (ad := ad) (h 1 (by decide))
  | 7, h => exact mG27_c (Y := Y) (ad := ad) (h 3 (by decide))
  | 8, h => exact mG28_c (Y := Y) (ad := ad) (h 5 (by decide))
  | 9, h => exact mG29_c (Y := Y) (ad := ad) (h 6 (by decide))
  | 10, h => exact mG30_c (Y := Y) (ad := ad) (h 7 (by decide))
  | 11, h => exact mG31_c (Y := Y) (ad := ad) (h 8 (by decide))
  | 12, h => exact mG32_c (Y := Y) (ad := ad) (h 9 (by decide))
  | 13, h => exact mG33_c (Y := Y) (ad := ad) (h 10 (by decide))
  | 14, h => exact mG34_c (Y := Y) (ad := ad) (h 11 (by decide))
  | 15, h => exact mG35_c (Y := Y) (ad := ad) (h 12 (by decide))
  | 16, h => exact mG36_c (Y := Y) (ad := ad) (h 13 (by decide))
  | 17, h => exact mG37_c (Y := Y) (ad := ad) (h 14 (by decide))
  | 18, h => exact mG38_c (Y := Y) (ad := ad) (h 15 (by decide))
  | 19, h => exact mG39_c (Y := Y) (ad := ad) (h 16 (by decide))
  | 20, h => exact mG40_c (Y := Y) (ad := ad) (h 17 (by decide))
  | 21, h => exact mG41_c (Y := Y) (ad := ad) (h 18 (by decide))
  | _ + 22, h => rfl
def jG (Y : Nat → ClassId) (τ σ : xS) (ρ : xG) (ad : xL) : xG := fun k n => if k < 20 then cG Y τ ad k n else if k < 42 then mG Y σ ad (k - 20) n else ρ k n
theorem jG_put_c {Y : Nat → ClassId} {τ τ2 σ : xS} {ρ : xG} {ad : xL} {k0 : Nat} {n0 : Int} {e : va_E} (hk : k0 < 20) (h1 : ∀ k, k ≠ k0 → cG Y τ2 ad k = cG Y τ ad k) (h2 : ∀ n, n ≠ n0 → cG Y τ2 ad k0 n = cG Y τ ad k0 n) (h3 : cG Y τ2 ad k0 n0 = some e) : xup (jG Y τ σ ρ ad) k0 n0 e = jG Y τ2 σ ρ ad := by
  funext k n
  by_cases c : k = k0 ∧ n = n0
  · obtain ⟨rfl, rfl⟩ := c
    rw [xup_s]
    show some e = if k < 20 then _ else _
    rw [if_pos hk, h3]
  · rw [xup_n c]
    unfold jG
    by_cases hk2 : k < 20
    · rw [if_pos hk2, if_pos hk2]
      by_cases e1 : k = k0
      · subst e1
        exact (h2 n (fun q => c ⟨rfl, q⟩)).symm
      · rw [h1 k e1]
    · rw [if_neg hk2, if_neg hk2]
theorem jG_put_m {Y : Nat → ClassId} {τ σ σ2 : xS} {ρ : xG} {ad : xL} {k0 : Nat} {e : va_E} (hk : k0 < 22) (h1 : ∀ k, k ≠ k0 → mG Y σ2 ad k = mG Y σ ad k) (h2 : ∀ n : Int, n ≠ 0 → mG Y σ2 ad k0 n = mG Y σ ad k0 n) (h3 : mG Y σ2 ad k0 0 = some e) : xup (jG Y τ σ ρ ad) (20 + k0) 0 e = jG Y τ σ2 ρ ad := by
  funext k n
  by_cases c : k = 20 + k0 ∧ n = 0
  · obtain ⟨rfl, rfl⟩ := c
    rw [xup_s]
    unfold jG
    rw [if_neg (by omega), if_pos (by omega), Nat.add_sub_cancel_left, h3]
  · rw [xup_n c]
    unfold jG
    by_cases hk2 : k < 20
    · rw [if_pos hk2, if_pos hk2]
    · rw [if_neg hk2, if_neg hk2]
      by_cases hk3 : k < 42
      · rw [if_pos hk3, if_pos hk3]
        by_cases e1 : k - 20 = k0
        · rw [e1]
          exact (h2 n (fun q => c ⟨by omega, q⟩)).symm
        · rw [h1 _ e1]
      · rw [if_neg hk3, if_neg hk3]
theorem jG_0 {Y : Nat → ClassId} {τ σ : xS} {ρ : xG} {ad : xL} {n : Int} (h : n = 0) : jG Y τ σ ρ ad 0 n = some (.inr (9, [.ref (ad 1 (0)), .int (iI (τ 30 0 0)), .ref (ad 2 (0)), .int (iI (τ 31 0 0)), .ref (ad 3 (0)), .int (iI (τ 32 0 0)), .ref (ad 4 (0)), .ref (ad 9 (0)), .int (iI (τ 33 0 0)), .int (iI (τ 34 0 0)), .int (iI (τ 39 0 0))])) := cG0_l (Y := Y) (τ := τ) (ad := ad) h
theorem jG_1 {Y : Nat → ClassId} {τ σ : xS} {ρ : xG} {ad : xL} {n : Int} (h : n = 0) : jG Y τ σ ρ ad 1 n = some (.inl (Y 4, 3, .inr (.inr (.inr (.inr (fun j => if (j : Int) < τ 30 0 0 then some (ad 11 j) else none)))))) := cG1_l (Y := Y) (τ := τ) (ad := ad) h
theorem jG_2 {Y : Nat → ClassId} {τ σ : xS} {ρ : xG} {ad : xL} {n : Int} (h : n = 0) : jG Y τ σ ρ ad 2 n = some (.inl (Y 5, 8, .inr (.inr (.inr (.inr (fun j => if (j : Int) < τ 31 0 0 then some (ad 14 j) else none)))))) := cG2_l (Y := Y) (τ := τ) (ad := ad) h
theorem jG_3 {Y : Nat → ClassId} {τ σ : xS} {ρ : xG} {ad : xL} {n : Int} (h : n = 0) : jG Y τ σ ρ ad 3 n = some (.inl (Y 6, 6, .inr (.inr (.inr (.inr (fun j => if (j : Int) < τ 32 0 0 then some (ad 15 j) else none)))))) := cG3_l (Y := Y) (τ := τ) (ad := ad) h
theorem jG_4 {Y : Nat → ClassId} {τ σ : xS} {ρ : xG} {ad : xL} {n : Int} (h : n = 0) : jG Y τ σ ρ ad 4 n = some (.inr (4, [.ref (ad 5 (0)), .ref (ad 6 (0)), .ref (ad 7 (0)), .ref (ad 8 (0)), .int (iI (τ 41 0 0))])) := cG4_l (Y := Y) (τ := τ) (ad := ad) h
theorem jG_5 {Y : Nat → ClassId} {τ σ : xS} {ρ : xG} {ad : xL} {n : Int} (h : n = 0) : jG Y τ σ ρ ad 5 n = some (.inl (Y 0, 512, .inl (fun j => iI (τ 20 0 (j : Int))))) := cG5_l (Y := Y) (τ := τ) (ad := ad) h
theorem jG_6 {Y : Nat → ClassId} {τ σ : xS} {ρ : xG} {ad : xL} {n : Int} (h : n = 0) : jG Y τ σ ρ ad 6 n = some (.inl (Y 0, 512, .inl (fun j => iI (τ 21 0 (j : Int))))) := cG6_l (Y := Y) (τ := τ) (ad := ad) h
theorem jG_7 {Y : Nat → ClassId} {τ σ : xS} {ρ : xG} {ad : xL} {n : Int} (h : n = 0) : jG Y τ σ ρ ad 7 n = some (.inl (Y 0, 512, .inl (fun j => iI (τ 22 0 (j : Int))))) := cG7_l (Y := Y) (τ := τ) (ad := ad) h
theorem jG_8 {Y : Nat → ClassId} {τ σ : xS} {ρ : xG} {ad : xL} {n : Int} (h : n = 0) : jG Y τ σ ρ ad 8 n = some (.inl (Y 0, 512, .inl (fun j => iI (τ 23 0 (j : Int))))) := cG8_l (Y := Y) (τ := τ) (ad := ad) h
theorem jG_9 {Y : Nat → ClassId} {τ σ : xS} {ρ : xG} {ad : xL} {n : Int} (h : n = 0) : jG Y τ σ ρ ad 9 n = some (.inr (6, [va_rf (xpo τ ad), .int (iI (τ 36 0 0)), .int (iI (τ 37 0 0)), .int (iI (τ 38 0 0)), .ref (ad 10 (0))])) := cG9_l (Y := Y) (τ := τ) (ad := ad) h
theorem jG_10 {Y : Nat → ClassId} {τ σ : xS} {ρ : xG} {ad : xL} {n : Int} (h : n = 0) : jG Y τ σ ρ ad 10 n = some (.inl (Y 0, 32, .inl (fun j => iI (τ 18 0 (j : Int))))) := cG10_l (Y := Y) (τ := τ) (ad := ad) h
theorem jG_11 {Y : Nat → ClassId} {τ σ : xS} {ρ : xG} {ad : xL} {n : Int} (h : 0 ≤ n ∧ n < τ 30 0 0) : jG Y τ σ ρ ad 11 n = some (.inr (3, [.int (iI n), .ref (ad 12 (2 * n)), .ref (ad 12 (2 * n + 1)), .int (iI (τ 2 n 0)), .int (iI (τ 3 n 0)), .int (iI (τ 24 n 0)), .int (iI (τ 4 n 0))])) := cG11_l (Y := Y) (τ := τ) (ad := ad) h
theorem jG_12 {Y : Nat → ClassId} {τ σ : xS} {ρ : xG} {ad : xL} {n : Int} (h : 0 ≤ n ∧ n < 2 * τ 30 0 0) : jG Y τ σ ρ ad 12 n = some (.inr (8, [.ref (ad 13 (n)), .int (iI (τ 1 n 0))])) := cG12_l (Y := Y) (τ := τ) (ad := ad) h
theorem jG_13 {Y : Nat → ClassId} {τ σ : xS} {ρ : xG} {ad : xL} {n : Int} (h : 0 ≤ n ∧ n < 2 * τ 30 0 0) : jG Y τ σ ρ ad 13 n = some (.inl (Y 0, 80, .inl (fun j => iI (τ 0 n (j : Int))))) := cG13_l (Y := Y) (τ := τ) (ad := ad) h
theorem jG_14 {Y : Nat → ClassId} {τ σ : xS} {ρ : xG} {ad : xL} {n : Int} (h : 0 ≤ n ∧ n < τ 31 0 0) : jG Y τ σ ρ ad 14 n = some (.inr (2, [.ref (ad 11 (τ 5 n 0)), .int (iI (τ 6 n 0)), .int (iI (τ 7 n 0)), .int (iI (τ 8 n 0))])) := cG14_l (Y := Y) (τ := τ) (ad := ad) h
theorem jG_15 {Y : Nat → ClassId} {τ σ : xS} {ρ : xG} {ad : xL} {n : Int} (h : 0 ≤ n ∧ n < τ 32 0 0) : jG Y τ σ ρ ad 15 n = some (.inr (5, [.int (iI n), .ref (ad 11 (τ 9 n 0)), .int (iI (τ 10 n 0)), .int (iI (τ 11 n 0)), .ref (ad 16 (n)), .int (iI (τ 12 n 0)), .int (iI (τ 25 n 0)), .int (iI (τ 13 n 0))])) := cG15_l (Y := Y) (τ := τ) (ad := ad) h
theorem jG_16 {Y : Nat → ClassId} {τ σ : xS} {ρ : xG} {ad : xL} {n : Int} (h : 0 ≤ n ∧ n < τ 32 0 0) : jG Y τ σ ρ ad 16 n = some (.inl (Y 7, 3, .inr (.inr (.inr (.inr (fun j => if (j : Int) < 3 then some (ad 17 (3 * n + (j : Int))) else none)))))) := cG16_l (Y := Y) (τ := τ) (ad := ad) h
theorem jG_17 {Y : Nat → ClassId} {τ σ : xS} {ρ : xG} {ad : xL} {n : Int} (h : 0 ≤ n ∧ n < 3 * τ 32 0 0) : jG Y τ σ ρ ad 17 n = some (.inr (7, [.ref (ad 18 (n)), .int (iI (τ 26 n 0)), .ref (ad 19 (n)), .int (iI (τ 27 n 0)), .int (iI (τ 28 n 0))])) := cG17_l (Y := Y) (τ := τ) (ad := ad) h
theorem jG_18 {Y : Nat → ClassId} {τ σ : xS} {ρ : xG} {ad : xL} {n : Int} (h : 0 ≤ n ∧ n < 3 * τ 32 0 0) : jG Y τ σ ρ ad 18 n = some (.inl (Y 0, 32, .inl (fun j => iI (τ 16 n (j : Int))))) := cG18_l (Y := Y) (τ := τ) (ad := ad) h
theorem jG_19 {Y : Nat → ClassId} {τ σ : xS} {ρ : xG} {ad : xL} {n : Int} (h : 0 ≤ n ∧ n < 3 * τ 32 0 0) : jG Y τ σ ρ ad 19 n = some (.inl (Y 0, 32, .inl (fun j => iI (τ 17 n (j : Int))))) := cG19_l (Y := Y) (τ := τ) (ad := ad) h
theorem jG_20 {Y : Nat → ClassId} {τ σ : xS} {ρ : xG} {ad : xL} : jG Y τ σ ρ ad 20 0 = some (.inr (10, [.ref (ad 21 0), .ref (ad 22 0), .ref (ad 23 0), .ref (ad 24 0), .ref (ad 25 0), .ref (ad 26 0), .ref (ad 27 0), .int (iI (σ 30 0 0)), .ref (ad 28 0), .ref (ad 29 0), .ref (ad 30 0), .ref (ad 31 0), .int (iI (σ 31 0 0)), .ref (ad 32 0), .ref (ad 33 0), .ref (ad 34 0), .ref (ad 35 0), .ref (ad 36 0), .int (iI (σ 32 0 0)), .ref (ad 37 0), .ref (ad 38 0), .ref (ad 39 0), .ref (ad 40 0), .int (iI (σ 33 0 0)), .int (iI (σ 34 0 0)), .int (iI (σ 35 0 0)), .int (iI (σ 36 0 0)), .int (iI (σ 37 0 0)), .int (iI (σ 38 0 0)), .ref (ad 41 0), .int (iI (σ 39 0 0)), .int (iI (σ 40 0 0))])) := mG20_l (Y := Y) (τ := σ) (ad := ad)
theorem jG_21 {Y : Nat → ClassId} {τ σ : xS} {ρ : xG} {ad : xL} : jG Y τ σ ρ ad 21 0 = some (.inl (Y 0, 240, .inl (fun j => iI (σ 0 (2 * ((j : Int) / 80)) ((j : Int) % 80))))) := mG21_l (Y := Y) (τ := σ) (ad := ad)
theorem jG_22 {Y : Nat → ClassId} {τ σ : xS} {ρ : xG} {ad : xL} : jG Y τ σ ρ ad 22 0 = some (.inl (Y 0, 3, .inl (fun j => iI (σ 1 (2 * (j : Int)) (0))))) := mG22_l (Y := Y) (τ := σ) (ad := ad)
theorem jG_23 {Y : Nat → ClassId} {τ σ : xS} {ρ : xG} {ad : xL} : jG Y τ σ ρ ad 23 0 = some (.inl (Y 0, 3, .inl (fun j => iI (σ 2 ((j : Int)) (0))))) := mG23_l (Y := Y) (τ := σ) (ad := ad)
theorem jG_24 {Y : Nat → ClassId} {τ σ : xS} {ρ : xG} {ad : xL} : jG Y τ σ ρ ad 24 0 = some (.inl (Y 0, 3, .inl (fun j => iI (σ 4 ((j : Int)) (0))))) := mG24_l (Y := Y) (τ := σ) (ad := ad)
theorem jG_25 {Y : Nat → ClassId} {τ σ : xS} {ρ : xG} {ad : xL} : jG Y τ σ ρ ad 25 0 = some (.inl (Y 0, 240, .inl (fun j => iI (σ 0 (2 * ((j : Int) / 80) + 1) ((j : Int) % 80))))) := mG25_l (Y := Y) (τ := σ) (ad := ad)
theorem jG_26 {Y : Nat → ClassId} {τ σ : xS} {ρ : xG} {ad : xL} : jG Y τ σ ρ ad 26 0 = some (.inl (Y 0, 3, .inl (fun j => iI (σ 1 (2 * (j : Int) + 1) (0))))) := mG26_l (Y := Y) (τ := σ) (ad := ad)
theorem jG_27 {Y : Nat → ClassId} {τ σ : xS} {ρ : xG} {ad : xL} : jG Y τ σ ρ ad 27 0 = some (.inl (Y 0, 3, .inl (fun j => iI (σ 3 ((j : Int)) (0))))) := mG27_l (Y := Y) (τ := σ) (ad := ad)
theorem jG_28 {Y : Nat → ClassId} {τ σ : xS} {ρ : xG} {ad : xL} : jG Y τ σ ρ ad 28 0 = some (.inl (Y 0, 8, .inl (fun j => iI (σ 5 ((j : Int)) (0))))) := mG28_l (Y := Y) (τ := σ) (ad := ad)
theorem jG_29 {Y : Nat → ClassId} {τ σ : xS} {ρ : xG} {ad : xL} : jG Y τ σ ρ ad 29 0 = some (.inl (Y 0, 8, .inl (fun j => iI (σ 6 ((j : Int)) (0))))) := mG29_l (Y := Y) (τ := σ) (ad := ad)
theorem jG_30 {Y : Nat → ClassId} {τ σ : xS} {ρ : xG} {ad : xL} : jG Y τ σ ρ ad 30 0 = some (.inl (Y 0, 8, .inl (fun j => iI (σ 7 ((j : Int)) (0))))) := mG30_l (Y := Y) (τ := σ) (ad := ad)
theorem jG_31 {Y : Nat → ClassId} {τ σ : xS} {ρ : xG} {ad : xL} : jG Y τ σ ρ ad 31 0 = some (.inl (Y 1, 8, .inl (fun j => iI (σ 8 ((j : Int)) (0))))) := mG31_l (Y := Y) (τ := σ) (ad := ad)
theorem jG_32 {Y : Nat → ClassId} {τ σ : xS} {ρ : xG} {ad : xL} : jG Y τ σ ρ ad 32 0 = some (.inl (Y 0, 6, .inl (fun j => iI (σ 9 ((j : Int)) (0))))) := mG32_l (Y := Y) (τ := σ) (ad := ad)
theorem jG_33 {Y : Nat → ClassId} {τ σ : xS} {ρ : xG} {ad : xL} : jG Y τ σ ρ ad 33 0 = some (.inl (Y 0, 6, .inl (fun j => iI (σ 10 ((j : Int)) (0))))) := mG33_l (Y := Y) (τ := σ) (ad := ad)
theorem jG_34 {Y : Nat → ClassId} {τ σ : xS} {ρ : xG} {ad : xL} : jG Y τ σ ρ ad 34 0 = some (.inl (Y 0, 6, .inl (fun j => iI (σ 11 ((j : Int)) (0))))) := mG34_l (Y := Y) (τ := σ) (ad := ad)
theorem jG_35 {Y : Nat → ClassId} {τ σ : xS} {ρ : xG} {ad : xL} : jG Y τ σ ρ ad 35 0 = some (.inl (Y 0, 6, .inl (fun j => iI (σ 12 ((j : Int)) (0))))) := mG35_l (Y := Y) (τ := σ) (ad := ad)
theorem jG_36 {Y : Nat → ClassId} {τ σ : xS} {ρ : xG} {ad : xL} : jG Y τ σ ρ ad 36 0 = some (.inl (Y 0, 6, .inl (fun j => iI (σ 13 ((j : Int)) (0))))) := mG36_l (Y := Y) (τ := σ) (ad := ad)
theorem jG_37 {Y : Nat → ClassId} {τ σ : xS} {ρ : xG} {ad : xL} : jG Y τ σ ρ ad 37 0 = some (.inl (Y 0, 18, .inl (fun j => iI (σ 14 ((j : Int)) (0))))) := mG37_l (Y := Y) (τ := σ) (ad := ad)
theorem jG_38 {Y : Nat → ClassId} {τ σ : xS} {ρ : xG} {ad : xL} : jG Y τ σ ρ ad 38 0 = some (.inl (Y 0, 18, .inl (fun j => iI (σ 15 ((j : Int)) (0))))) := mG38_l (Y := Y) (τ := σ) (ad := ad)
theorem jG_39 {Y : Nat → ClassId} {τ σ : xS} {ρ : xG} {ad : xL} : jG Y τ σ ρ ad 39 0 = some (.inl (Y 0, 576, .inl (fun j => iI (σ 16 ((j : Int) / 32) ((j : Int) % 32))))) := mG39_l (Y := Y) (τ := σ) (ad := ad)
theorem jG_40 {Y : Nat → ClassId} {τ σ : xS} {ρ : xG} {ad : xL} : jG Y τ σ ρ ad 40 0 = some (.inl (Y 0, 576, .inl (fun j => iI (σ 17 ((j : Int) / 32) ((j : Int) % 32))))) := mG40_l (Y := Y) (τ := σ) (ad := ad)
theorem jG_41 {Y : Nat → ClassId} {τ σ : xS} {ρ : xG} {ad : xL} : jG Y τ σ ρ ad 41 0 = some (.inl (Y 0, 32, .inl (fun j => iI (σ 18 (0) ((j : Int)))))) := mG41_l (Y := Y) (τ := σ) (ad := ad)
theorem jP_33 {Y : Nat → ClassId} {τ σ : xS} {ρ : xG} {ad : xL} {n v : Int} (h : n = 0) : xup (jG Y τ σ ρ ad) 0 n (.inr (9, [.ref (ad 1 (0)), .int (iI (τ 30 0 0)), .ref (ad 2 (0)), .int (iI (τ 31 0 0)), .ref (ad 3 (0)), .int (iI (τ 32 0 0)), .ref (ad 4 (0)), .ref (ad 9 (0)), .int (iI v), .int (iI (τ 34 0 0)), .int (iI (τ 39 0 0))])) = jG Y (up τ 33 0 0 v) σ ρ ad := by
  refine jG_put_c (by decide) (fun k hk => cG_c (fun r hr => up_r ?_)) (fun m hm => ?_) ?_
  · rintro rfl; revert hr hk; unfold kdep; split <;> simp
  · show cG0 Y _ ad m = cG0 Y τ ad m
    unfold cG0; rw [if_neg (by rw [← h]; exact hm), if_neg (by rw [← h]; exact hm)]
  · show cG0 Y _ ad n = _
    subst h; rw [cG0_l rfl]; simp only [up_s, up_r (r := 33) (r' := 30) (by decide), up_r (r := 33) (r' := 31) (by decide), up_r (r := 33) (r' := 32) (by decide), up_r (r := 33) (r' := 34) (by decide), up_r (r := 33) (r' := 39) (by decide)]
theorem jP_34 {Y : Nat → ClassId} {τ σ : xS} {ρ : xG} {ad : xL} {n v : Int} (h : n = 0) : xup (jG Y τ σ ρ ad) 0 n (.inr (9, [.ref (ad 1 (0)), .int (iI (τ 30 0 0)), .ref (ad 2 (0)), .int (iI (τ 31 0 0)), .ref (ad 3 (0)), .int (iI (τ 32 0 0)), .ref (ad 4 (0)), .ref (ad 9 (0)), .int (iI (τ 33 0 0)), .int (iI v), .int (iI (τ 39 0 0))])) = jG Y (up τ 34 0 0 v) σ ρ ad := by
  refine jG_put_c (by decide) (fun k hk => cG_c (fun r hr => up_r ?_)) (fun m hm => ?_) ?_
  · rintro rfl; revert hr hk; unfold kdep; split <;> simp
  · show cG0 Y _ ad m = cG0 Y τ ad m
    unfold cG0; rw [if_neg (by rw [← h]; exact hm), if_neg (by rw [← h]; exact hm)]
  · show cG0 Y _ ad n = _
    subst h; rw [cG0_l rfl]; simp only [up_s, up_r (r := 34) (r' := 30) (by decide), up_r (r := 34) (r' := 31) (by decide), up_r (r := 34) (r' := 32) (by decide), up_r (r := 34) (r' := 33) (by decide), up_r (r := 34) (r' := 39) (by decide)]
theorem jP_39 {Y : Nat → ClassId} {τ σ : xS} {ρ : xG} {ad : xL} {n v : Int} (h : n = 0) : xup (jG Y τ σ ρ ad) 0 n (.inr (9, [.ref (ad 1 (0)), .int (iI (τ 30 0 0)), .ref (ad 2 (0)), .int (iI (τ 31 0 0)), .ref (ad 3 (0)), .int (iI (τ 32 0 0)), .ref (ad 4 (0)), .ref (ad 9 (0)), .int (iI (τ 33 0 0)), .int (iI (τ 34 0 0)), .int (iI v)])) = jG Y (up τ 39 0 0 v) σ ρ ad := by
  refine jG_put_c (by decide) (fun k hk => cG_c (fun r hr => up_r ?_)) (fun m hm => ?_) ?_
  · rintro rfl; revert hr hk; unfold kdep; split <;> simp
  · show cG0 Y _ ad m = cG0 Y τ ad m
    unfold cG0; rw [if_neg (by rw [← h]; exact hm), if_neg (by rw [← h]; exact hm)]
  · show cG0 Y _ ad n = _
    subst h; rw [cG0_l rfl]; simp only [up_s, up_r (r := 39) (r' := 30) (by decide), up_r (r := 39) (r' := 31) (by decide), up_r (r := 39) (r' := 32) (by decide), up_r (r := 39) (r' := 33) (by decide), up_r (r := 39) (r' := 34) (by decide)]
theorem jP_41 {Y : Nat → ClassId} {τ σ : xS} {ρ : xG} {ad : xL} {n v : Int} (h : n = 0) : xup (jG Y τ σ ρ ad) 4 n (.inr (4, [.ref (ad 5 (0)), .ref (ad 6 (0)), .ref (ad 7 (0)), .ref (ad 8 (0)), .int (iI v)])) = jG Y (up τ 41 0 0 v) σ ρ ad := by
  refine jG_put_c (by decide) (fun k hk => cG_c (fun r hr => up_r ?_)) (fun m hm => ?_) ?_
  · rintro rfl; revert hr hk; unfold kdep; split <;> simp
  · show cG4 Y _ ad m = cG4 Y τ ad m
    unfold cG4; rw [if_neg (by rw [← h]; exact hm), if_neg (by rw [← h]; exact hm)]
  · show cG4 Y _ ad n = _
    subst h; rw [cG4_l rfl]; simp only [up_s, ]
theorem jP_36 {Y : Nat → ClassId} {τ σ : xS} {ρ : xG} {ad : xL} {n v : Int} (h : n = 0) : xup (jG Y τ σ ρ ad) 9 n (.inr (6, [va_rf (xpo τ ad), .int (iI v), .int (iI (τ 37 0 0)), .int (iI (τ 38 0 0)), .ref (ad 10 (0))])) = jG Y (up τ 36 0 0 v) σ ρ ad := by
  refine jG_put_c (by decide) (fun k hk => cG_c (fun r hr => up_r ?_)) (fun m hm => ?_) ?_
  · rintro rfl; revert hr hk; unfold kdep; split <;> simp
  · show cG9 Y _ ad m = cG9 Y τ ad m
    unfold cG9; rw [if_neg (by rw [← h]; exact hm), if_neg (by rw [← h]; exact hm)]
  · show cG9 Y _ ad n = _
    subst h; rw [cG9_l rfl]; simp only [up_s, up_r (r := 36) (r' := 35) (by decide), up_r (r := 36) (r' := 37) (by decide), up_r (r := 36) (r' := 38) (by decide)]
    unfold xpo; simp only [up_r (r := 36) (r' := 35) (by decide)]
theorem jP_37 {Y : Nat → ClassId} {τ σ : xS} {ρ : xG} {ad : xL} {n v : Int} (h : n = 0) : xup (jG Y τ σ ρ ad) 9 n (.inr (6, [va_rf (xpo τ ad), .int (iI (τ 36 0 0)), .int (iI v), .int (iI (τ 38 0 0)), .ref (ad 10 (0))])) = jG Y (up τ 37 0 0 v) σ ρ ad := by
  refine jG_put_c (by decide) (fun k hk => cG_c (fun r hr => up_r ?_)) (fun m hm => ?_) ?_
  · rintro rfl; revert hr hk; unfold kdep; split <;> simp
  · show cG9 Y _ ad m = cG9 Y τ ad m
    unfold cG9; rw [if_neg (by rw [← h]; exact hm), if_neg (by rw [← h]; exact hm)]
  · show cG9 Y _ ad n = _
    subst h; rw [cG9_l rfl]; simp only [up_s, up_r (r := 37) (r' := 35) (by decide), up_r (r := 37) (r' := 36) (by decide), up_r (r := 37) (r' := 38) (by decide)]
    unfold xpo; simp only [up_r (r := 37) (r' := 35) (by decide)]
theorem jP_38 {Y : Nat → ClassId} {τ σ : xS} {ρ : xG} {ad : xL} {n v : Int} (h : n = 0) : xup (jG Y τ σ ρ ad) 9 n (.inr (6, [va_rf (xpo τ ad), .int (iI (τ 36 0 0)), .int (iI (τ 37 0 0)), .int (iI v), .ref (ad 10 (0))])) = jG Y (up τ 38 0 0 v) σ ρ ad := by
  refine jG_put_c (by decide) (fun k hk => cG_c (fun r hr => up_r ?_)) (fun m hm => ?_) ?_
  · rintro rfl; revert hr hk; unfold kdep; split <;> simp
  · show cG9 Y _ ad m = cG9 Y τ ad m
    unfold cG9; rw [if_neg (by rw [← h]; exact hm), if_neg (by rw [← h]; exact hm)]
  · show cG9 Y _ ad n = _
    subst h; rw [cG9_l rfl]; simp only [up_s, up_r (r := 38) (r' := 35) (by decide), up_r (r := 38) (r' := 36) (by decide), up_r (r := 38) (r' := 37) (by decide)]
    unfold xpo; simp only [up_r (r := 38) (r' := 35) (by decide)]
theorem jP_2 {Y : Nat → ClassId} {τ σ : xS} {ρ : xG} {ad : xL} {n v : Int} (h : 0 ≤ n ∧ n < τ 30 0 0) : xup (jG Y τ σ ρ ad) 11 n (.inr (3, [.int (iI n), .ref (ad 12 (2 * n)), .ref (ad 12 (2 * n + 1)), .int (iI v), .int (iI (τ 3 n 0)), .int (iI (τ 24 n 0)), .int (iI (τ 4 n 0))])) = jG Y (up τ 2 n 0 v) σ ρ ad := by
  refine jG_put_c (by decide) (fun k hk => cG_c (fun r hr => up_r ?_)) (fun m hm => ?_) ?_
  · rintro rfl; revert hr hk; unfold kdep; split <;> simp
  · show cG11 Y _ ad m = cG11 Y τ ad m
    unfold cG11; rw [up_r (r := 2) (r' := 3) (by decide), up_r (r := 2) (r' := 4) (by decide), up_r (r := 2) (r' := 24) (by decide), up_r (r := 2) (r' := 30) (by decide)]; simp only [up_e, hm, false_and, if_false]
  · show cG11 Y _ ad n = _
    rw [cG11_l (by rw [up_r (by decide)]; exact h)]; simp only [up_s, up_r (r := 2) (r' := 3) (by decide), up_r (r := 2) (r' := 4) (by decide), up_r (r := 2) (r' := 24) (by decide), up_r (r := 2) (r' := 30) (by decide)]
theorem jP_3 {Y : Nat → ClassId} {τ σ : xS} {ρ : xG} {ad : xL} {n v : Int} (h : 0 ≤ n ∧ n < τ 30 0 0) : xup (jG Y τ σ ρ ad) 11 n (.inr (3, [.int (iI n), .ref (ad 12 (2 * n)), .ref (ad 12 (2 * n + 1)), .int (iI (τ 2 n 0)), .int (iI v), .int (iI (τ 24 n 0)), .int (iI (τ 4 n 0))])) = jG Y (up τ 3 n 0 v) σ ρ ad := by
  refine jG_put_c (by decide) (fun k hk => cG_c (fun r hr => up_r ?_)) (fun m hm => ?_) ?_
  · rintro rfl; revert hr hk; unfold kdep; split <;> simp
  · show cG11 Y _ ad m = cG11 Y τ ad m
    unfold cG11; rw [up_r (r := 3) (r' := 2) (by decide), up_r (r := 3) (r' := 4) (by decide), up_r (r := 3) (r' := 24) (by decide), up_r (r := 3) (r' := 30) (by decide)]; simp only [up_e, hm, false_and, if_false]
  · show cG11 Y _ ad n = _
    rw [cG11_l (by rw [up_r (by decide)]; exact h)]; simp only [up_s, up_r (r := 3) (r' := 2) (by decide), up_r (r := 3) (r' := 4) (by decide), up_r (r := 3) (r' := 24) (by decide), up_r (r := 3) (r' := 30) (by decide)]
theorem jP_24 {Y : Nat → ClassId} {τ σ : xS} {ρ : xG} {ad : xL} {n v : Int} (h : 0 ≤ n ∧ n < τ 30 0 0) : xup (jG Y τ σ ρ ad) 11 n (.inr (3, [.int (iI n), .ref (ad 12 (2 * n)), .ref (ad 12 (2 * n + 1)), .int (iI (τ 2 n 0)), .int (iI (τ 3 n 0)), .int (iI v), .int (iI (τ 4 n 0))])) = jG Y (up τ 24 n 0 v) σ ρ ad := by
  refine jG_put_c (by decide) (fun k hk => cG_c (fun r hr => up_r ?_)) (fun m hm => ?_) ?_
  · rintro rfl; revert hr hk; unfold kdep; split <;> simp
  · show cG11 Y _ ad m = cG11 Y τ ad m
    unfold cG11; rw [up_r (r := 24) (r' := 2) (by decide), up_r (r := 24) (r' := 3) (by decide), up_r (r := 24) (r' := 4) (by decide), up_r (r := 24) (r' := 30) (by decide)]; simp only [up_e, hm, false_and, if_false]
  · show cG11 Y _ ad n = _
    rw [cG11_l (by rw [up_r (by decide)]; exact h)]; simp only [up_s, up_r (r := 24) (r' := 2) (by decide), up_r (r := 24) (r' := 3) (by decide), up_r (r := 24) (r' := 4) (by decide), up_r (r := 24) (r' := 30) (by decide)]
theorem jP_4 {Y : Nat → ClassId} {τ σ : xS} {ρ : xG} {ad : xL} {n v : Int} (h : 0 ≤ n ∧ n < τ 30 0 0) : xup (jG Y τ σ ρ ad) 11 n (.inr (3, [.int (iI n), .ref (ad 12 (2 * n)), .ref (ad 12 (2 * n + 1)), .int (iI (τ 2 n 0)), .int (iI (τ 3 n 0)), .int (iI (τ 24 n 0)), .int (iI v)])) = jG Y (up τ 4 n 0 v) σ ρ ad := by
  refine jG_put_c (by decide) (fun k hk => cG_c (fun r hr => up_r ?_)) (fun m hm => ?_) ?_
  · rintro rfl; revert hr hk; unfold kdep; split <;> simp
  · show cG11 Y _ ad m = cG11 Y τ ad m
    unfold cG11; rw [up_r (r := 4) (r' := 2) (by decide), up_r (r := 4) (r' := 3) (by decide), up_r (r := 4) (r' := 24) (by decide), up_r (r := 4) (r' := 30) (by decide)]; simp only [up_e, hm, false_and, if_false]
  · show cG11 Y _ ad n = _
    rw [cG11_l (by rw [up_r (by decide)]; exact h)]; simp only [up_s, up_r (r := 4) (r' := 2) (by decide), up_r (r := 4) (r' := 3) (by decide), up_r (r := 4) (r' := 24) (by decide), up_r (r := 4) (r' := 30) (by decide)]
theorem jP_1 {Y : Nat → ClassId} {τ σ : xS} {ρ : xG} {ad : xL} {n v : Int} (h : 0 ≤ n ∧ n < 2 * τ 30 0 0) : xup (jG Y τ σ ρ ad) 12 n (.inr (8, [.ref (ad 13 (n)), .int (iI v)])) = jG Y (up τ 1 n 0 v) σ ρ ad := by
  refine jG_put_c (by decide) (fun k hk => cG_c (fun r hr => up_r ?_)) (fun m hm => ?_) ?_
  · rintro rfl; revert hr hk; unfold kdep; split <;> simp
  · show cG12 Y _ ad m = cG12 Y τ ad m
    unfold cG12; rw [up_r (r := 1) (r' := 30) (by decide)]; simp only [up_e, hm, false_and, if_false]
  · show cG12 Y _ ad n = _
    rw [cG12_l (by rw [up_r (by decide)]; exact h)]; simp only [up_s, up_r (r := 1) (r' := 30) (by decide)]
theorem jP_6 {Y : Nat → ClassId} {τ σ : xS} {ρ : xG} {ad : xL} {n v : Int} (h : 0 ≤ n ∧ n < τ 31 0 0) : xup (jG Y τ σ ρ ad) 14 n (.inr (2, [.ref (ad 11 (τ 5 n 0)), .int (iI v), .int (iI (τ 7 n 0)), .int (iI (τ 8 n 0))])) = jG Y (up τ 6 n 0 v) σ ρ ad := by
  refine jG_put_c (by decide) (fun k hk => cG_c (fun r hr => up_r ?_)) (fun m hm => ?_) ?_
  · rintro rfl; revert hr hk; unfold kdep; split <;> simp
  · show cG14 Y _ ad m = cG14 Y τ ad m
    unfold cG14; rw [up_r (r := 6) (r' := 5) (by decide), up_r (r := 6) (r' := 7) (by decide), up_r (r := 6) (r' := 8) (by decide), up_r (r := 6) (r' := 31) (by decide)]; simp only [up_e, hm, false_and, if_false]
  · show cG14 Y _ ad n = _
    rw [cG14_l (by rw [up_r (by decide)]; exact h)]; simp only [up_s, up_r (r := 6) (r' := 5) (by decide), up_r (r := 6) (r' := 7) (by decide), up_r (r := 6) (r' := 8) (by decide), up_r (r := 6) (r' := 31) (by decide)]
theorem jP_7 {Y : Nat → ClassId} {τ σ : xS} {ρ : xG} {ad : xL} {n v : Int} (h : 0 ≤ n ∧ n < τ 31 0 0) : xup (jG Y τ σ ρ ad) 14 n (.inr (2, [.ref (ad 11 (τ 5 n 0)), .int (iI (τ 6 n 0)), .int (iI v), .int (iI (τ 8 n 0))])) = jG Y (up τ 7 n 0 v) σ ρ ad := by
  refine jG_put_c (by decide) (fun k hk => cG_c (fun r hr => up_r ?_)) (fun m hm => ?_) ?_
  · rintro rfl; revert hr hk; unfold kdep; split <;> simp
  · show cG14 Y _ ad m = cG14 Y τ ad m
    unfold cG14; rw [up_r (r := 7) (r' := 5) (by decide), up_r (r := 7) (r' := 6) (by decide), up_r (r := 7) (r' := 8) (by decide), up_r (r := 7) (r' := 31) (by decide)]; simp only [up_e, hm, false_and, if_false]
  · show cG14 Y _ ad n = _
    rw [cG14_l (by rw [up_r (by decide)]; exact h)]; simp only [up_s, up_r (r := 7) (r' := 5) (by decide), up_r (r := 7) (r' := 6) (by decide), up_r (r := 7) (r' := 8) (by decide), up_r (r := 7) (r' := 31) (by decide)]
theorem jP_8 {Y : Nat → ClassId} {τ σ : xS} {ρ : xG} {ad : xL} {n v : Int} (h : 0 ≤ n ∧ n < τ 31 0 0) : xup (jG Y τ σ ρ ad) 14 n (.inr (2, [.ref (ad 11 (τ 5 n 0)), .int (iI (τ 6 n 0)), .int (iI (τ 7 n 0)), .int (iI v)])) = jG Y (up τ 8 n 0 v) σ ρ ad := by
  refine jG_put_c (by decide) (fun k hk => cG_c (fun r hr => up_r ?_)) (fun m hm => ?_) ?_
  · rintro rfl; revert hr hk; unfold kdep; split <;> simp
  · show cG14 Y _ ad m = cG14 Y τ ad m
    unfold cG14; rw [up_r (r := 8) (r' := 5) (by decide), up_r (r := 8) (r' := 6) (by decide), up_r (r := 8) (r' := 7) (by decide), up_r (r := 8) (r' := 31) (by decide)]; simp only [up_e, hm, false_and, if_false]
  · show cG14 Y _ ad n = _
    rw [cG14_l (by rw [up_r (by decide)]; exact h)]; simp only [up_s, up_r (r := 8) (r' := 5) (by decide), up_r (r := 8) (r' := 6) (by decide), up_r (r := 8) (r' := 7) (by decide), up_r (r := 8) (r' := 31) (by decide)]
theorem jP_10 {Y : Nat → ClassId} {τ σ : xS} {ρ : xG} {ad : xL} {n v : Int} (h : 0 ≤ n ∧ n < τ 32 0 0) : xup (jG Y τ σ ρ ad) 15 n (.inr (5, [.int (iI n), .ref (ad 11 (τ 9 n 0)), .int (iI v), .int (iI (τ 11 n 0)), .ref (ad 16 (n)), .int (iI (τ 12 n 0)), .int (iI (τ 25 n 0)), .int (iI (τ 13 n 0))])) = jG Y (up τ 10 n 0 v) σ ρ ad := by
  refine jG_put_c (by decide) (fun k hk => cG_c (fun r hr => up_r ?_)) (fun m hm => ?_) ?_
  · rintro rfl; revert hr hk; unfold kdep; split <;> simp
  · show cG15 Y _ ad m = cG15 Y τ ad m
    unfold cG15; rw [up_r (r := 10) (r' := 9) (by decide), up_r (r := 10) (r' := 11) (by decide), up_r (r := 10) (r' := 12) (by decide), up_r (r := 10) (r' := 13) (by decide), up_r (r := 10) (r' := 25) (by decide), up_r (r := 10) (r' := 32) (by decide)]; simp only [up_e, hm, false_and, if_false]
  · show cG15 Y _ ad n = _
    rw [cG15_l (by rw [up_r (by decide)]; exact h)]; simp only [up_s, up_r (r := 10) (r' := 9) (by decide), up_r (r := 10) (r' := 11) (by decide), up_r (r := 10) (r' := 12) (by decide), up_r (r := 10) (r' := 13) (by decide), up_r (r := 10) (r' := 25) (by decide), up_r (r := 10) (r' := 32) (by decide)]
theorem jP_11 {Y : Nat → ClassId} {τ σ : xS} {ρ : xG} {ad : xL} {n v : Int} (h : 0 ≤ n ∧ n < τ 32 0 0) : xup (jG Y τ σ ρ ad) 15 n (.inr (5, [.int (iI n), .ref (ad 11 (τ 9 n 0)), .int (iI (τ 10 n 0)), .int (iI v), .ref (ad 16 (n)), .int (iI (τ 12 n 0)), .int (iI (τ 25 n 0)), .int (iI (τ 13 n 0))])) = jG Y (up τ 11 n 0 v) σ ρ ad := by
  refine jG_put_c (by decide) (fun k hk => cG_c (fun r hr => up_r ?_)) (fun m hm => ?_) ?_
  · rintro rfl; revert hr hk; unfold kdep; split <;> simp
  · show cG15 Y _ ad m = cG15 Y τ ad m
    unfold cG15; rw [up_r (r := 11) (r' := 9) (by decide), up_r (r := 11) (r' := 10) (by decide), up_r (r := 11) (r' := 12) (by decide), up_r (r := 11) (r' := 13) (by decide), up_r (r := 11) (r' := 25) (by decide), up_r (r := 11) (r' := 32) (by decide)]; simp only [up_e, hm, false_and, if_false]
  · show cG15 Y _ ad n = _
    rw [cG15_l (by rw [up_r (by decide)]; exact h)]; simp only [up_s, up_r (r := 11) (r' := 9) (by decide), up_r (r := 11) (r' := 10) (by decide), up_r (r := 11) (r' := 12) (by decide), up_r (r := 11) (r' := 13) (by decide), up_r (r := 11) (r' := 25) (by decide), up_r (r := 11) (r' := 32) (by decide)]
theorem jP_12 {Y : Nat → ClassId} {τ σ : xS} {ρ : xG} {ad : xL} {n v : Int} (h : 0 ≤ n ∧ n < τ 32 0 0) : xup (jG Y τ σ ρ ad) 15 n (.inr (5, [.int (iI n), .ref (ad 11 (τ 9 n 0)), .int (iI (τ 10 n 0)), .int (iI (τ 11 n 0)), .ref (ad 16 (n)), .int (iI v), .int (iI (τ 25 n 0)), .int (iI (τ 13 n 0))])) = jG Y (up τ 12 n 0 v) σ ρ ad := by
  refine jG_put_c (by decide) (fun k hk => cG_c (fun r hr => up_r ?_)) (fun m hm => ?_) ?_
  · rintro rfl; revert hr hk; unfold kdep; split <;> simp
  · show cG15 Y _ ad m = cG15 Y τ ad m
    unfold cG15; rw [up_r (r := 12) (r' := 9) (by decide), up_r (r := 12) (r' := 10) (by decide), up_r (r := 12) (r' := 11) (by decide), up_r (r := 12) (r' := 13) (by decide), up_r (r := 12) (r' := 25) (by decide), up_r (r := 12) (r' := 32) (by decide)]; simp only [up_e, hm, false_and, if_false]
  · show cG15 Y _ ad n = _
    rw [cG15_l (by rw [up_r (by decide)]; exact h)]; simp only [up_s, up_r (r := 12) (r' := 9) (by decide), up_r (r := 12) (r' := 10) (by decide), up_r (r := 12) (r' := 11) (by decide), up_r (r := 12) (r' := 13) (by decide), up_r (r := 12) (r' := 25) (by decide), up_r (r := 12) (r' := 32) (by decide)]
theorem jP_25 {Y : Nat → ClassId} {τ σ : xS} {ρ : xG} {ad : xL} {n v : Int} (h : 0 ≤ n ∧ n < τ 32 0 0) : xup (jG Y τ σ ρ ad) 15 n (.inr (5, [.int (iI n), .ref (ad 11 (τ 9 n 0)), .int (iI (τ 10 n 0)), .int (iI (τ 11 n 0)), .ref (ad 16 (n)), .int (iI (τ 12 n 0)), .int (iI v), .int (iI (τ 13 n 0))])) = jG Y (up τ 25 n 0 v) σ ρ ad := by
  refine jG_put_c (by decide) (fun k hk => cG_c (fun r hr => up_r ?_)) (fun m hm => ?_) ?_
  · rintro rfl; revert hr hk; unfold kdep; split <;> simp
  · show cG15 Y _ ad m = cG15 Y τ ad m
    unfold cG15; rw [up_r (r := 25) (r' := 9) (by decide), up_r (r := 25) (r' := 10) (by decide), up_r (r := 25) (r' := 11) (by decide), up_r (r := 25) (r' := 12) (by decide), up_r (r := 25) (r' := 13) (by decide), up_r (r := 25) (r' := 32) (by decide)]; simp only [up_e, hm, false_and, if_false]
  · show cG15 Y _ ad n = _
    rw [cG15_l (by rw [up_r (by decide)]; exact h)]; simp only [up_s, up_r (r := 25) (r' := 9) (by decide), up_r (r := 25) (r' := 10) (by decide), up_r (r := 25) (r' := 11) (by decide), up_r (r := 25) (r' := 12) (by decide), up_r (r := 25) (r' := 13) (by decide), up_r (r := 25) (r' := 32) (by decide)]
theorem jP_13 {Y : Nat → ClassId} {τ σ : xS} {ρ : xG} {ad : xL} {n v : Int} (h : 0 ≤ n ∧ n < τ 32 0 0) : xup (jG Y τ σ ρ ad) 15 n (.inr (5, [.int (iI n), .ref (ad 11 (τ 9 n 0)), .int (iI (τ 10 n 0)), .int (iI (τ 11 n 0)), .ref (ad 16 (n)), .int (iI (τ 12 n 0)), .int (iI (τ 25 n 0)), .int (iI v)])) = jG Y (up τ 13 n 0 v) σ ρ ad := by
  refine jG_put_c (by decide) (fun k hk => cG_c (fun r hr => up_r ?_)) (fun m hm => ?_) ?_
  · rintro rfl; revert hr hk; unfold kdep; split <;> simp
  · show cG15 Y _ ad m = cG15 Y τ ad m
    unfold cG15; rw [up_r (r := 13) (r' := 9) (by decide), up_r (r := 13) (r' := 10) (by decide), up_r (r := 13) (r' := 11) (by decide), up_r (r := 13) (r' := 12) (by decide), up_r (r := 13) (r' := 25) (by decide), up_r (r := 13) (r' := 32) (by decide)]; simp only [up_e, hm, false_and, if_false]
  · show cG15 Y _ ad n = _
    rw [cG15_l (by rw [up_r (by decide)]; exact h)]; simp only [up_s, up_r (r := 13) (r' := 9) (by decide), up_r (r := 13) (r' := 10) (by decide), up_r (r := 13) (r' := 11) (by decide), up_r (r := 13) (r' := 12) (by decide), up_r (r := 13) (r' := 25) (by decide), up_r (r := 13) (r' := 32) (by decide)]
theorem jP_26 {Y : Nat → ClassId} {τ σ : xS} {ρ : xG} {ad : xL} {n v : Int} (h : 0 ≤ n ∧ n < 3 * τ 32 0 0) : xup (jG Y τ σ ρ ad) 17 n (.inr (7, [.ref (ad 18 (n)), .int (iI v), .ref (ad 19 (n)), .int (iI (τ 27 n 0)), .int (iI (τ 28 n 0))])) = jG Y (up τ 26 n 0 v) σ ρ ad := by
  refine jG_put_c (by decide) (fun k hk => cG_c (fun r hr => up_r ?_)) (fun m hm => ?_) ?_
  · rintro rfl; revert hr hk; unfold kdep; split <;> simp
  · show cG17 Y _ ad m = cG17 Y τ ad m
    unfold cG17; rw [up_r (r := 26) (r' := 27) (by decide), up_r (r := 26) (r' := 28) (by decide), up_r (r := 26) (r' := 32) (by decide)]; simp only [up_e, hm, false_and, if_false]
  · show cG17 Y _ ad n = _
    rw [cG17_l (by rw [up_r (by decide)]; exact h)]; simp only [up_s, up_r (r := 26) (r' := 27) (by decide), up_r (r := 26) (r' := 28) (by decide), up_r (r := 26) (r' := 32) (by decide)]
theorem jP_27 {Y : Nat → ClassId} {τ σ : xS} {ρ : xG} {ad : xL} {n v : Int} (h : 0 ≤ n ∧ n < 3 * τ 32 0 0) : xup (jG Y τ σ ρ ad) 17 n (.inr (7, [.ref (ad 18 (n)), .int (iI (τ 26 n 0)), .ref (ad 19 (n)), .int (iI v), .int (iI (τ 28 n 0))])) = jG Y (up τ 27 n 0 v) σ ρ ad := by
  refine jG_put_c (by decide) (fun k hk => cG_c (fun r hr => up_r ?_)) (fun m hm => ?_) ?_
  · rintro rfl; revert hr hk; unfold kdep; split <;> simp
  · show cG17 Y _ ad m = cG17 Y τ ad m
    unfold cG17; rw [up_r (r := 27) (r' := 26) (by decide), up_r (r := 27) (r' := 28) (by decide), up_r (r := 27) (r' := 32) (by decide)]; simp only [up_e, hm, false_and, if_false]
  · show cG17 Y _ ad n = _
    rw [cG17_l (by rw [up_r (by decide)]; exact h)]; simp only [up_s, up_r (r := 27) (r' := 26) (by decide), up_r (r := 27) (r' := 28) (by decide), up_r (r := 27) (r' := 32) (by decide)]
theorem jP_28 {Y : Nat → ClassId} {τ σ : xS} {ρ : xG} {ad : xL} {n v : Int} (h : 0 ≤ n ∧ n < 3 * τ 32 0 0) : xup (jG Y τ σ ρ ad) 17 n (.inr (7, [.ref (ad 18 (n)), .int (iI (τ 26 n 0)), .ref (ad 19 (n)), .int (iI (τ 27 n 0)), .int (iI v)])) = jG Y (up τ 28 n 0 v) σ ρ ad := by
  refine jG_put_c (by decide) (fun k hk => cG_c (fun r hr => up_r ?_)) (fun m hm => ?_) ?_
  · rintro rfl; revert hr hk; unfold kdep; split <;> simp
  · show cG17 Y _ ad m = cG17 Y τ ad m
    unfold cG17; rw [up_r (r := 28) (r' := 26) (by decide), up_r (r := 28) (r' := 27) (by decide), up_r (r := 28) (r' := 32) (by decide)]; simp only [up_e, hm, false_and, if_false]
  · show cG17 Y _ ad n = _
    rw [cG17_l (by rw [up_r (by decide)]; exact h)]; simp only [up_s, up_r (r := 28) (r' := 26) (by decide), up_r (r := 28) (r' := 27) (by decide), up_r (r := 28) (r' := 32) (by decide)]
theorem jP_35 {Y : Nat → ClassId} {τ σ : xS} {ρ : xG} {ad : xL} {v : Int} {w : Value} (hw : w = va_rf (if v = -1 then none else some (ad 15 v))) : xup (jG Y τ σ ρ ad) 9 0 (.inr (6, [w, .int (iI (τ 36 0 0)), .int (iI (τ 37 0 0)), .int (iI (τ 38 0 0)), .ref (ad 10 (0))])) = jG Y (up τ 35 0 0 v) σ ρ ad := by
  refine jG_put_c (by decide) (fun k hk => cG_c (fun r hr => up_r ?_)) (fun m hm => ?_) ?_
  · rintro rfl; revert hr hk; unfold kdep; split <;> simp
  · show cG9 Y _ ad m = cG9 Y τ ad m
    unfold cG9; rw [if_neg hm, if_neg hm]
  · show cG9 Y _ ad 0 = _
    rw [cG9_l rfl]; subst hw; unfold xpo; simp only [up_s, up_r (r := 35) (r' := 36) (by decide), up_r (r := 35) (r' := 37) (by decide), up_r (r := 35) (r' := 38) (by decide)]
theorem jA_20 {Y : Nat → ClassId} {τ σ : xS} {ρ : xG} {ad : xL} {n z v : Int} (h : n = 0) (hz : 0 ≤ z) : xup (jG Y τ σ ρ ad) 5 n (.inl (Y 0, 512, .inl (upd (fun j => iI (τ 20 0 (j : Int))) z.toNat (iI v)))) = jG Y (up τ 20 0 z v) σ ρ ad := by
  refine jG_put_c (by decide) (fun k hk => cG_c (fun r hr => up_r ?_)) (fun m hm => ?_) ?_
  · rintro rfl; revert hr hk; unfold kdep; split <;> simp
  · show cG5 Y _ ad m = cG5 Y τ ad m
    unfold cG5; rw [if_neg (by rw [← h]; exact hm), if_neg (by rw [← h]; exact hm)]
  · show cG5 Y _ ad n = _
    subst h; rw [cG5_l rfl]
    congr 5; funext j; unfold upd; rw [up_e]; by_cases hj : j = z.toNat
    · rw [if_pos ⟨rfl, by omega⟩, if_pos hj]
    · rw [if_neg (fun q => hj (by omega)), if_neg hj]
theorem jA_21 {Y : Nat → ClassId} {τ σ : xS} {ρ : xG} {ad : xL} {n z v : Int} (h : n = 0) (hz : 0 ≤ z) : xup (jG Y τ σ ρ ad) 6 n (.inl (Y 0, 512, .inl (upd (fun j => iI (τ 21 0 (j : Int))) z.toNat (iI v)))) = jG Y (up τ 21 0 z v) σ ρ ad := by
  refine jG_put_c (by decide) (fun k hk => cG_c (fun r hr => up_r ?_)) (fun m hm => ?_) ?_
  · rintro rfl; revert hr hk; unfold kdep; split <;> simp
  · show cG6 Y _ ad m = cG6 Y τ ad m
    unfold cG6; rw [if_neg (by rw [← h]; exact hm), if_neg (by rw [← h]; exact hm)]
  · show cG6 Y _ ad n = _
    subst h; rw [cG6_l rfl]
    congr 5; funext j; unfold upd; rw [up_e]; by_cases hj : j = z.toNat
    · rw [if_pos ⟨rfl, by omega⟩, if_pos hj]
    · rw [if_neg (fun q => hj (by omega)), if_neg hj]
theorem jA_22 {Y : Nat → ClassId} {τ σ : xS} {ρ : xG} {ad : xL} {n z v : Int} (h : n = 0) (hz : 0 ≤ z) : xup (jG Y τ σ ρ ad) 7 n (.inl (Y 0, 512, .inl (upd (fun j => iI (τ 22 0 (j : Int))) z.toNat (iI v)))) = jG Y (up τ 22 0 z v) σ ρ ad := by
  refine jG_put_c (by decide) (fun k hk => cG_c (fun r hr => up_r ?_)) (fun m hm => ?_) ?_
  · rintro rfl; revert hr hk; unfold kdep; split <;> simp
  · show cG7 Y _ ad m = cG7 Y τ ad m
    unfold cG7; rw [if_neg (by rw [← h]; exact hm), if_neg (by rw [← h]; exact hm)]
  · show cG7 Y _ ad n = _
    subst h; rw [cG7_l rfl]
    congr 5; funext j; unfold upd; rw [up_e]; by_cases hj : j = z.toNat
    · rw [if_pos ⟨rfl, by omega⟩, if_pos hj]
    · rw [if_neg (fun q => hj (by omega)), if_neg hj]
theorem jA_23 {Y : Nat → ClassId} {τ σ : xS} {ρ : xG} {ad : xL} {n z v : Int} (h : n = 0) (hz : 0 ≤ z) : xup (jG Y τ σ ρ ad) 8 n (.inl (Y 0, 512, .inl (upd (fun j => iI (τ 23 0 (j : Int))) z.toNat (iI v)))) = jG Y (up τ 23 0 z v) σ ρ ad := by
  refine jG_put_c (by decide) (fun k hk => cG_c (fun r hr => up_r ?_)) (fun m hm => ?_) ?_
  · rintro rfl; revert hr hk; unfold kdep; split <;> simp
  · show cG8 Y _ ad m = cG8 Y τ ad m
    unfold cG8; rw [if_neg (by rw [← h]; exact hm), if_neg (by rw [← h]; exact hm)]
  · show cG8 Y _ ad n = _
    subst h; rw [cG8_l rfl]
    congr 5; funext j; unfold upd; rw [up_e]; by_cases hj : j = z.toNat
    · rw [if_pos ⟨rfl, by omega⟩, if_pos hj]
    · rw [if_neg (fun q => hj (by omega)), if_neg hj]
theorem jA_18 {Y : Nat → ClassId} {τ σ : xS} {ρ : xG} {ad : xL} {n z v : Int} (h : n = 0) (hz : 0 ≤ z) : xup (jG Y τ σ ρ ad) 10 n (.inl (Y 0, 32, .inl (upd (fun j => iI (τ 18 0 (j : Int))) z.toNat (iI v)))) = jG Y (up τ 18 0 z v) σ ρ ad := by
  refine jG_put_c (by decide) (fun k hk => cG_c (fun r hr => up_r ?_)) (fun m hm => ?_) ?_
  · rintro rfl; revert hr hk; unfold kdep; split <;> simp
  · show cG10 Y _ ad m = cG10 Y τ ad m
    unfold cG10; rw [if_neg (by rw [← h]; exact hm), if_neg (by rw [← h]; exact hm)]
  · show cG10 Y _ ad n = _
    subst h; rw [cG10_l rfl]
    congr 5; funext j; unfold upd; rw [up_e]; by_cases hj : j = z.toNat
    · rw [if_pos ⟨rfl, by omega⟩, if_pos hj]
    · rw [if_neg (fun q => hj (by omega)), if_neg hj]
theorem jA_0 {Y : Nat → ClassId} {τ σ : xS} {ρ : xG} {ad : xL} {n z v : Int} (h : 0 ≤ n ∧ n < 2 * τ 30 0 0) (hz : 0 ≤ z) : xup (jG Y τ σ ρ ad) 13 n (.inl (Y 0, 80, .inl (upd (fun j => iI (τ 0 n (j : Int))) z.toNat (iI v)))) = jG Y (up τ 0 n z v) σ ρ ad := by
  refine jG_put_c (by decide) (fun k hk => cG_c (fun r hr => up_r ?_)) (fun m hm => ?_) ?_
  · rintro rfl; revert hr hk; unfold kdep; split <;> simp
  · show cG13 Y _ ad m = cG13 Y τ ad m
    unfold cG13; rw [up_r (r := 0) (r' := 30) (by decide)]; simp only [up_e, hm, false_and, if_false]
  · show cG13 Y _ ad n = _
    rw [cG13_l (by rw [up_r (by decide)]; exact h)]
    congr 5; funext j; unfold upd; rw [up_e]; by_cases hj : j = z.toNat
    · rw [if_pos ⟨rfl, by omega⟩, if_pos hj]
    · rw [if_neg (fun q => hj (by omega)), if_neg hj]
theorem jA_16 {Y : Nat → ClassId} {τ σ : xS} {ρ : xG} {ad : xL} {n z v : Int} (h : 0 ≤ n ∧ n < 3 * τ 32 0 0) (hz : 0 ≤ z) : xup (jG Y τ σ ρ ad) 18 n (.inl (Y 0, 32, .inl (upd (fun j => iI (τ 16 n (j : Int))) z.toNat (iI v)))) = jG Y (up τ 16 n z v) σ ρ ad := by
  refine jG_put_c (by decide) (fun k hk => cG_c (fun r hr => up_r ?_)) (fun m hm => ?_) ?_
  · rintro rfl; revert hr hk; unfold kdep; split <;> simp
  · show cG18 Y _ ad m = cG18 Y τ ad m
    unfold cG18; rw [up_r (r := 16) (r' := 32) (by decide)]; simp only [up_e, hm, false_and, if_false]
  · show cG18 Y _ ad n = _
    rw [cG18_l (by rw [up_r (by decide)]; exact h)]
    congr 5; funext j; unfold upd; rw [up_e]; by_cases hj : j = z.toNat
    · rw [if_pos ⟨rfl, by omega⟩, if_pos hj]
    · rw [if_neg (fun q => hj (by omega)), if_neg hj]
theorem jA_17 {Y : Nat → ClassId} {τ σ : xS} {ρ : xG} {ad : xL} {n z v : Int} (h : 0 ≤ n ∧ n < 3 * τ 32 0 0) (hz : 0 ≤ z) : xup (jG Y τ σ ρ ad) 19 n (.inl (Y 0, 32, .inl (upd (fun j => iI (τ 17 n (j : Int))) z.toNat (iI v)))) = jG Y (up τ 17 n z v) σ ρ ad := by
  refine jG_put_c (by decide) (fun k hk => cG_c (fun r hr => up_r ?_)) (fun m hm => ?_) ?_
  · rintro rfl; revert hr hk; unfold kdep; split <;> simp
  · show cG19 Y _ ad m = cG19 Y τ ad m
    unfold cG19; rw [up_r (r := 17) (r' := 32) (by decide)]; simp only [up_e, hm, false_and, if_false]
  · show cG19 Y _ ad n = _
    rw [cG19_l (by rw [up_r (by decide)]; exact h)]
    congr 5; funext j; unfold upd; rw [up_e]; by_cases hj : j = z.toNat
    · rw [if_pos ⟨rfl, by omega⟩, if_pos hj]
    · rw [if_neg (fun q => hj (by omega)), if_neg hj]
theorem mP_30 {Y : Nat → ClassId} {τ σ : xS} {ρ : xG} {ad : xL} {v : Int} : xup (jG Y τ σ ρ ad) 20 0 (.inr (10, [.ref (ad 21 0), .ref (ad 22 0), .ref (ad 23 0), .ref (ad 24 0), .ref (ad 25 0), .ref (ad 26 0), .ref (ad 27 0), .int (iI v), .ref (ad 28 0), .ref (ad 29 0), .ref (ad 30 0), .ref (ad 31 0), .int (iI (σ 31 0 0)), .ref (ad 32 0), .ref (ad 33 0), .ref (ad 34 0), .ref (ad 35 0), .ref (ad 36 0), .int (iI (σ 32 0 0)), .ref (ad 37 0), .ref (ad 38 0), .ref (ad 39 0), .ref (ad 40 0), .int (iI (σ 33 0 0)), .int (iI (σ 34 0 0)), .int (iI (σ 35 0 0)), .int (iI (σ 36 0 0)), .int (iI (σ 37 0 0)), .int (iI (σ 38 0 0)), .ref (ad 41 0), .int (iI (σ 39 0 0)), .int (iI (σ 40 0 0))])) = jG Y τ (up σ 30 0 0 v) ρ ad := by
  refine jG_put_m (k0 := 0) (by decide) (fun k hk => mG_c (fun r hr => up_r ?_)) (fun m hm => ?_) ?_
  · rintro rfl; revert hr hk; unfold mdep; split <;> simp
  · show mG20 Y _ ad m = mG20 Y σ ad m
    unfold mG20; rw [if_neg hm, if_neg hm]
  · show mG20 Y _ ad 0 = _
    rw [mG20_l]; simp only [up_s, up_r (r := 30) (r' := 31) (by decide), up_r (r := 30) (r' := 32) (by decide), up_r (r := 30) (r' := 33) (by decide), up_r (r := 30) (r' := 34) (by decide), up_r (r := 30) (r' := 35) (by decide), up_r (r := 30) (r' := 36) (by decide), up_r (r := 30) (r' := 37) (by decide), up_r (r := 30) (r' := 38) (by decide), up_r (r := 30) (r' := 39) (by decide), up_r (r := 30) (r' := 40) (by decide)]
theorem mP_31 {Y : Nat → ClassId} {τ σ : xS} {ρ : xG} {ad : xL} {v : Int} : xup (jG Y τ σ ρ ad) 20 0 (.inr (10, [.ref (ad 21 0), .ref (ad 22 0), .ref (ad 23 0), .ref (ad 24 0), .ref (ad 25 0), .ref (ad 26 0), .ref (ad 27 0), .int (iI (σ 30 0 0)), .ref (ad 28 0), .ref (ad 29 0), .ref (ad 30 0), .ref (ad 31 0), .int (iI v), .ref (ad 32 0), .ref (ad 33 0), .ref (ad 34 0), .ref (ad 35 0), .ref (ad 36 0), .int (iI (σ 32 0 0)), .ref (ad 37 0), .ref (ad 38 0), .ref (ad 39 0), .ref (ad 40 0), .int (iI (σ 33 0 0)), .int (iI (σ 34 0 0)), .int (iI (σ 35 0 0)), .int (iI (σ 36 0 0)), .int (iI (σ 37 0 0)), .int (iI (σ 38 0 0)), .ref (ad 41 0), .int (iI (σ 39 0 0)), .int (iI (σ 40 0 0))])) = jG Y τ (up σ 31 0 0 v) ρ ad := by
  refine jG_put_m (k0 := 0) (by decide) (fun k hk => mG_c (fun r hr => up_r ?_)) (fun m hm => ?_) ?_
  · rintro rfl; revert hr hk; unfold mdep; split <;> simp
  · show mG20 Y _ ad m = mG20 Y σ ad m
    unfold mG20; rw [if_neg hm, if_neg hm]
  · show mG20 Y _ ad 0 = _
    rw [mG20_l]; simp only [up_s, up_r (r := 31) (r' := 30) (by decide), up_r (r := 31) (r' := 32) (by decide), up_r (r := 31) (r' := 33) (by decide), up_r (r := 31) (r' := 34) (by decide), up_r (r := 31) (r' := 35) (by decide), up_r (r := 31) (r' := 36) (by decide), up_r (r := 31) (r' := 37) (by decide), up_r (r := 31) (r' := 38) (by decide), up_r (r := 31) (r' := 39) (by decide), up_r (r := 31) (r' := 40) (by decide)]
theorem mP_32 {Y : Nat → ClassId} {τ σ : xS} {ρ : xG} {ad : xL} {v : Int} : xup (jG Y τ σ ρ ad) 20 0 (.inr (10, [.ref (ad 21 0), .ref (ad 22 0), .ref (ad 23 0), .ref (ad 24 0), .ref (ad 25 0), .ref (ad 26 0), .ref (ad 27 0), .int (iI (σ 30 0 0)), .ref (ad 28 0), .ref (ad 29 0), .ref (ad 30 0), .ref (ad 31 0), .int (iI (σ 31 0 0)), .ref (ad 32 0), .ref (ad 33 0), .ref (ad 34 0), .ref (ad 35 0), .ref (ad 36 0), .int (iI v), .ref (ad 37 0), .ref (ad 38 0), .ref (ad 39 0), .ref (ad 40 0), .int (iI (σ 33 0 0)), .int (iI (σ 34 0 0)), .int (iI (σ 35 0 0)), .int (iI (σ 36 0 0)), .int (iI (σ 37 0 0)), .int (iI (σ 38 0 0)), .ref (ad 41 0), .int (iI (σ 39 0 0)), .int (iI (σ 40 0 0))])) = jG Y τ (up σ 32 0 0 v) ρ ad := by
  refine jG_put_m (k0 := 0) (by decide) (fun k hk => mG_c (fun r hr => up_r ?_)) (fun m hm => ?_) ?_
  · rintro rfl; revert hr hk; unfold mdep; split <;> simp
  · show mG20 Y _ ad m = mG20 Y σ ad m
    unfold mG20; rw [if_neg hm, if_neg hm]
  · show mG20 Y _ ad 0 = _
    rw [mG20_l]; simp only [up_s, up_r (r := 32) (r' := 30) (by decide), up_r (r := 32) (r' := 31) (by decide), up_r (r := 32) (r' := 33) (by decide), up_r (r := 32) (r' := 34) (by decide), up_r (r := 32) (r' := 35) (by decide), up_r (r := 32) (r' := 36) (by decide), up_r (r := 32) (r' := 37) (by decide), up_r (r := 32) (r' := 38) (by decide), up_r (r := 32) (r' := 39) (by decide), up_r (r := 32) (r' := 40) (by decide)]
theorem mP_33 {Y : Nat → ClassId} {τ σ : xS} {ρ : xG} {ad : xL} {v : Int} : xup (jG Y τ σ ρ ad) 20 0 (.inr (10, [.ref (ad 21 0), .ref (ad 22 0), .ref (ad 23 0), .ref (ad 24 0), .ref (ad 25 0), .ref (ad 26 0), .ref (ad 27 0), .int (iI (σ 30 0 0)), .ref (ad 28 0), .ref (ad 29 0), .ref (ad 30 0), .ref (ad 31 0), .int (iI (σ 31 0 0)), .ref (ad 32 0), .ref (ad 33 0), .ref (ad 34 0), .ref (ad 35 0), .ref (ad 36 0), .int (iI (σ 32 0 0)), .ref (ad 37 0), .ref (ad 38 0), .ref (ad 39 0), .ref (ad 40 0), .int (iI v), .int (iI (σ 34 0 0)), .int (iI (σ 35 0 0)), .int (iI (σ 36 0 0)), .int (iI (σ 37 0 0)), .int (iI (σ 38 0 0)), .ref (ad 41 0), .int (iI (σ 39 0 0)), .int (iI (σ 40 0 0))])) = jG Y τ (up σ 33 0 0 v) ρ ad := by
  refine jG_put_m (k0 := 0) (by decide) (fun k hk => mG_c (fun r hr => up_r ?_)) (fun m hm => ?_) ?_
  · rintro rfl; revert hr hk; unfold mdep; split <;> simp
  · show mG20 Y _ ad m = mG20 Y σ ad m
    unfold mG20; rw [if_neg hm, if_neg hm]
  · show mG20 Y _ ad 0 = _
    rw [mG20_l]; simp only [up_s, up_r (r := 33) (r' := 30) (by decide), up_r (r := 33) (r' := 31) (by decide), up_r (r := 33) (r' := 32) (by decide), up_r (r := 33) (r' := 34) (by decide), up_r (r := 33) (r' := 35) (by decide), up_r (r := 33) (r' := 36) (by decide), up_r (r := 33) (r' := 37) (by decide), up_r (r := 33) (r' := 38) (by decide), up_r (r := 33) (r' := 39) (by decide), up_r (r := 33) (r' := 40) (by decide)]
theorem mP_34 {Y : Nat → ClassId} {τ σ : xS} {ρ : xG} {ad : xL} {v : Int} : xup (jG Y τ σ ρ ad) 20 0 (.inr (10, [.ref (ad 21 0), .ref (ad 22 0), .ref (ad 23 0), .ref (ad 24 0), .ref (ad 25 0), .ref (ad 26 0), .ref (ad 27 0), .int (iI (σ 30 0 0)), .ref (ad 28 0), .ref (ad 29 0), .ref (ad 30 0), .ref (ad 31 0), .int (iI (σ 31 0 0)), .ref (ad 32 0), .ref (ad 33 0), .ref (ad 34 0), .ref (ad 35 0), .ref (ad 36 0), .int (iI (σ 32 0 0)), .ref (ad 37 0), .ref (ad 38 0), .ref (ad 39 0), .ref (ad 40 0), .int (iI (σ 33 0 0)), .int (iI v), .int (iI (σ 35 0 0)), .int (iI (σ 36 0 0)), .int (iI (σ 37 0 0)), .int (iI (σ 38 0 0)), .ref (ad 41 0), .int (iI (σ 39 0 0)), .int (iI (σ 40 0 0))])) = jG Y τ (up σ 34 0 0 v) ρ ad := by
  refine jG_put_m (k0 := 0) (by decide) (fun k hk => mG_c (fun r hr => up_r ?_)) (fun m hm => ?_) ?_
  · rintro rfl; revert hr hk; unfold mdep; split <;> simp
  · show mG20 Y _ ad m = mG20 Y σ ad m
    unfold mG20; rw [if_neg hm, if_neg hm]
  · show mG20 Y _ ad 0 = _
    rw [mG20_l]; simp only [up_s, up_r (r := 34) (r' := 30) (by decide), up_r (r := 34) (r' := 31) (by decide), up_r (r := 34) (r' := 32) (by decide), up_r (r := 34) (r' := 33) (by decide), up_r (r := 34) (r' := 35) (by decide), up_r (r := 34) (r' := 36) (by decide), up_r (r := 34) (r' := 37) (by decide), up_r (r := 34) (r' := 38) (by decide), up_r (r := 34) (r' := 39) (by decide), up_r (r := 34) (r' := 40) (by decide)]
theorem mP_35 {Y : Nat → ClassId} {τ σ : xS} {ρ : xG} {ad : xL} {v : Int} : xup (jG Y τ σ ρ ad) 20 0 (.inr (10, [.ref (ad 21 0), .ref (ad 22 0), .ref (ad 23 0), .ref (ad 24 0), .ref (ad 25 0), .ref (ad 26 0), .ref (ad 27 0), .int (iI (σ 30 0 0)), .ref (ad 28 0), .ref (ad 29 0), .ref (ad 30 0), .ref (ad 31 0), .int (iI (σ 31 0 0)), .ref (ad 32 0), .ref (ad 33 0), .ref (ad 34 0), .ref (ad 35 0), .ref (ad 36 0), .int (iI (σ 32 0 0)), .ref (ad 37 0), .ref (ad 38 0), .ref (ad 39 0), .ref (ad 40 0), .int (iI (σ 33 0 0)), .int (iI (σ 34 0 0)), .int (iI v), .int (iI (σ 36 0 0)), .int (iI (σ 37 0 0)), .int (iI (σ 38 0 0)), .ref (ad 41 0), .int (iI (σ 39 0 0)), .int (iI (σ 40 0 0))])) = jG Y τ (up σ 35 0 0 v) ρ ad := by
  refine jG_put_m (k0 := 0) (by decide) (fun k hk => mG_c (fun r hr => up_r ?_)) (fun m hm => ?_) ?_
  · rintro rfl; revert hr hk; unfold mdep; split <;> simp
  · show mG20 Y _ ad m = mG20 Y σ ad m
    unfold mG20; rw [if_neg hm, if_neg hm]
  · show mG20 Y _ ad 0 = _
    rw [mG20_l]; simp only [up_s, up_r (r := 35) (r' := 30) (by decide), up_r (r := 35) (r' := 31) (by decide), up_r (r := 35) (r' := 32) (by decide), up_r (r := 35) (r' := 33) (by decide), up_r (r := 35) (r' := 34) (by decide), up_r (r := 35) (r' := 36) (by decide), up_r (r := 35) (r' := 37) (by decide), up_r (r := 35) (r' := 38) (by decide), up_r (r := 35) (r' := 39) (by decide), up_r (r := 35) (r' := 40) (by decide)]
theorem mP_36 {Y : Nat → ClassId} {τ σ : xS} {ρ : xG} {ad : xL} {v : Int} : xup (jG Y τ σ ρ ad) 20 0 (.inr (10, [.ref (ad 21 0), .ref (ad 22 0), .ref (ad 23 0), .ref (ad 24 0), .ref (ad 25 0), .ref (ad 26 0), .ref (ad 27 0), .int (iI (σ 30 0 0)), .ref (ad 28 0), .ref (ad 29 0), .ref (ad 30 0), .ref (ad 31 0), .int (iI (σ 31 0 0)), .ref (ad 32 0), .ref (ad 33 0), .ref (ad 34 0), .ref (ad 35 0), .ref (ad 36 0), .int (iI (σ 32 0 0)), .ref (ad 37 0), .ref (ad 38 0), .ref (ad 39 0), .ref (ad 40 0), .int (iI (σ 33 0 0)), .int (iI (σ 34 0 0)), .int (iI (σ 35 0 0)), .int (iI v), .int (iI (σ 37 0 0)), .int (iI (σ 38 0 0)), .ref (ad 41 0), .int (iI (σ 39 0 0)), .int (iI (σ 40 0 0))])) = jG Y τ (up σ 36 0 0 v) ρ ad := by
  refine jG_put_m (k0 := 0) (by decide) (fun k hk => mG_c (fun r hr => up_r ?_)) (fun m hm => ?_) ?_
  · rintro rfl; revert hr hk; unfold mdep; split <;> simp
  · show mG20 Y _ ad m = mG20 Y σ ad m
    unfold mG20; rw [if_neg hm, if_neg hm]
  · show mG20 Y _ ad 0 = _
    rw [mG20_l]; simp only [up_s, up_r (r := 36) (r' := 30) (by decide), up_r (r := 36) (r' := 31) (by decide), up_r (r := 36) (r' := 32) (by decide), up_r (r := 36) (r' := 33) (by decide), up_r (r := 36) (r' := 34) (by decide), up_r (r := 36) (r' := 35) (by decide), up_r (r := 36) (r' := 37) (by decide), up_r (r := 36) (r' := 38) (by decide), up_r (r := 36) (r' := 39) (by decide), up_r (r := 36) (r' := 40) (by decide)]
theorem mP_37 {Y : Nat → ClassId} {τ σ : xS} {ρ : xG} {ad : xL} {v : Int} : xup (jG Y τ σ ρ ad) 20 0 (.inr (10, [.ref (ad 21 0), .ref (ad 22 0), .ref (ad 23 0), .ref (ad 24 0), .ref (ad 25 0), .ref (ad 26 0), .ref (ad 27 0), .int (iI (σ 30 0 0)), .ref (ad 28 0), .ref (ad 29 0), .ref (ad 30 0), .ref (ad 31 0), .int (iI (σ 31 0 0)), .ref (ad 32 0), .ref (ad 33 0), .ref (ad 34 0), .ref (ad 35 0), .ref (ad 36 0), .int (iI (σ 32 0 0)), .ref (ad 37 0), .ref (ad 38 0), .ref (ad 39 0), .ref (ad 40 0), .int (iI (σ 33 0 0)), .int (iI (σ 34 0 0)), .int (iI (σ 35 0 0)), .int (iI (σ 36 0 0)), .int (iI v), .int (iI (σ 38 0 0)), .ref (ad 41 0), .int (iI (σ 39 0 0)), .int (iI (σ 40 0 0))])) = jG Y τ (up σ 37 0 0 v) ρ ad := by
  refine jG_put_m (k0 := 0) (by decide) (fun k hk => mG_c (fun r hr => up_r ?_)) (fun m hm => ?_) ?_
  · rintro rfl; revert hr hk; unfold mdep; split <;> simp
  · show mG20 Y _ ad m = mG20 Y σ ad m
    unfold mG20; rw [if_neg hm, if_neg hm]
  · show mG20 Y _ ad 0 = _
    rw [mG20_l]; simp only [up_s, up_r (r := 37) (r' := 30) (by decide), up_r (r := 37) (r' := 31) (by decide), up_r (r := 37) (r' := 32) (by decide), up_r (r := 37) (r' := 33) (by decide), up_r (r := 37) (r' := 34) (by decide), up_r (r := 37) (r' := 35) (by decide), up_r (r := 37) (r' := 36) (by decide), up_r (r := 37) (r' := 38) (by decide), up_r (r := 37) (r' := 39) (by decide), up_r (r := 37) (r' := 40) (by decide)]
theorem mP_38 {Y : Nat → ClassId} {τ σ : xS} {ρ : xG} {ad : xL} {v : Int} : xup (jG Y τ σ ρ ad) 20 0 (.inr (10, [.ref (ad 21 0), .ref (ad 22 0), .ref (ad 23 0), .ref (ad 24 0), .ref (ad 25 0), .ref (ad 26 0), .ref (ad 27 0), .int (iI (σ 30 0 0)), .ref (ad 28 0), .ref (ad 29 0), .ref (ad 30 0), .ref (ad 31 0), .int (iI (σ 31 0 0)), .ref (ad 32 0), .ref (ad 33 0), .ref (ad 34 0), .ref (ad 35 0), .ref (ad 36 0), .int (iI (σ 32 0 0)), .ref (ad 37 0), .ref (ad 38 0), .ref (ad 39 0), .ref (ad 40 0), .int (iI (σ 33 0 0)), .int (iI (σ 34 0 0)), .int (iI (σ 35 0 0)), .int (iI (σ 36 0 0)), .int (iI (σ 37 0 0)), .int (iI v), .ref (ad 41 0), .int (iI (σ 39 0 0)), .int (iI (σ 40 0 0))])) = jG Y τ (up σ 38 0 0 v) ρ ad := by
  refine jG_put_m (k0 := 0) (by decide) (fun k hk => mG_c (fun r hr => up_r ?_)) (fun m hm => ?_) ?_
  · rintro rfl; revert hr hk; unfold mdep; split <;> simp
  · show mG20 Y _ ad m = mG20 Y σ ad m
    unfold mG20; rw [if_neg hm, if_neg hm]
  · show mG20 Y _ ad 0 = _
    rw [mG20_l]; simp only [up_s, up_r (r := 38) (r' := 30) (by decide), up_r (r := 38) (r' := 31) (by decide), up_r (r := 38) (r' := 32) (by decide), up_r (r := 38) (r' := 33) (by decide), up_r (r := 38) (r' := 34) (by decide), up_r (r := 38) (r' := 35) (by decide), up_r (r := 38) (r' := 36) (by decide), up_r (r := 38) (r' := 37) (by decide), up_r (r := 38) (r' := 39) (by decide), up_r (r := 38) (r' := 40) (by decide)]
theorem mP_39 {Y : Nat → ClassId} {τ σ : xS} {ρ : xG} {ad : xL} {v : Int} : xup (jG Y τ σ ρ ad) 20 0 (.inr (10, [.ref (ad 21 0), .ref (ad 22 0), .ref (ad 23 0), .ref (ad 24 0), .ref (ad 25 0), .ref (ad 26 0), .ref (ad 27 0), .int (iI (σ 30 0 0)), .ref (ad 28 0), .ref (ad 29 0), .ref (ad 30 0), .ref (ad 31 0), .int (iI (σ 31 0 0)), .ref (ad 32 0), .ref (ad 33 0), .ref (ad 34 0), .ref (ad 35 0), .ref (ad 36 0), .int (iI (σ 32 0 0)), .ref (ad 37 0), .ref (ad 38 0), .ref (ad 39 0), .ref (ad 40 0), .int (iI (σ 33 0 0)), .int (iI (σ 34 0 0)), .int (iI (σ 35 0 0)), .int (iI (σ 36 0 0)), .int (iI (σ 37 0 0)), .int (iI (σ 38 0 0)), .ref (ad 41 0), .int (iI v), .int (iI (σ 40 0 0))])) = jG Y τ (up σ 39 0 0 v) ρ ad := by
  refine jG_put_m (k0 := 0) (by decide) (fun k hk => mG_c (fun r hr => up_r ?_)) (fun m hm => ?_) ?_
  · rintro rfl; revert hr hk; unfold mdep; split <;> simp
  · show mG20 Y _ ad m = mG20 Y σ ad m
    unfold mG20; rw [if_neg hm, if_neg hm]
  · show mG20 Y _ ad 0 = _
    rw [mG20_l]; simp only [up_s, up_r (r := 39) (r' := 30) (by decide), up_r (r := 39) (r' := 31) (by decide), up_r (r := 39) (r' := 32) (by decide), up_r (r := 39) (r' := 33) (by decide), up_r (r := 39) (r' := 34) (by decide), up_r (r := 39) (r' := 35) (by decide), up_r (r := 39) (r' := 36) (by decide), up_r (r := 39) (r' := 37) (by decide), up_r (r := 39) (r' := 38) (by decide), up_r (r := 39) (r' := 40) (by decide)]
theorem mP_40 {Y : Nat → ClassId} {τ σ : xS} {ρ : xG} {ad : xL} {v : Int} : xup (jG Y τ σ ρ ad) 20 0 (.inr (10, [.ref (ad 21 0), .ref (ad 22 0), .ref (ad 23 0), .ref (ad 24 0), .ref (ad 25 0), .ref (ad 26 0), .ref (ad 27 0), .int (iI (σ 30 0 0)), .ref (ad 28 0), .ref (ad 29 0), .ref (ad 30 0), .ref (ad 31 0), .int (iI (σ 31 0 0)), .ref (ad 32 0), .ref (ad 33 0), .ref (ad 34 0), .ref (ad 35 0), .ref (ad 36 0), .int (iI (σ 32 0 0)), .ref (ad 37 0), .ref (ad 38 0), .ref (ad 39 0), .ref (ad 40 0), .int (iI (σ 33 0 0)), .int (iI (σ 34 0 0)), .int (iI (σ 35 0 0)), .int (iI (σ 36 0 0)), .int (iI (σ 37 0 0)), .int (iI (σ 38 0 0)), .ref (ad 41 0), .int (iI (σ 39 0 0)), .int (iI v)])) = jG Y τ (up σ 40 0 0 v) ρ ad := by
  refine jG_put_m (k0 := 0) (by decide) (fun k hk => mG_c (fun r hr => up_r ?_)) (fun m hm => ?_) ?_
  · rintro rfl; revert hr hk; unfold mdep; split <;> simp
  · show mG20 Y _ ad m = mG20 Y σ ad m
    unfold mG20; rw [if_neg hm, if_neg hm]
  · show mG20 Y _ ad 0 = _
    rw [mG20_l]; simp only [up_s, up_r (r := 40) (r' := 30) (by decide), up_r (r := 40) (r' := 31) (by decide), up_r (r := 40) (r' := 32) (by decide), up_r (r := 40) (r' := 33) (by decide), up_r (r := 40) (r' := 34) (by decide), up_r (r := 40) (r' := 35) (by decide), up_r (r := 40) (r' := 36) (by decide), up_r (r := 40) (r' := 37) (by decide), up_r (r := 40) (r' := 38) (by decide), up_r (r := 40) (r' := 39) (by decide)]
theorem mA_texts {Y : Nat → ClassId} {τ σ : xS} {ρ : xG} {ad : xL} {z v : Int} (d p : Int) (hd : 0 ≤ d) (hp : 0 ≤ p ∧ p < 80) (hz : z = 80 * d + p) : xup (jG Y τ σ ρ ad) 21 0 (.inl (Y 0, 240, .inl (upd (fun j => iI (σ 0 (2 * ((j : Int) / 80)) ((j : Int) % 80))) z.toNat (iI v)))) = jG Y τ (up σ 0 (2 * d) p v) ρ ad := by
  refine jG_put_m (k0 := 1) (by decide) (fun k hk => ?_) (fun m hm => ?_) ?_
  · by_cases hk2 : k = 5
    · subst hk2
      show mG25 Y _ ad = mG25 Y σ ad
      funext n; unfold mG25; congr 6; funext j; rw [up_n (by omega)]
    · refine mG_c (fun r hr => up_r ?_)
      rintro rfl; revert hr hk hk2; unfold mdep; split <;> simp
  · show mG21 Y _ ad m = mG21 Y σ ad m
    unfold mG21; rw [if_neg hm, if_neg hm]
  · show mG21 Y _ ad 0 = _
    rw [mG21_l]
    congr 5; funext j; unfold upd; rw [up_e]; by_cases hj : j = z.toNat
    · rw [if_pos (by omega), if_pos hj]
    · rw [if_neg (by omega), if_neg hj]
theorem mA_lengths {Y : Nat → ClassId} {τ σ : xS} {ρ : xG} {ad : xL} {z v : Int} (hz : 0 ≤ z) : xup (jG Y τ σ ρ ad) 22 0 (.inl (Y 0, 3, .inl (upd (fun j => iI (σ 1 (2 * (j : Int)) (0))) z.toNat (iI v)))) = jG Y τ (up σ 1 (2 * z) 0 v) ρ ad := by
  refine jG_put_m (k0 := 2) (by decide) (fun k hk => ?_) (fun m hm => ?_) ?_
  · by_cases hk2 : k = 6
    · subst hk2
      show mG26 Y _ ad = mG26 Y σ ad
      funext n; unfold mG26; congr 6; funext j; rw [up_n (by omega)]
    · refine mG_c (fun r hr => up_r ?_)
      rintro rfl; revert hr hk hk2; unfold mdep; split <;> simp
  · show mG22 Y _ ad m = mG22 Y σ ad m
    unfold mG22; rw [if_neg hm, if_neg hm]
  · show mG22 Y _ ad 0 = _
    rw [mG22_l]
    congr 5; funext j; unfold upd; rw [up_e]; by_cases hj : j = z.toNat
    · rw [if_pos (by omega), if_pos hj]
    · rw [if_neg (by omega), if_neg hj]
theorem mA_versions {Y : Nat → ClassId} {τ σ : xS} {ρ : xG} {ad : xL} {z v : Int} (hz : 0 ≤ z) : xup (jG Y τ σ ρ ad) 23 0 (.inl (Y 0, 3, .inl (upd (fun j => iI (σ 2 ((j : Int)) (0))) z.toNat (iI v)))) = jG Y τ (up σ 2 z 0 v) ρ ad := by
  refine jG_put_m (k0 := 3) (by decide) (fun k hk => mG_c (fun r hr => up_r ?_)) (fun m hm => ?_) ?_
  · rintro rfl; revert hr hk; unfold mdep; split <;> simp
  · show mG23 Y _ ad m = mG23 Y σ ad m
    unfold mG23; rw [if_neg hm, if_neg hm]
  · show mG23 Y _ ad 0 = _
    rw [mG23_l]
    congr 5; funext j; unfold upd; rw [up_e]; by_cases hj : j = z.toNat
    · rw [if_pos (by omega), if_pos hj]
    · rw [if_neg (by omega), if_neg hj]
theorem mA_closings {Y : Nat → ClassId} {τ σ : xS} {ρ : xG} {ad : xL} {z v : Int} (hz : 0 ≤ z) : xup (jG Y τ σ ρ ad) 24 0 (.inl (Y 0, 3, .inl (upd (fun j => iI (σ 4 ((j : Int)) (0))) z.toNat (iI v)))) = jG Y τ (up σ 4 z 0 v) ρ ad := by
  refine jG_put_m (k0 := 4) (by decide) (fun k hk => mG_c (fun r hr => up_r ?_)) (fun m hm => ?_) ?_
  · rintro rfl; revert hr hk; unfold mdep; split <;> simp
  · show mG24 Y _ ad m = mG24 Y σ ad m
    unfold mG24; rw [if_neg hm, if_neg hm]
  · show mG24 Y _ ad 0 = _
    rw [mG24_l]
    congr 5; funext j; unfold upd; rw [up_e]; by_cases hj : j = z.toNat
    · rw [if_pos (by omega), if_pos hj]
    · rw [if_neg (by omega), if_neg hj]
theorem mA_proofs {Y : Nat → ClassId} {τ σ : xS} {ρ : xG} {ad : xL} {z v : Int} (d p : Int) (hd : 0 ≤ d) (hp : 0 ≤ p ∧ p < 80) (hz : z = 80 * d + p) : xup (jG Y τ σ ρ ad) 25 0 (.inl (Y 0, 240, .inl (upd (fun j => iI (σ 0 (2 * ((j : Int) / 80) + 1) ((j : Int) % 80))) z.toNat (iI v)))) = jG Y τ (up σ 0 (2 * d + 1) p v) ρ ad := by
  refine jG_put_m (k0 := 5) (by decide) (fun k hk => ?_) (fun m hm => ?_) ?_
  · by_cases hk2 : k = 1
    · subst hk2
      show mG21 Y _ ad = mG21 Y σ ad
      funext n; unfold mG21; congr 6; funext j; rw [up_n (by omega)]
    · refine mG_c (fun r hr => up_r ?_)
      rintro rfl; revert hr hk hk2; unfold mdep; split <;> simp
  · show mG25 Y _ ad m = mG25 Y σ ad m
    unfold mG25; rw [if_neg hm, if_neg hm]
  · show mG25 Y _ ad 0 = _
    rw [mG25_l]
    congr 5; funext j; unfold upd; rw [up_e]; by_cases hj : j = z.toNat
    · rw [if_pos (by omega), if_pos hj]
    · rw [if_neg (by omega), if_neg hj]
theorem mA_proofLengths {Y : Nat → ClassId} {τ σ : xS} {ρ : xG} {ad : xL} {z v : Int} (hz : 0 ≤ z) : xup (jG Y τ σ ρ ad) 26 0 (.inl (Y 0, 3, .inl (upd (fun j => iI (σ 1 (2 * (j : Int) + 1) (0))) z.toNat (iI v)))) = jG Y τ (up σ 1 (2 * z + 1) 0 v) ρ ad := by
  refine jG_put_m (k0 := 6) (by decide) (fun k hk => ?_) (fun m hm => ?_) ?_
  · by_cases hk2 : k = 2
    · subst hk2
      show mG22 Y _ ad = mG22 Y σ ad
      funext n; unfold mG22; congr 6; funext j; rw [up_n (by omega)]
    · refine mG_c (fun r hr => up_r ?_)
      rintro rfl; revert hr hk hk2; unfold mdep; split <;> simp
  · show mG26 Y _ ad m = mG26 Y σ ad m
    unfold mG26; rw [if_neg hm, if_neg hm]
  · show mG26 Y _ ad 0 = _
    rw [mG26_l]
    congr 5; funext j; unfold upd; rw [up_e]; by_cases hj : j = z.toNat
    · rw [if_pos (by omega), if_pos hj]
    · rw [if_neg (by omega), if_neg hj]
theorem mA_proofVersions {Y : Nat → ClassId} {τ σ : xS} {ρ : xG} {ad : xL} {z v : Int} (hz : 0 ≤ z) : xup (jG Y τ σ ρ ad) 27 0 (.inl (Y 0, 3, .inl (upd (fun j => iI (σ 3 ((j : Int)) (0))) z.toNat (iI v)))) = jG Y τ (up σ 3 z 0 v) ρ ad := by
  refine jG_put_m (k0 := 7) (by decide) (fun k hk => mG_c (fun r hr => up_r ?_)) (fun m hm => ?_) ?_
  · rintro rfl; revert hr hk; unfold mdep; split <;> simp
  · show mG27 Y _ ad m = mG27 Y σ ad m
    unfold mG27; rw [if_neg hm, if_neg hm]
  · show mG27 Y _ ad 0 = _
    rw [mG27_l]
    congr 5; funext j; unfold upd; rw [up_e]; by_cases hj : j = z.toNat
    · rw [if_pos (by omega), if_pos hj]
    · rw [if_neg (by omega), if_neg hj]
theorem mA_commentOn {Y : Nat → ClassId} {τ σ : xS} {ρ : xG} {ad : xL} {z v : Int} (hz : 0 ≤ z) : xup (jG Y τ σ ρ ad) 28 0 (.inl (Y 0, 8, .inl (upd (fun j => iI (σ 5 ((j : Int)) (0))) z.toNat (iI v)))) = jG Y τ (up σ 5 z 0 v) ρ ad := by
  refine jG_put_m (k0 := 8) (by decide) (fun k hk => mG_c (fun r hr => up_r ?_)) (fun m hm => ?_) ?_
  · rintro rfl; revert hr hk; unfold mdep; split <;> simp
  · show mG28 Y _ ad m = mG28 Y σ ad m
    unfold mG28; rw [if_neg hm, if_neg hm]
  · show mG28 Y _ ad 0 = _
    rw [mG28_l]
    congr 5; funext j; unfold upd; rw [up_e]; by_cases hj : j = z.toNat
    · rw [if_pos (by omega), if_pos hj]
    · rw [if_neg (by omega), if_neg hj]
theorem mA_spanFrom {Y : Nat → ClassId} {τ σ : xS} {ρ : xG} {ad : xL} {z v : Int} (hz : 0 ≤ z) : xup (jG Y τ σ ρ ad) 29 0 (.inl (Y 0, 8, .inl (upd (fun j => iI (σ 6 ((j : Int)) (0))) z.toNat (iI v)))) = jG Y τ (up σ 6 z 0 v) ρ ad := by
  refine jG_put_m (k0 := 9) (by decide) (fun k hk => mG_c (fun r hr => up_r ?_)) (fun m hm => ?_) ?_
  · rintro rfl; revert hr hk; unfold mdep; split <;> simp
  · show mG29 Y _ ad m = mG29 Y σ ad m
    unfold mG29; rw [if_neg hm, if_neg hm]
  · show mG29 Y _ ad 0 = _
    rw [mG29_l]
    congr 5; funext j; unfold upd; rw [up_e]; by_cases hj : j = z.toNat
    · rw [if_pos (by omega), if_pos hj]
    · rw [if_neg (by omega), if_neg hj]
theorem mA_spanTo {Y : Nat → ClassId} {τ σ : xS} {ρ : xG} {ad : xL} {z v : Int} (hz : 0 ≤ z) : xup (jG Y τ σ ρ ad) 30 0 (.inl (Y 0, 8, .inl (upd (fun j => iI (σ 7 ((j : Int)) (0))) z.toNat (iI v)))) = jG Y τ (up σ 7 z 0 v) ρ ad := by
  refine jG_put_m (k0 := 10) (by decide) (fun k hk => mG_c (fun r hr => up_r ?_)) (fun m hm => ?_) ?_
  · rintro rfl; revert hr hk; unfold mdep; split <;> simp
  · show mG30 Y _ ad m = mG30 Y σ ad m
    unfold mG30; rw [if_neg hm, if_neg hm]
  · show mG30 Y _ ad 0 = _
    rw [mG30_l]
    congr 5; funext j; unfold upd; rw [up_e]; by_cases hj : j = z.toNat
    · rw [if_pos (by omega), if_pos hj]
    · rw [if_neg (by omega), if_neg hj]
theorem mA_isOpen {Y : Nat → ClassId} {τ σ : xS} {ρ : xG} {ad : xL} {z v : Int} (hz : 0 ≤ z) : xup (jG Y τ σ ρ ad) 31 0 (.inl (Y 1, 8, .inl (upd (fun j => iI (σ 8 ((j : Int)) (0))) z.toNat (iI v)))) = jG Y τ (up σ 8 z 0 v) ρ ad := by
  refine jG_put_m (k0 := 11) (by decide) (fun k hk => mG_c (fun r hr => up_r ?_)) (fun m hm => ?_) ?_
  · rintro rfl; revert hr hk; unfold mdep; split <;> simp
  · show mG31 Y _ ad m = mG31 Y σ ad m
    unfold mG31; rw [if_neg hm, if_neg hm]
  · show mG31 Y _ ad 0 = _
    rw [mG31_l]
    congr 5; funext j; unfold upd; rw [up_e]; by_cases hj : j = z.toNat
    · rw [if_pos (by omega), if_pos hj]
    · rw [if_neg (by omega), if_neg hj]
theorem mA_orderOf {Y : Nat → ClassId} {τ σ : xS} {ρ : xG} {ad : xL} {z v : Int} (hz : 0 ≤ z) : xup (jG Y τ σ ρ ad) 32 0 (.inl (Y 0, 6, .inl (upd (fun j => iI (σ 9 ((j : Int)) (0))) z.toNat (iI v)))) = jG Y τ (up σ 9 z 0 v) ρ ad := by
  refine jG_put_m (k0 := 12) (by decide) (fun k hk => mG_c (fun r hr => up_r ?_)) (fun m hm => ?_) ?_
  · rintro rfl; revert hr hk; unfold mdep; split <;> simp
  · show mG32 Y _ ad m = mG32 Y σ ad m
    unfold mG32; rw [if_neg hm, if_neg hm]
  · show mG32 Y _ ad 0 = _
    rw [mG32_l]
    congr 5; funext j; unfold upd; rw [up_e]; by_cases hj : j = z.toNat
    · rw [if_pos (by omega), if_pos hj]
    · rw [if_neg (by omega), if_neg hj]
theorem mA_copies {Y : Nat → ClassId} {τ σ : xS} {ρ : xG} {ad : xL} {z v : Int} (hz : 0 ≤ z) : xup (jG Y τ σ ρ ad) 33 0 (.inl (Y 0, 6, .inl (upd (fun j => iI (σ 10 ((j : Int)) (0))) z.toNat (iI v)))) = jG Y τ (up σ 10 z 0 v) ρ ad := by
  refine jG_put_m (k0 := 13) (by decide) (fun k hk => mG_c (fun r hr => up_r ?_)) (fun m hm => ?_) ?_
  · rintro rfl; revert hr hk; unfold mdep; split <;> simp
  · show mG33 Y _ ad m = mG33 Y σ ad m
    unfold mG33; rw [if_neg hm, if_neg hm]
  · show mG33 Y _ ad 0 = _
    rw [mG33_l]
    congr 5; funext j; unfold upd; rw [up_e]; by_cases hj : j = z.toNat
    · rw [if_pos (by omega), if_pos hj]
    · rw [if_neg (by omega), if_neg hj]
theorem mA_dues {Y : Nat → ClassId} {τ σ : xS} {ρ : xG} {ad : xL} {z v : Int} (hz : 0 ≤ z) : xup (jG Y τ σ ρ ad) 34 0 (.inl (Y 0, 6, .inl (upd (fun j => iI (σ 11 ((j : Int)) (0))) z.toNat (iI v)))) = jG Y τ (up σ 11 z 0 v) ρ ad := by
  refine jG_put_m (k0 := 14) (by decide) (fun k hk => mG_c (fun r hr => up_r ?_)) (fun m hm => ?_) ?_
  · rintro rfl; revert hr hk; unfold mdep; split <;> simp
  · show mG34 Y _ ad m = mG34 Y σ ad m
    unfold mG34; rw [if_neg hm, if_neg hm]
  · show mG34 Y _ ad 0 = _
    rw [mG34_l]
    congr 5; funext j; unfold upd; rw [up_e]; by_cases hj : j = z.toNat
    · rw [if_pos (by omega), if_pos hj]
    · rw [if_neg (by omega), if_neg hj]
theorem mA_paperFor {Y : Nat → ClassId} {τ σ : xS} {ρ : xG} {ad : xL} {z v : Int} (hz : 0 ≤ z) : xup (jG Y τ σ ρ ad) 35 0 (.inl (Y 0, 6, .inl (upd (fun j => iI (σ 12 ((j : Int)) (0))) z.toNat (iI v)))) = jG Y τ (up σ 12 z 0 v) ρ ad := by
  refine jG_put_m (k0 := 15) (by decide) (fun k hk => mG_c (fun r hr => up_r ?_)) (fun m hm => ?_) ?_
  · rintro rfl; revert hr hk; unfold mdep; split <;> simp
  · show mG35 Y _ ad m = mG35 Y σ ad m
    unfold mG35; rw [if_neg hm, if_neg hm]
  · show mG35 Y _ ad 0 = _
    rw [mG35_l]
    congr 5; funext j; unfold upd; rw [up_e]; by_cases hj : j = z.toNat
    · rw [if_pos (by omega), if_pos hj]
    · rw [if_neg (by omega), if_neg hj]
theorem mA_platesFor {Y : Nat → ClassId} {τ σ : xS} {ρ : xG} {ad : xL} {z v : Int} (hz : 0 ≤ z) : xup (jG Y τ σ ρ ad) 36 0 (.inl (Y 0, 6, .inl (upd (fun j => iI (σ 13 ((j : Int)) (0))) z.toNat (iI v)))) = jG Y τ (up σ 13 z 0 v) ρ ad := by
  refine jG_put_m (k0 := 16) (by decide) (fun k hk => mG_c (fun r hr => up_r ?_)) (fun m hm => ?_) ?_
  · rintro rfl; revert hr hk; unfold mdep; split <;> simp
  · show mG36 Y _ ad m = mG36 Y σ ad m
    unfold mG36; rw [if_neg hm, if_neg hm]
  · show mG36 Y _ ad 0 = _
    rw [mG36_l]
    congr 5; funext j; unfold upd; rw [up_e]; by_cases hj : j = z.toNat
    · rw [if_pos (by omega), if_pos hj]
    · rw [if_neg (by omega), if_neg hj]
theorem mA_printings {Y : Nat → ClassId} {τ σ : xS} {ρ : xG} {ad : xL} {z v : Int} (hz : 0 ≤ z) : xup (jG Y τ σ ρ ad) 37 0 (.inl (Y 0, 18, .inl (upd (fun j => iI (σ 14 ((j : Int)) (0))) z.toNat (iI v)))) = jG Y τ (up σ 14 z 0 v) ρ ad := by
  refine jG_put_m (k0 := 17) (by decide) (fun k hk => mG_c (fun r hr => up_r ?_)) (fun m hm => ?_) ?_
  · rintro rfl; revert hr hk; unfold mdep; split <;> simp
  · show mG37 Y _ ad m = mG37 Y σ ad m
    unfold mG37; rw [if_neg hm, if_neg hm]
  · show mG37 Y _ ad 0 = _
    rw [mG37_l]
    congr 5; funext j; unfold upd; rw [up_e]; by_cases hj : j = z.toNat
    · rw [if_pos (by omega), if_pos hj]
    · rw [if_neg (by omega), if_neg hj]
theorem mA_plateLength {Y : Nat → ClassId} {τ σ : xS} {ρ : xG} {ad : xL} {z v : Int} (hz : 0 ≤ z) : xup (jG Y τ σ ρ ad) 38 0 (.inl (Y 0, 18, .inl (upd (fun j => iI (σ 15 ((j : Int)) (0))) z.toNat (iI v)))) = jG Y τ (up σ 15 z 0 v) ρ ad := by
  refine jG_put_m (k0 := 18) (by decide) (fun k hk => mG_c (fun r hr => up_r ?_)) (fun m hm => ?_) ?_
  · rintro rfl; revert hr hk; unfold mdep; split <;> simp
  · show mG38 Y _ ad m = mG38 Y σ ad m
    unfold mG38; rw [if_neg hm, if_neg hm]
  · show mG38 Y _ ad 0 = _
    rw [mG38_l]
    congr 5; funext j; unfold upd; rw [up_e]; by_cases hj : j = z.toNat
    · rw [if_pos (by omega), if_pos hj]
    · rw [if_neg (by omega), if_neg hj]
theorem mA_printed {Y : Nat → ClassId} {τ σ : xS} {ρ : xG} {ad : xL} {z v : Int} (d p : Int) (hd : 0 ≤ d) (hp : 0 ≤ p ∧ p < 32) (hz : z = 32 * d + p) : xup (jG Y τ σ ρ ad) 39 0 (.inl (Y 0, 576, .inl (upd (fun j => iI (σ 16 ((j : Int) / 32) ((j : Int) % 32))) z.toNat (iI v)))) = jG Y τ (up σ 16 d p v) ρ ad := by
  refine jG_put_m (k0 := 19) (by decide) (fun k hk => mG_c (fun r hr => up_r ?_)) (fun m hm => ?_) ?_
  · rintro rfl; revert hr hk; unfold mdep; split <;> simp
  · show mG39 Y _ ad m = mG39 Y σ ad m
    unfold mG39; rw [if_neg hm, if_neg hm]
  · show mG39 Y _ ad 0 = _
    rw [mG39_l]
    congr 5; funext j; unfold upd; rw [up_e]; by_cases hj : j = z.toNat
    · rw [if_pos (by omega), if_pos hj]
    · rw [if_neg (by omega), if_neg hj]
theorem mA_plate {Y : Nat → ClassId} {τ σ : xS} {ρ : xG} {ad : xL} {z v : Int} (d p : Int) (hd : 0 ≤ d) (hp : 0 ≤ p ∧ p < 32) (hz : z = 32 * d + p) : xup (jG Y τ σ ρ ad) 40 0 (.inl (Y 0, 576, .inl (upd (fun j => iI (σ 17 ((j : Int) / 32) ((j : Int) % 32))) z.toNat (iI v)))) = jG Y τ (up σ 17 d p v) ρ ad := by
  refine jG_put_m (k0 := 20) (by decide) (fun k hk => mG_c (fun r hr => up_r ?_)) (fun m hm => ?_) ?_
  · rintro rfl; revert hr hk; unfold mdep; split <;> simp
  · show mG40 Y _ ad m = mG40 Y σ ad m
    unfold mG40; rw [if_neg hm, if_neg hm]
  · show mG40 Y _ ad 0 = _
    rw [mG40_l]
    congr 5; funext j; unfold upd; rw [up_e]; by_cases hj : j = z.toNat
    · rw [if_pos (by omega), if_pos hj]
    · rw [if_neg (by omega), if_neg hj]
theorem mA_onPress {Y : Nat → ClassId} {τ σ : xS} {ρ : xG} {ad : xL} {z v : Int} (hz : 0 ≤ z) : xup (jG Y τ σ ρ ad) 41 0 (.inl (Y 0, 32, .inl (upd (fun j => iI (σ 18 (0) ((j : Int)))) z.toNat (iI v)))) = jG Y τ (up σ 18 0 z v) ρ ad := by
  refine jG_put_m (k0 := 21) (by decide) (fun k hk => mG_c (fun r hr => up_r ?_)) (fun m hm => ?_) ?_
  · rintro rfl; revert hr hk; unfold mdep; split <;> simp
  · show mG41 Y _ ad m = mG41 Y σ ad m
    unfold mG41; rw [if_neg hm, if_neg hm]
  · show mG41 Y _ ad 0 = _
    rw [mG41_l]
    congr 5; funext j; unfold upd; rw [up_e]; by_cases hj : j = z.toNat
    · rw [if_pos (by omega), if_pos hj]
    · rw [if_neg (by omega), if_neg hj]
