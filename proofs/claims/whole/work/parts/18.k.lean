/-! which exception, by the document's order; 0: none -/
def isC (c : Int) : Prop := c = 32 ∨ 97 ≤ c ∧ c ≤ 122 ∨ 128512 ≤ c ∧ c ≤ 128527
def kDoc (τ : xS) (z : Int) : Int := if ¬ (0 ≤ z ∧ z < τ 30 0 0) then 1 else 0
noncomputable def kIns (τ : xS) (z p c : Int) : Int := if ¬ (0 ≤ z ∧ z < τ 30 0 0) then 1 else if ¬ (0 ≤ p ∧ p ≤ τ 1 (2 * z) 0) then 2 else if ¬ (c = 32 ∨ 97 ≤ c ∧ c ≤ 122 ∨ 128512 ≤ c ∧ c ≤ 128527) then 3 else if τ 1 (2 * z) 0 = 80 then 4 else if brA τ z p 1 ≠ 45 then 5 else 0
noncomputable def kDel (τ : xS) (z p : Int) : Int := if ¬ (0 ≤ z ∧ z < τ 30 0 0) then 1 else if ¬ (0 ≤ p ∧ p < τ 1 (2 * z) 0) then 2 else if brA τ z p 0 ≠ 45 then 3 else 0
def kBar (τ : xS) (z p b : Int) : Int := if ¬ (0 ≤ z ∧ z < τ 30 0 0) then 1 else if ¬ (0 ≤ p ∧ p < τ 1 (2 * z) 0 + b) then 2 else 0
def kClo (τ : xS) (z h : Int) : Int := if ¬ (0 ≤ z ∧ z < τ 30 0 0) then 1 else if ¬ (0 ≤ h ∧ h ≤ 999) then 2 else 0
def kCod (τ : xS) (z p : Int) : Int := if ¬ (0 ≤ z ∧ z < τ 30 0 0) then 1 else if ¬ (0 ≤ p ∧ p < τ 1 (2 * z) 0) then 2 else 0
def kCom (τ : xS) (z f t : Int) : Int := if ¬ (0 ≤ z ∧ z < τ 30 0 0) then 1 else if ¬ (0 ≤ f ∧ f < t ∧ t ≤ τ 1 (2 * z) 0) then 2 else if τ 31 0 0 = 8 then 3 else 0
def kIsO (τ : xS) (z : Int) : Int := if ¬ (0 ≤ z ∧ z < τ 31 0 0) then 1 else 0
def kAns (τ : xS) (z : Int) : Int := if ¬ (0 ≤ z ∧ z < τ 31 0 0) then 1 else if τ 8 z 0 = 0 then 2 else 0
noncomputable def kSig (τ : xS) (z : Int) : Int := if ¬ (0 ≤ z ∧ z < τ 30 0 0) then 1 else if τ 1 (2 * z) 0 = 0 ∨ 0 < opA τ z (τ 31 0 0) ∨ τ 2 z 0 = τ 3 z 0 then 2 else 0
def kPrf (τ : xS) (z : Int) : Int := if ¬ (0 ≤ z ∧ z < τ 30 0 0) then 1 else if τ 3 z 0 = -1 then 2 else 0
def kPag (τ : xS) (z s q m : Int) : Int := if ¬ (0 ≤ z ∧ z < τ 30 0 0) then 1 else if τ 3 z 0 = -1 then 2 else if ¬ ((0 ≤ s ∧ s < shT τ z) ∧ 0 ≤ q ∧ q < m) then 3 else 0
def kSup (τ : xS) (a b : Int) : Int := if ¬ ((0 ≤ a ∧ a ≤ 9999) ∧ 0 ≤ b ∧ b ≤ 99) then 1 else if 99999 < τ 33 0 0 + a ∨ 999 < τ 34 0 0 + b then 2 else 0
noncomputable def kOrd (τ : xS) (z c u : Int) : Int := if ¬ (0 ≤ z ∧ z < τ 30 0 0) then 1 else if ¬ ((1 ≤ c ∧ c ≤ 500) ∧ 0 ≤ u ∧ u ≤ 999) then 2 else if τ 3 z 0 = -1 ∨ τ 32 0 0 = 6 then 3 else if frA τ (τ 32 0 0) < c * shT τ z then 4 else 0
def kOdr (τ : xS) (z : Int) : Int := if ¬ (0 ≤ z ∧ z < τ 32 0 0) then 1 else 0
def kSta (τ : xS) (z s : Int) : Int := if ¬ (0 ≤ z ∧ z < τ 32 0 0) then 1 else if ¬ (0 ≤ s ∧ s < shT τ (τ 9 z 0)) then 2 else 0
/-- the order that is due first, of the first n -/
noncomputable def nxN (τ : xS) : Nat → Int
  | 0 => -1
  | n + 1 => pk (¬ alA τ n ∧ (nxN τ n = -1 ∨ τ 11 n 0 < τ 11 (nxN τ n) 0 ∨ τ 11 n 0 = τ 11 (nxN τ n) 0 ∧ τ 10 n 0 > τ 10 (nxN τ n) 0)) (n : Int) (nxN τ n)
noncomputable def nxA (τ : xS) (z : Int) : Int := nxN τ z.toNat
theorem nxA_0 {τ : xS} : nxA τ 0 = -1 := rfl
theorem nxA_s {τ : xS} {z : Int} (h : 0 ≤ z) : nxA τ (z + 1) = pk (¬ alA τ z ∧ (nxA τ z = -1 ∨ τ 11 z 0 < τ 11 (nxA τ z) 0 ∨ τ 11 z 0 = τ 11 (nxA τ z) 0 ∧ τ 10 z 0 > τ 10 (nxA τ z) 0)) z (nxA τ z) := by
  unfold nxA
  rw [show (z + 1).toNat = z.toNat + 1 by omega]
  show pk (¬ alA τ ((z.toNat : Nat) : Int) ∧ (nxN τ z.toNat = -1 ∨ τ 11 ((z.toNat : Nat) : Int) 0 < τ 11 (nxN τ z.toNat) 0 ∨ τ 11 ((z.toNat : Nat) : Int) 0 = τ 11 (nxN τ z.toNat) 0 ∧ τ 10 ((z.toNat : Nat) : Int) 0 > τ 10 (nxN τ z.toNat) 0)) ((z.toNat : Nat) : Int) (nxN τ z.toNat) = _
  rw [iz h]
theorem nxA_b {τ : xS} {z : Int} (h : 0 ≤ z) : nxA τ z = -1 ∨ 0 ≤ nxA τ z ∧ nxA τ z < z := by
  have k : ∀ n : Nat, nxA τ (n : Int) = -1 ∨ 0 ≤ nxA τ n ∧ nxA τ n < n := by
    intro n
    induction n with
    | zero => exact Or.inl rfl
    | succ n ih =>
      rw [show ((n + 1 : Nat) : Int) = (n : Int) + 1 by omega, nxA_s (by omega)]
      by_cases c : (¬ alA τ (n : Int) ∧ (nxA τ n = -1 ∨ τ 11 n 0 < τ 11 (nxA τ n) 0 ∨ τ 11 n 0 = τ 11 (nxA τ n) 0 ∧ τ 10 n 0 > τ 10 (nxA τ n) 0))
      · rw [pk_t c]; omega
      · rw [pk_f c]; omega
  have := k z.toNat
  rwa [iz h] at this
noncomputable def kNxo (τ : xS) : Int := if nxA τ (τ 32 0 0) = -1 then 1 else 0
/-- the first place below z where p holds, -1 if none -/
noncomputable def fsN (p : Int → Prop) : Nat → Int
  | 0 => -1
  | n + 1 => if fsN p n ≠ -1 then fsN p n else pk (p n) (n : Int) (-1)
noncomputable def fsA (p : Int → Prop) (z : Int) : Int := fsN p z.toNat
theorem fsA_n {p : Int → Prop} {z : Int} (h : 0 ≤ z) (hn : ∀ j, 0 ≤ j → j < z → ¬ p j) : fsA p z = -1 := by
  have k : ∀ n : Nat, (∀ j : Int, 0 ≤ j → j < n → ¬ p j) → fsN p n = -1 := by
    intro n
    induction n with
    | zero => intro _; rfl
    | succ n ih =>
      intro hj
      show (if fsN p n ≠ -1 then _ else _) = _
      rw [if_neg (by rw [ih (fun j a b => hj j a (by omega))]; simp), pk_f (hj n (by omega) (by omega))]
  exact k _ (fun j a b => hn j a (by omega))
theorem fsA_y {p : Int → Prop} {z i : Int} (h0 : 0 ≤ i) (h1 : i < z) (hp : p i) (hn : ∀ j, 0 ≤ j → j < i → ¬ p j) : fsA p z = i := by
  have k : ∀ n : Nat, fsN p (i.toNat + 1 + n) = i := by
    intro n
    induction n with
    | zero =>
      show (if fsN p i.toNat ≠ -1 then _ else _) = _
      have e : fsN p i.toNat = -1 := fsA_n h0 hn
      rw [if_neg (by rw [e]; simp), iz h0, pk_t hp]
    | succ n ih =>
      show (if fsN p (i.toNat + 1 + n) ≠ -1 then fsN p (i.toNat + 1 + n) else _) = _
      rw [ih, if_pos (by omega)]
  have := k (z.toNat - (i.toNat + 1))
  rw [show i.toNat + 1 + (z.toNat - (i.toNat + 1)) = z.toNat by omega] at this
  exact this
noncomputable def nsA (τ : xS) (o : Int) : Int := fsA (fun s => stA τ o s = 119 ∨ stA τ o s = 115) (shT τ (τ 9 o 0))
noncomputable def kNxs (τ : xS) (z : Int) : Int := if ¬ (0 ≤ z ∧ z < τ 32 0 0) then 1 else if nsA τ z = -1 then 2 else 0
noncomputable def kPrt (τ : xS) (z s : Int) : Int := if ¬ (0 ≤ z ∧ z < τ 32 0 0) then 1 else if ¬ (0 ≤ s ∧ s < shT τ (τ 9 z 0)) then 2 else if τ 35 0 0 ≠ -1 ∨ stA τ z s = 112 then 3 else if τ 33 0 0 < τ 10 z 0 ∨ bI (hasP τ (3 * z + s) (τ 9 z 0) s) = 0 ∧ τ 34 0 0 = 0 then 4 else 0
def kPas (τ : xS) (h : Int) : Int := if ¬ (1 ≤ h ∧ h ≤ 100) then 1 else if 999 < τ 39 0 0 + h then 2 else 0
def kPlL (τ : xS) (z s : Int) : Int := if ¬ (0 ≤ z ∧ z < τ 32 0 0) then 1 else if ¬ (0 ≤ s ∧ s < shT τ (τ 9 z 0)) then 2 else if τ 15 (3 * z + s) 0 = -1 then 3 else 0
def kPlA (τ : xS) (z s i : Int) : Int := if ¬ (0 ≤ z ∧ z < τ 32 0 0) then 1 else if ¬ (0 ≤ s ∧ s < shT τ (τ 9 z 0)) then 2 else if ¬ (0 ≤ i ∧ i < τ 15 (3 * z + s) 0) then 3 else 0
def kNon (n : Int) : Int := if n = 0 then 1 else 0
/-! the states behind the calls -/
def lgA (τ : xS) (k d p c : Int) : xS := up (up (up (up (up τ 20 0 (τ 41 0 0) k) 21 0 (τ 41 0 0) d) 22 0 (τ 41 0 0) p) 23 0 (τ 41 0 0) c) 41 0 0 (τ 41 0 0 + 1)
theorem lgA_r {τ : xS} {k d p c : Int} {r : Nat} (h0 : r ≠ 20) (h1 : r ≠ 21) (h2 : r ≠ 22) (h3 : r ≠ 23) (h4 : r ≠ 41) : lgA τ k d p c r = τ r := by
  unfold lgA
  rw [up_r h4, up_r h3, up_r h2, up_r h1, up_r h0]
theorem pinS_r {τ : xS} {t p c : Int} {r : Nat} (h0 : r ≠ 0) (h1 : r ≠ 1) : pinS τ t p c r = τ r := by
  unfold pinS
  rw [up_r h1, upR_r h0]
theorem pouS_r {τ : xS} {t p : Int} {r : Nat} (h0 : r ≠ 0) (h1 : r ≠ 1) : pouS τ t p r = τ r := by
  unfold pouS
  rw [upR_r h0, up_r h1]
theorem becS_r {τ : xS} {t u : Int} {r : Nat} (h0 : r ≠ 0) (h1 : r ≠ 1) : becS τ t u r = τ r := by
  unfold becS
  rw [upR_r h0, up_r h1]
theorem mkpS_r {τ : xS} {d : Int} {r : Nat} (h0 : r ≠ 0) (h1 : r ≠ 1) (h3 : r ≠ 3) (h24 : r ≠ 24) : mkpS τ d r = τ r := by
  unfold mkpS
  rw [up_r h24, up_r h3, becS_r h0 h1]
theorem plS_r {τ : xS} {i d s m : Int} {r : Nat} (h0 : r ≠ 17) (h1 : r ≠ 27) : plS τ i d s m r = τ r := by
  unfold plS
  rw [upR_r h0, up_r h1]
noncomputable def inS0 (τ : xS) (d p c : Int) : xS := up (pinS τ (2 * d) p c) 2 d 0 (τ 2 d 0 + 1)
noncomputable def insS (τ : xS) (d p c : Int) : xS := lgA (mvS (inS0 τ d p c) d p 0 1 (inS0 τ d p c 31 0 0)) 0 d p c
noncomputable def deS0 (τ : xS) (d p : Int) : xS := up (pouS τ (2 * d) p) 2 d 0 (τ 2 d 0 + 1)
noncomputable def delS (τ : xS) (d p : Int) : xS := lgA (mvS (deS0 τ d p) d p 1 (-1) (deS0 τ d p 31 0 0)) 1 d p (-1)
theorem inS0_r {τ : xS} {d p c : Int} {r : Nat} (h0 : r ≠ 0) (h1 : r ≠ 1) (h2 : r ≠ 2) : inS0 τ d p c r = τ r := by
  unfold inS0
  rw [up_r h2, pinS_r h0 h1]
theorem deS0_r {τ : xS} {d p : Int} {r : Nat} (h0 : r ≠ 0) (h1 : r ≠ 1) (h2 : r ≠ 2) : deS0 τ d p r = τ r := by
  unfold deS0
  rw [up_r h2, pouS_r h0 h1]
def sgnS (τ : xS) (d : Int) : xS := lgA (mkpS τ d) 2 d 0 (-1)
def supS (τ : xS) (a b : Int) : xS := up (up τ 33 0 0 (τ 33 0 0 + a)) 34 0 0 (τ 34 0 0 + b)
