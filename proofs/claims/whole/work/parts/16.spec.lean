/-! what the class and the reference both answer: functions of the state -/
def shC (n : Int) : Int := ((n + 7) / 8 + 3) / 4
def tAt (τ : xS) (t p : Int) : Int := if 0 ≤ p ∧ p < τ 1 t 0 then τ 0 t p else -1
def pgA (S s q : Int) : Int := if q = 0 then 4 * S - 1 - 2 * s else if q = 1 then 2 * s else if q = 2 then 2 * s + 1 else 4 * S - 2 - 2 * s
def shT (τ : xS) (d : Int) : Int := shC (τ 1 (2 * d + 1) 0)
def cOn (τ : xS) (d s k : Int) : Int := tAt τ (2 * d + 1) (8 * pgA (shT τ d) s (k / 8) + k % 8)
/-- sums over places below z -/
def sumN (f : Int → Int) : Nat → Int
  | 0 => 0
  | n + 1 => sumN f n + f (n : Int)
def sumZ (f : Int → Int) (z : Int) : Int := sumN f z.toNat
theorem sumZ_0 {f : Int → Int} : sumZ f 0 = 0 := rfl
theorem sumZ_s {f : Int → Int} {z : Int} (h : 0 ≤ z) : sumZ f (z + 1) = sumZ f z + f z := by
  unfold sumZ
  rw [show (z + 1).toNat = z.toNat + 1 by omega]
  show sumN f z.toNat + f ((z.toNat : Nat) : Int) = _
  rw [iz h]
theorem sumZ_c {f g : Int → Int} {z : Int} (h : ∀ i, 0 ≤ i → i < z → f i = g i) : sumZ f z = sumZ g z := by
  unfold sumZ
  have k : ∀ n : Nat, (∀ i : Int, 0 ≤ i → i < n → f i = g i) → sumN f n = sumN g n := by
    intro n
    induction n with
    | zero => intro _; rfl
    | succ n ih =>
      intro hn
      show sumN f n + f n = sumN g n + g n
      rw [ih (fun i h0 h1 => hn i h0 (by omega)), hn n (by omega) (by omega)]
  exact k _ (fun i h0 h1 => h i h0 (by omega))
theorem sumZ_b {f : Int → Int} {z b : Int} (hz : 0 ≤ z) (h : ∀ i, 0 ≤ i → i < z → 0 ≤ f i ∧ f i ≤ b) : 0 ≤ sumZ f z ∧ sumZ f z ≤ b * z := by
  have k : ∀ n : Nat, (∀ i : Int, 0 ≤ i → i < n → 0 ≤ f i ∧ f i ≤ b) → 0 ≤ sumN f n ∧ sumN f n ≤ b * (n : Int) := by
    intro n
    induction n with
    | zero => intro _; exact ⟨Int.le_refl _, by simp [sumN]⟩
    | succ n ih =>
      intro hn
      obtain ⟨h1, h2⟩ := ih (fun i h0 h1 => hn i h0 (by omega))
      obtain ⟨h3, h4⟩ := hn n (by omega) (by omega)
      have e : b * ((n + 1 : Nat) : Int) = b * (n : Int) + b := by rw [Int.natCast_add, Int.mul_add]; simp
      refine ⟨?_, ?_⟩
      · show 0 ≤ sumN f n + f n
        omega
      · show sumN f n + f n ≤ _
        rw [e]
        omega
  have := k z.toNat (fun i h0 h1 => h i h0 (by omega))
  rw [iz hz] at this
  exact this
theorem shC_b {n : Int} (h0 : 0 ≤ n) (h1 : n ≤ 80) : 0 ≤ shC n ∧ shC n ≤ 3 := by unfold shC; constructor <;> omega
theorem pg_b {S s q : Int} (h0 : 0 ≤ s) (h1 : s < S) (hq : 0 ≤ q ∧ q ≤ 3) (hS : S ≤ 3) : 0 ≤ pgA S s q ∧ pgA S s q ≤ 4 * S - 1 := by
  unfold pgA
  split
  · omega
  · split
    · omega
    · split <;> omega
/-- codes in range: what an array of codes may hold -/
def xCd (τ : xS) : Prop := ∀ t p, -1 ≤ τ 0 t p ∧ τ 0 t p ≤ 128527
theorem tAt_b {τ : xS} (h : xCd τ) (t p : Int) : -1 ≤ tAt τ t p ∧ tAt τ t p ≤ 128527 := by
  unfold tAt
  split
  · exact h t p
  · omega
theorem cOn_b {τ : xS} (h : xCd τ) (d s k : Int) : -1 ≤ cOn τ d s k ∧ cOn τ d s k ≤ 128527 := tAt_b h _ _
/-- a document that stands, its sheets counted -/
def dOK (τ : xS) (d : Int) : Prop := 0 ≤ d ∧ d < τ 30 0 0 ∧ τ 24 d 0 = shT τ d ∧ 0 ≤ τ 1 (2 * d + 1) 0 ∧ τ 1 (2 * d + 1) 0 ≤ 80
theorem dOK.sh {τ : xS} {d : Int} (h : dOK τ d) : 0 ≤ shT τ d ∧ shT τ d ≤ 3 := shC_b h.2.2.2.1 h.2.2.2.2
theorem dOK.c {τ τ2 : xS} {d : Int} (h : dOK τ d) (h30 : τ2 30 = τ 30) (h24 : τ2 24 = τ 24) (h1 : τ2 1 = τ 1) : dOK τ2 d := by
  unfold dOK shT at *
  rw [h30, h24, h1]
  exact h
theorem shT_c {τ τ2 : xS} {d : Int} (h1 : τ2 1 = τ 1) : shT τ2 d = shT τ d := by unfold shT; rw [h1]
theorem cOn_c {τ τ2 : xS} {d s k : Int} (h0 : τ2 0 = τ 0) (h1 : τ2 1 = τ 1) : cOn τ2 d s k = cOn τ d s k := by
  unfold cOn tAt
  rw [shT_c h1, h0, h1]
/-- a row overwritten up to n -/
def rwU (f g : Int → Int) (n : Int) : Int → Int := fun k => if 0 ≤ k ∧ k < n then g k else f k
theorem rwU_0 {f g : Int → Int} : rwU f g 0 = f := by
  funext k
  unfold rwU
  rw [if_neg (by omega)]
theorem rwU_s {τ : xS} {r : Nat} {i n : Int} {f g : Int → Int} (h : 0 ≤ n) : up (upR τ r i (rwU f g n)) r i n (g n) = upR τ r i (rwU f g (n + 1)) := by
  rw [up_upR]
  congr 1
  funext k
  unfold rwU
  by_cases hk : k = n
  · subst hk
    rw [if_pos rfl, if_pos ⟨h, by omega⟩]
  · rw [if_neg hk]
    by_cases hk2 : 0 ≤ k ∧ k < n
    · rw [if_pos hk2, if_pos ⟨hk2.1, by omega⟩]
    · rw [if_neg hk2, if_neg (by omega)]
/-- what was printed for a sheet is what the proof shows on it now -/
def smA (τ : xS) (i d s : Int) : Prop := ∀ k, 0 ≤ k → k < 32 → τ 16 i k = cOn τ d s k
/-! edits of a text's row -/
def shR (f : Int → Int) (i n : Int) : Int → Int := fun q => if i < q ∧ q ≤ n then f (q - 1) else f q
def insR (f : Int → Int) (n p c : Int) : Int → Int := fun q => if q = p then c else if p < q ∧ q ≤ n then f (q - 1) else f q
def dlR (f : Int → Int) (p i : Int) : Int → Int := fun q => if p ≤ q ∧ q < i then f (q + 1) else f q
theorem shR_0 {f : Int → Int} {n : Int} : shR f n n = f := by
  funext q
  unfold shR
  rw [if_neg (by omega)]
theorem shR_s {τ : xS} {t i n : Int} {f : Int → Int} (h : i ≤ n) : up (upR τ 0 t (shR f i n)) 0 t i (f (i - 1)) = upR τ 0 t (shR f (i - 1) n) := by
  rw [up_upR]
  congr 1
  funext q
  unfold shR
  by_cases hq : q = i
  · subst hq
    rw [if_pos rfl, if_pos (by omega)]
  · rw [if_neg hq]
    by_cases h2 : i < q ∧ q ≤ n
    · rw [if_pos h2, if_pos (by omega)]
    · rw [if_neg h2, if_neg (by omega)]
theorem insR_e {τ : xS} {t p n c : Int} {f : Int → Int} : up (upR τ 0 t (shR f p n)) 0 t p c = upR τ 0 t (insR f n p c) := by
  rw [up_upR]
  rfl
theorem dlR_0 {f : Int → Int} {p : Int} : dlR f p p = f := by
  funext q
  unfold dlR
  rw [if_neg (by omega)]
theorem dlR_s {τ : xS} {t i p : Int} {f : Int → Int} (h : p ≤ i) : up (upR τ 0 t (dlR f p i)) 0 t i (f (i + 1)) = upR τ 0 t (dlR f p (i + 1)) := by
  rw [up_upR]
  congr 1
  funext q
  unfold dlR
  by_cases hq : q = i
  · subst hq
    rw [if_pos rfl, if_pos (by omega)]
  · rw [if_neg hq]
    by_cases h2 : p ≤ q ∧ q < i
    · rw [if_pos h2, if_pos (by omega)]
    · rw [if_neg h2, if_neg (by omega)]
/-- an insertion into a text; a deletion; a proof made; what leaves the press -/
def pinS (τ : xS) (t p c : Int) : xS := up (upR τ 0 t (insR (τ 0 t) (τ 1 t 0) p c)) 1 t 0 (τ 1 t 0 + 1)
def pouS (τ : xS) (t p : Int) : xS := upR (up τ 1 t 0 (τ 1 t 0 - 1)) 0 t (dlR (τ 0 t) p (τ 1 t 0 - 1))
def becS (τ : xS) (t u : Int) : xS := upR (up τ 1 t 0 (τ 1 u 0)) 0 t (rwU (τ 0 t) (τ 0 u) (τ 1 u 0))
def mkpS (τ : xS) (d : Int) : xS := up (up (becS τ (2 * d + 1) (2 * d)) 3 d 0 (τ 2 d 0)) 24 d 0 (shC (τ 1 (2 * d) 0))
def tpS (τ : xS) (o s : Int) : xS := up (upR (if τ 26 (3 * o + s) 0 = 0 then τ else up τ 25 o 0 (τ 25 o 0 + τ 10 o 0)) 16 (3 * o + s) (rwU (τ 16 (3 * o + s)) (τ 18 0) 32)) 26 (3 * o + s) 0 1
def unlS (τ : xS) : xS := up (tpS τ (τ 35 0 0) (τ 36 0 0)) 35 0 0 (-1)
def ldS (τ : xS) (o s h : Int) : xS := upR (up (up (up (up τ 35 0 0 o) 36 0 0 s) 37 0 0 h) 38 0 0 (pgA (shT τ (τ 9 o 0)) s 0)) 18 0 (rwU (τ 18 0) (cOn τ (τ 9 o 0) s) 32)
/-- a plate: the codes from the last place to the first that are there -/
noncomputable def plC (cd : Int → Int) (m : Int) : Int := sumZ (fun j => bI (cd (31 - j) ≠ -1)) m
noncomputable def plN (f cd : Int → Int) : Nat → Int → Int
  | 0 => f
  | n + 1 => if cd (31 - (n : Int)) = -1 then plN f cd n else fun q => if q = plC cd n then cd (31 - (n : Int)) else plN f cd n q
noncomputable def plR (f cd : Int → Int) (m : Int) : Int → Int := plN f cd m.toNat
theorem plR_0 {f cd : Int → Int} : plR f cd 0 = f := rfl
theorem plR_s {f cd : Int → Int} {m : Int} (h : 0 ≤ m) : plR f cd (m + 1) = if cd (31 - m) = -1 then plR f cd m else fun q => if q = plC cd m then cd (31 - m) else plR f cd m q := by
  unfold plR
  rw [show (m + 1).toNat = m.toNat + 1 by omega]
  show (if cd (31 - ((m.toNat : Nat) : Int)) = -1 then plN f cd m.toNat else fun q => if q = plC cd ((m.toNat : Nat) : Int) then cd (31 - ((m.toNat : Nat) : Int)) else plN f cd m.toNat q) = _
  rw [iz h]
theorem plC_0 {cd : Int → Int} : plC cd 0 = 0 := rfl
theorem plC_s {cd : Int → Int} {m : Int} (h : 0 ≤ m) : plC cd (m + 1) = if cd (31 - m) = -1 then plC cd m else plC cd m + 1 := by
  unfold plC
  rw [sumZ_s h]
  by_cases e : cd (31 - m) = -1
  · rw [if_pos e, bI_f (fun q => q e)]; omega
  · rw [if_neg e, bI_t e]
theorem plC_b {cd : Int → Int} {m : Int} (h : 0 ≤ m) : 0 ≤ plC cd m ∧ plC cd m ≤ m := by
  have := sumZ_b (f := fun j => bI (cd (31 - j) ≠ -1)) (b := 1) h (fun i _ _ => bI_01 _)
  unfold plC
  omega
theorem plC_m {cd : Int → Int} {m n : Int} (h0 : 0 ≤ m) (h : m ≤ n) : plC cd m ≤ plC cd n := by
  have k : ∀ j : Nat, plC cd m ≤ plC cd (m + (j : Int)) := by
    intro j
    induction j with
    | zero => simp
    | succ j ih =>
      rw [show m + ((j + 1 : Nat) : Int) = m + (j : Int) + 1 by omega, plC_s (by omega)]
      split <;> omega
  have := k (n - m).toNat
  rw [iz (by omega)] at this
  rwa [show m + (n - m) = n by omega] at this
theorem plR_k {f cd : Int → Int} {m n q : Int} (h0 : 0 ≤ m) (h : m ≤ n) (hq : q < plC cd m) : plR f cd n q = plR f cd m q := by
  have k : ∀ j : Nat, plR f cd (m + (j : Int)) q = plR f cd m q := by
    intro j
    induction j with
    | zero => simp
    | succ j ih =>
      rw [show m + ((j + 1 : Nat) : Int) = m + (j : Int) + 1 by omega, plR_s (by omega)]
      split
      · exact ih
      · have := plC_m (cd := cd) (m := m) (n := m + (j : Int)) h0 (by omega)
        show (if q = plC cd (m + (j : Int)) then _ else plR f cd (m + (j : Int)) q) = _
        rw [if_neg (by omega)]
        exact ih
  have := k (n - m).toNat
  rw [iz (by omega)] at this
  rwa [show m + (n - m) = n by omega] at this
theorem plR_f {f g cd : Int → Int} {m : Int} (h : 0 ≤ m) : plR f cd m = rwU f (plR g cd m) (plC cd m) := by
  have k : ∀ j : Nat, plR f cd (j : Int) = rwU f (plR g cd (j : Int)) (plC cd (j : Int)) := by
    intro j
    induction j with
    | zero => exact rwU_0.symm
    | succ j ih =>
      rw [show ((j + 1 : Nat) : Int) = (j : Int) + 1 by omega, plR_s (by omega), plR_s (by omega), plC_s (by omega)]
      split
      · exact ih
      · funext q
        have := plC_b (cd := cd) (m := (j : Int)) (by omega)
        unfold rwU
        by_cases hq : q = plC cd (j : Int)
        · rw [if_pos hq, if_pos (by omega)]
          exact (if_pos hq).symm
        · rw [if_neg hq, ih]
          unfold rwU
          by_cases h2 : 0 ≤ q ∧ q < plC cd (j : Int)
          · rw [if_pos h2, if_pos (by omega)]
            exact (if_neg hq).symm
          · rw [if_neg h2, if_neg (by omega)]
  have := k m.toNat
  rwa [iz h] at this
theorem plR_b {f cd : Int → Int} (hf : ∀ q, -1 ≤ f q ∧ f q ≤ 128527) (hc : ∀ k, -1 ≤ cd k ∧ cd k ≤ 128527) (m q : Int) : -1 ≤ plR f cd m q ∧ plR f cd m q ≤ 128527 := by
  have k : ∀ j : Nat, ∀ q, -1 ≤ plN f cd j q ∧ plN f cd j q ≤ 128527 := by
    intro j
    induction j with
    | zero => exact hf
    | succ j ih =>
      intro q
      unfold plN
      split
      · exact ih q
      · show -1 ≤ (if q = plC cd j then cd (31 - (j : Int)) else plN f cd j q) ∧ (if q = plC cd j then cd (31 - (j : Int)) else plN f cd j q) ≤ 128527
        split
        · exact hc _
        · exact ih q
  exact k _ q
noncomputable def plS (τ : xS) (i d s : Int) (m : Int) : xS := upR (up τ 27 i 0 (plC (cOn τ d s) m)) 17 i (plR (τ 17 i) (cOn τ d s) m)
def hasP (τ : xS) (i d s : Int) : Prop := τ 28 i 0 = 1 ∧ plC (cOn τ d s) 32 = τ 27 i 0 ∧ ∀ q, 0 ≤ q → q < plC (cOn τ d s) 32 → τ 17 i q = plR (fun _ => 0) (cOn τ d s) 32 q
theorem plS_s {τ : xS} {i d s m : Int} (h : 0 ≤ m) : plS τ i d s (m + 1) = if cOn τ d s (31 - m) = -1 then plS τ i d s m else up (up (plS τ i d s m) 17 i (plC (cOn τ d s) m) (cOn τ d s (31 - m))) 27 i 0 (plC (cOn τ d s) m + 1) := by
  unfold plS
  rw [plR_s h, plC_s h]
  split
  · rfl
  · funext r a b
    unfold up upR
    by_cases h1 : r = 17 ∧ a = i
    · obtain ⟨rfl, rfl⟩ := h1
      by_cases h2 : b = plC (cOn τ d s) m
      · subst h2; simp
      · simp [h2]
    · by_cases h3 : r = 27 ∧ a = i ∧ b = 0
      · obtain ⟨rfl, rfl, rfl⟩ := h3
        simp
      · have h4 : ¬ (r = 17 ∧ a = i ∧ b = plC (cOn τ d s) m) := fun q => h1 ⟨q.1, q.2.1⟩
        simp only [h1, h3, h4, if_false]
