/-! what holds of the state behind n calls, part by part -/
def wzA (n : Int) : Int := if 1 < n then n - 1 else 0
def wsA (τ : xS) (o : Int) : Int := τ 10 o 0 * (wzA (τ 14 (3 * o) 0) + wzA (τ 14 (3 * o + 1) 0) + wzA (τ 14 (3 * o + 2) 0))
/-- the log of the edits of a document, from its end back: what stood at a place -/
def lgN (τ : xS) (d : Int) : Nat → Int → Int
  | 0, _ => -1
  | n + 1, p => if τ 21 0 n = d then (if τ 20 0 n = 0 then (if τ 22 0 n = p then τ 23 0 n else if τ 22 0 n < p then lgN τ d n (p - 1) else lgN τ d n p) else if τ 20 0 n = 1 then (if τ 22 0 n ≤ p then lgN τ d n (p + 1) else lgN τ d n p) else lgN τ d n p) else lgN τ d n p
def lgC (τ : xS) (d : Int) : Nat → Int
  | 0 => 0
  | n + 1 => if τ 21 0 n = d then (if τ 20 0 n = 0 then lgC τ d n + 1 else if τ 20 0 n = 1 then lgC τ d n - 1 else lgC τ d n) else lgC τ d n
/-- the log tells the texts and, up to the last signature, the proofs -/
def lgI (τ : xS) : Prop :=
  (∀ j, 0 ≤ j → j < τ 41 0 0 → (0 ≤ τ 20 0 j ∧ τ 20 0 j ≤ 2) ∧ (0 ≤ τ 21 0 j ∧ τ 21 0 j ≤ 3) ∧ (0 ≤ τ 22 0 j ∧ τ 22 0 j ≤ 80) ∧ (-1 ≤ τ 23 0 j ∧ τ 23 0 j ≤ 128527)) ∧
  (∀ d, 0 ≤ d → d < τ 30 0 0 → lgC τ d (τ 41 0 0).toNat = τ 1 (2 * d) 0 ∧ (∀ p, 0 ≤ p → p < τ 1 (2 * d) 0 → lgN τ d (τ 41 0 0).toNat p = τ 0 (2 * d) p)) ∧
  (∀ d, 0 ≤ d → d < τ 30 0 0 → τ 3 d 0 ≠ -1 → ∃ e, 0 ≤ e ∧ e < τ 41 0 0 ∧ τ 21 0 e = d ∧ τ 20 0 e = 2 ∧ (∀ j, e < j → j < τ 41 0 0 → ¬ (τ 21 0 j = d ∧ τ 20 0 j = 2)) ∧ lgC τ d e.toNat = τ 1 (2 * d + 1) 0 ∧ (∀ p, 0 ≤ p → p < τ 1 (2 * d + 1) 0 → lgN τ d e.toNat p = τ 0 (2 * d + 1) p)) ∧
  (∀ d, τ 30 0 0 ≤ d → ∀ j, 0 ≤ j → j < τ 41 0 0 → τ 21 0 j ≠ d)
def xI (n : Int) (τ : xS) : Prop := (0 ≤ n ∧ n ≤ 512) ∧ (∀ t p, -1 ≤ τ 0 t p ∧ τ 0 t p ≤ 128527) ∧ (∀ i j, 0 ≤ τ 1 i j ∧ τ 1 i j ≤ 80) ∧ (∀ i j, 0 ≤ τ 2 i j ∧ τ 2 i j ≤ n) ∧ (∀ i j, -1 ≤ τ 3 i j ∧ τ 3 i j ≤ n) ∧ (∀ i j, 0 ≤ τ 4 i j ∧ τ 4 i j ≤ 999) ∧ (∀ i, 0 ≤ i → i < τ 31 0 0 → 0 ≤ τ 5 i 0 ∧ τ 5 i 0 < τ 30 0 0) ∧ (∀ i j, 0 ≤ τ 6 i j ∧ τ 6 i j ≤ 80) ∧ (∀ i j, 0 ≤ τ 7 i j ∧ τ 7 i j ≤ 80) ∧ (∀ i j, τ 8 i j = 0 ∨ τ 8 i j = 1) ∧ (∀ i, 0 ≤ i → i < τ 32 0 0 → 0 ≤ τ 9 i 0 ∧ τ 9 i 0 < τ 30 0 0 ∧ 1 ≤ shT τ (τ 9 i 0)) ∧ (∀ i j, 0 ≤ τ 10 i j ∧ τ 10 i j ≤ 500) ∧ (∀ i j, 0 ≤ τ 11 i j ∧ τ 11 i j ≤ 999) ∧ (∀ i j, 0 ≤ τ 12 i j ∧ τ 12 i j ≤ 500 * n) ∧ (∀ i j, 0 ≤ τ 13 i j ∧ τ 13 i j ≤ n) ∧ (∀ i j, 0 ≤ τ 14 i j ∧ τ 14 i j ≤ n) ∧ (∀ i j, -1 ≤ τ 15 i j ∧ τ 15 i j ≤ 32) ∧ (∀ i k, -1 ≤ τ 16 i k ∧ τ 16 i k ≤ 128527) ∧ (∀ i k, -1 ≤ τ 17 i k ∧ τ 17 i k ≤ 128527) ∧ (∀ i k, -1 ≤ τ 18 i k ∧ τ 18 i k ≤ 128527) ∧ (0 ≤ τ 30 0 0 ∧ τ 30 0 0 ≤ 3) ∧ (0 ≤ τ 31 0 0 ∧ τ 31 0 0 ≤ 8) ∧ (0 ≤ τ 32 0 0 ∧ τ 32 0 0 ≤ 6) ∧ (0 ≤ τ 33 0 0 ∧ τ 33 0 0 ≤ 99999) ∧ (0 ≤ τ 34 0 0 ∧ τ 34 0 0 ≤ 999) ∧ (τ 35 0 0 = -1 ∨ 0 ≤ τ 35 0 0 ∧ τ 35 0 0 < τ 32 0 0) ∧ (τ 35 0 0 ≠ -1 → τ 39 0 0 < τ 37 0 0) ∧ (0 ≤ τ 36 0 0 ∧ τ 36 0 0 < 3) ∧ (0 ≤ τ 37 0 0 ∧ τ 37 0 0 ≤ 2000) ∧ (0 ≤ τ 38 0 0 ∧ τ 38 0 0 ≤ 100) ∧ (0 ≤ τ 39 0 0 ∧ τ 39 0 0 ≤ 999) ∧ (0 ≤ τ 41 0 0 ∧ τ 41 0 0 ≤ n) ∧ (∀ i, τ 24 i 0 = shT τ i) ∧ (∀ o, τ 25 o 0 = wsA τ o) ∧ (∀ i, τ 26 i 0 = if τ 14 i 0 = 0 then 0 else 1) ∧ (∀ i, 0 ≤ τ 27 i 0 ∧ τ 27 i 0 ≤ 32) ∧ (∀ i j, τ 28 i j = 0 ∨ τ 28 i j = 1) ∧ (∀ i, 0 ≤ i → i < 3 * τ 32 0 0 → (τ 28 i 0 = 1 ∧ τ 15 i 0 = τ 27 i 0) ∨ (τ 28 i 0 = 0 ∧ τ 15 i 0 = -1)) ∧ (∀ d, τ 30 0 0 ≤ d → τ 2 d 0 = 0 ∧ τ 1 (2 * d) 0 = 0 ∧ τ 1 (2 * d + 1) 0 = 0 ∧ ∀ p, τ 0 (2 * d) p = 0 ∧ τ 0 (2 * d + 1) p = 0) ∧ (∀ o, τ 32 0 0 ≤ o → τ 12 o 0 = 0 ∧ τ 13 o 0 = 0) ∧ (∀ i, 3 * τ 32 0 0 ≤ i → τ 14 i 0 = 0 ∧ τ 27 i 0 = 0 ∧ τ 28 i 0 = 0 ∧ ∀ k, τ 16 i k = 0 ∧ τ 17 i k = 0) ∧ (∀ d, 0 ≤ d → d < τ 30 0 0 → τ 3 d 0 ≠ -1 → 1 ≤ τ 1 (2 * d + 1) 0) ∧ (∀ c, 0 ≤ c → c < τ 31 0 0 → τ 8 c 0 = 1 → τ 6 c 0 < τ 7 c 0 ∧ τ 7 c 0 ≤ τ 1 (2 * τ 5 c 0) 0) ∧ (lgI τ)
theorem xI.n0 {n : Int} {τ : xS} (h : xI n τ) : 0 ≤ n ∧ n ≤ 512 := h.1
theorem xI.cd {n : Int} {τ : xS} (h : xI n τ) : ∀ t p, -1 ≤ τ 0 t p ∧ τ 0 t p ≤ 128527 := h.2.1
theorem xI.sz {n : Int} {τ : xS} (h : xI n τ) : ∀ i j, 0 ≤ τ 1 i j ∧ τ 1 i j ≤ 80 := h.2.2.1
theorem xI.ver {n : Int} {τ : xS} (h : xI n τ) : ∀ i j, 0 ≤ τ 2 i j ∧ τ 2 i j ≤ n := h.2.2.2.1
theorem xI.pv {n : Int} {τ : xS} (h : xI n τ) : ∀ i j, -1 ≤ τ 3 i j ∧ τ 3 i j ≤ n := h.2.2.2.2.1
theorem xI.cl {n : Int} {τ : xS} (h : xI n τ) : ∀ i j, 0 ≤ τ 4 i j ∧ τ 4 i j ≤ 999 := h.2.2.2.2.2.1
theorem xI.on {n : Int} {τ : xS} (h : xI n τ) : ∀ i, 0 ≤ i → i < τ 31 0 0 → 0 ≤ τ 5 i 0 ∧ τ 5 i 0 < τ 30 0 0 := h.2.2.2.2.2.2.1
theorem xI.fr {n : Int} {τ : xS} (h : xI n τ) : ∀ i j, 0 ≤ τ 6 i j ∧ τ 6 i j ≤ 80 := h.2.2.2.2.2.2.2.1
theorem xI.to {n : Int} {τ : xS} (h : xI n τ) : ∀ i j, 0 ≤ τ 7 i j ∧ τ 7 i j ≤ 80 := h.2.2.2.2.2.2.2.2.1
theorem xI.op {n : Int} {τ : xS} (h : xI n τ) : ∀ i j, τ 8 i j = 0 ∨ τ 8 i j = 1 := h.2.2.2.2.2.2.2.2.2.1
theorem xI.od {n : Int} {τ : xS} (h : xI n τ) : ∀ i, 0 ≤ i → i < τ 32 0 0 → 0 ≤ τ 9 i 0 ∧ τ 9 i 0 < τ 30 0 0 ∧ 1 ≤ shT τ (τ 9 i 0) := h.2.2.2.2.2.2.2.2.2.2.1
theorem xI.cp {n : Int} {τ : xS} (h : xI n τ) : ∀ i j, 0 ≤ τ 10 i j ∧ τ 10 i j ≤ 500 := h.2.2.2.2.2.2.2.2.2.2.2.1
theorem xI.du {n : Int} {τ : xS} (h : xI n τ) : ∀ i j, 0 ≤ τ 11 i j ∧ τ 11 i j ≤ 999 := h.2.2.2.2.2.2.2.2.2.2.2.2.1
theorem xI.pf {n : Int} {τ : xS} (h : xI n τ) : ∀ i j, 0 ≤ τ 12 i j ∧ τ 12 i j ≤ 500 * n := h.2.2.2.2.2.2.2.2.2.2.2.2.2.1
theorem xI.lf {n : Int} {τ : xS} (h : xI n τ) : ∀ i j, 0 ≤ τ 13 i j ∧ τ 13 i j ≤ n := h.2.2.2.2.2.2.2.2.2.2.2.2.2.2.1
theorem xI.pr {n : Int} {τ : xS} (h : xI n τ) : ∀ i j, 0 ≤ τ 14 i j ∧ τ 14 i j ≤ n := h.2.2.2.2.2.2.2.2.2.2.2.2.2.2.2.1
theorem xI.pl {n : Int} {τ : xS} (h : xI n τ) : ∀ i j, -1 ≤ τ 15 i j ∧ τ 15 i j ≤ 32 := h.2.2.2.2.2.2.2.2.2.2.2.2.2.2.2.2.1
theorem xI.pd {n : Int} {τ : xS} (h : xI n τ) : ∀ i k, -1 ≤ τ 16 i k ∧ τ 16 i k ≤ 128527 := h.2.2.2.2.2.2.2.2.2.2.2.2.2.2.2.2.2.1
theorem xI.pt {n : Int} {τ : xS} (h : xI n τ) : ∀ i k, -1 ≤ τ 17 i k ∧ τ 17 i k ≤ 128527 := h.2.2.2.2.2.2.2.2.2.2.2.2.2.2.2.2.2.2.1
theorem xI.im {n : Int} {τ : xS} (h : xI n τ) : ∀ i k, -1 ≤ τ 18 i k ∧ τ 18 i k ≤ 128527 := h.2.2.2.2.2.2.2.2.2.2.2.2.2.2.2.2.2.2.2.1
theorem xI.nd {n : Int} {τ : xS} (h : xI n τ) : 0 ≤ τ 30 0 0 ∧ τ 30 0 0 ≤ 3 := h.2.2.2.2.2.2.2.2.2.2.2.2.2.2.2.2.2.2.2.2.1
theorem xI.nc {n : Int} {τ : xS} (h : xI n τ) : 0 ≤ τ 31 0 0 ∧ τ 31 0 0 ≤ 8 := h.2.2.2.2.2.2.2.2.2.2.2.2.2.2.2.2.2.2.2.2.2.1
theorem xI.no {n : Int} {τ : xS} (h : xI n τ) : 0 ≤ τ 32 0 0 ∧ τ 32 0 0 ≤ 6 := h.2.2.2.2.2.2.2.2.2.2.2.2.2.2.2.2.2.2.2.2.2.2.1
theorem xI.pa {n : Int} {τ : xS} (h : xI n τ) : 0 ≤ τ 33 0 0 ∧ τ 33 0 0 ≤ 99999 := h.2.2.2.2.2.2.2.2.2.2.2.2.2.2.2.2.2.2.2.2.2.2.2.1
theorem xI.ls {n : Int} {τ : xS} (h : xI n τ) : 0 ≤ τ 34 0 0 ∧ τ 34 0 0 ≤ 999 := h.2.2.2.2.2.2.2.2.2.2.2.2.2.2.2.2.2.2.2.2.2.2.2.2.1
theorem xI.po {n : Int} {τ : xS} (h : xI n τ) : τ 35 0 0 = -1 ∨ 0 ≤ τ 35 0 0 ∧ τ 35 0 0 < τ 32 0 0 := h.2.2.2.2.2.2.2.2.2.2.2.2.2.2.2.2.2.2.2.2.2.2.2.2.2.1
theorem xI.ph {n : Int} {τ : xS} (h : xI n τ) : τ 35 0 0 ≠ -1 → τ 39 0 0 < τ 37 0 0 := h.2.2.2.2.2.2.2.2.2.2.2.2.2.2.2.2.2.2.2.2.2.2.2.2.2.2.1
theorem xI.ps {n : Int} {τ : xS} (h : xI n τ) : 0 ≤ τ 36 0 0 ∧ τ 36 0 0 < 3 := h.2.2.2.2.2.2.2.2.2.2.2.2.2.2.2.2.2.2.2.2.2.2.2.2.2.2.2.1
theorem xI.pu {n : Int} {τ : xS} (h : xI n τ) : 0 ≤ τ 37 0 0 ∧ τ 37 0 0 ≤ 2000 := h.2.2.2.2.2.2.2.2.2.2.2.2.2.2.2.2.2.2.2.2.2.2.2.2.2.2.2.2.1
theorem xI.pm {n : Int} {τ : xS} (h : xI n τ) : 0 ≤ τ 38 0 0 ∧ τ 38 0 0 ≤ 100 := h.2.2.2.2.2.2.2.2.2.2.2.2.2.2.2.2.2.2.2.2.2.2.2.2.2.2.2.2.2.1
theorem xI.hr {n : Int} {τ : xS} (h : xI n τ) : 0 ≤ τ 39 0 0 ∧ τ 39 0 0 ≤ 999 := h.2.2.2.2.2.2.2.2.2.2.2.2.2.2.2.2.2.2.2.2.2.2.2.2.2.2.2.2.2.2.1
theorem xI.lg {n : Int} {τ : xS} (h : xI n τ) : 0 ≤ τ 41 0 0 ∧ τ 41 0 0 ≤ n := h.2.2.2.2.2.2.2.2.2.2.2.2.2.2.2.2.2.2.2.2.2.2.2.2.2.2.2.2.2.2.2.1
theorem xI.sh {n : Int} {τ : xS} (h : xI n τ) : ∀ i, τ 24 i 0 = shT τ i := h.2.2.2.2.2.2.2.2.2.2.2.2.2.2.2.2.2.2.2.2.2.2.2.2.2.2.2.2.2.2.2.2.1
theorem xI.wa {n : Int} {τ : xS} (h : xI n τ) : ∀ o, τ 25 o 0 = wsA τ o := h.2.2.2.2.2.2.2.2.2.2.2.2.2.2.2.2.2.2.2.2.2.2.2.2.2.2.2.2.2.2.2.2.2.1
theorem xI.ip {n : Int} {τ : xS} (h : xI n τ) : ∀ i, τ 26 i 0 = if τ 14 i 0 = 0 then 0 else 1 := h.2.2.2.2.2.2.2.2.2.2.2.2.2.2.2.2.2.2.2.2.2.2.2.2.2.2.2.2.2.2.2.2.2.2.1
theorem xI.zs {n : Int} {τ : xS} (h : xI n τ) : ∀ i, 0 ≤ τ 27 i 0 ∧ τ 27 i 0 ≤ 32 := h.2.2.2.2.2.2.2.2.2.2.2.2.2.2.2.2.2.2.2.2.2.2.2.2.2.2.2.2.2.2.2.2.2.2.2.1
theorem xI.hp {n : Int} {τ : xS} (h : xI n τ) : ∀ i j, τ 28 i j = 0 ∨ τ 28 i j = 1 := h.2.2.2.2.2.2.2.2.2.2.2.2.2.2.2.2.2.2.2.2.2.2.2.2.2.2.2.2.2.2.2.2.2.2.2.2.1
theorem xI.hl {n : Int} {τ : xS} (h : xI n τ) : ∀ i, 0 ≤ i → i < 3 * τ 32 0 0 → (τ 28 i 0 = 1 ∧ τ 15 i 0 = τ 27 i 0) ∨ (τ 28 i 0 = 0 ∧ τ 15 i 0 = -1) := h.2.2.2.2.2.2.2.2.2.2.2.2.2.2.2.2.2.2.2.2.2.2.2.2.2.2.2.2.2.2.2.2.2.2.2.2.2.1
theorem xI.vd {n : Int} {τ : xS} (h : xI n τ) : ∀ d, τ 30 0 0 ≤ d → τ 2 d 0 = 0 ∧ τ 1 (2 * d) 0 = 0 ∧ τ 1 (2 * d + 1) 0 = 0 ∧ ∀ p, τ 0 (2 * d) p = 0 ∧ τ 0 (2 * d + 1) p = 0 := h.2.2.2.2.2.2.2.2.2.2.2.2.2.2.2.2.2.2.2.2.2.2.2.2.2.2.2.2.2.2.2.2.2.2.2.2.2.2.1
theorem xI.vo {n : Int} {τ : xS} (h : xI n τ) : ∀ o, τ 32 0 0 ≤ o → τ 12 o 0 = 0 ∧ τ 13 o 0 = 0 := h.2.2.2.2.2.2.2.2.2.2.2.2.2.2.2.2.2.2.2.2.2.2.2.2.2.2.2.2.2.2.2.2.2.2.2.2.2.2.2.1
theorem xI.vi {n : Int} {τ : xS} (h : xI n τ) : ∀ i, 3 * τ 32 0 0 ≤ i → τ 14 i 0 = 0 ∧ τ 27 i 0 = 0 ∧ τ 28 i 0 = 0 ∧ ∀ k, τ 16 i k = 0 ∧ τ 17 i k = 0 := h.2.2.2.2.2.2.2.2.2.2.2.2.2.2.2.2.2.2.2.2.2.2.2.2.2.2.2.2.2.2.2.2.2.2.2.2.2.2.2.2.1
theorem xI.pe {n : Int} {τ : xS} (h : xI n τ) : ∀ d, 0 ≤ d → d < τ 30 0 0 → τ 3 d 0 ≠ -1 → 1 ≤ τ 1 (2 * d + 1) 0 := h.2.2.2.2.2.2.2.2.2.2.2.2.2.2.2.2.2.2.2.2.2.2.2.2.2.2.2.2.2.2.2.2.2.2.2.2.2.2.2.2.2.1
theorem xI.sp {n : Int} {τ : xS} (h : xI n τ) : ∀ c, 0 ≤ c → c < τ 31 0 0 → τ 8 c 0 = 1 → τ 6 c 0 < τ 7 c 0 ∧ τ 7 c 0 ≤ τ 1 (2 * τ 5 c 0) 0 := h.2.2.2.2.2.2.2.2.2.2.2.2.2.2.2.2.2.2.2.2.2.2.2.2.2.2.2.2.2.2.2.2.2.2.2.2.2.2.2.2.2.2.1
theorem xI.li {n : Int} {τ : xS} (h : xI n τ) : lgI τ := h.2.2.2.2.2.2.2.2.2.2.2.2.2.2.2.2.2.2.2.2.2.2.2.2.2.2.2.2.2.2.2.2.2.2.2.2.2.2.2.2.2.2.2
theorem xI.dok {n : Int} {τ : xS} (h : xI n τ) {d : Int} (h0 : 0 ≤ d) (h1 : d < τ 30 0 0) : dOK τ d := ⟨h0, h1, h.sh d, h.sz _ _⟩
theorem xI.sb {n : Int} {τ : xS} (h : xI n τ) (d : Int) : 0 ≤ shT τ d ∧ shT τ d ≤ 3 := shC_b (h.sz _ _).1 (h.sz _ _).2
/-! exceptions by their place in a method's list -/
abbrev eI : String := "java/lang/IndexOutOfBoundsException"
abbrev eA : String := "java/lang/IllegalArgumentException"
abbrev eS : String := "java/lang/IllegalStateException"
abbrev eU : String := "java/lang/UnsupportedOperationException"
abbrev eM : String := "java/lang/ArithmeticException"
def exn (L : List String) (k : Int) : Option String := if k ≤ 0 then none else L[(k - 1).toNat]?
theorem narC {z : Int} (h0 : 0 ≤ z) (h1 : z < 65536) : narrow .char (.int (iI z)) = .int (iI z) := by
  obtain ⟨q, rfl⟩ : ∃ q : Nat, z = (q : Int) := ⟨z.toNat, (iz h0).symm⟩
  have h := (pk_charN (q := q) (by omega)).1
  unfold iI
  rw [Int32.ofInt_eq_ofNat]
  exact h
/-! the answers -/
noncomputable def stA (τ : xS) (o s : Int) : Int := if τ 35 0 0 = o ∧ τ 36 0 0 = s then 111 else if τ 14 (3 * o + s) 0 = 0 then 119 else pk (smA τ (3 * o + s) (τ 9 o 0) s) 112 115
theorem stA_v (τ : xS) (o s : Int) : stA τ o s = 111 ∨ stA τ o s = 119 ∨ stA τ o s = 112 ∨ stA τ o s = 115 := by
  unfold stA
  split
  · exact Or.inl rfl
  · split
    · exact Or.inr (Or.inl rfl)
    · by_cases h : smA τ (3 * o + s) (τ 9 o 0) s
      · rw [pk_t h]; exact Or.inr (Or.inr (Or.inl rfl))
      · rw [pk_f h]; exact Or.inr (Or.inr (Or.inr rfl))
noncomputable def gdA (τ : xS) (o : Int) (z : Int) : Int := sumZ (fun s => bI (stA τ o s = 112)) z
noncomputable def toA (τ : xS) (o : Int) (z : Int) : Int := sumZ (fun s => bI (stA τ o s = 119 ∨ stA τ o s = 115)) z
noncomputable def ndA (τ : xS) (o : Int) : Int := τ 10 o 0 * toA τ o (shT τ (τ 9 o 0))
noncomputable def frA (τ : xS) (z : Int) : Int := τ 33 0 0 - sumZ (ndA τ) z
def alA (τ : xS) (o : Int) : Prop := gdA τ o (shT τ (τ 9 o 0)) = shT τ (τ 9 o 0)
theorem gdA_b (τ : xS) (o : Int) {z : Int} (h : 0 ≤ z) : 0 ≤ gdA τ o z ∧ gdA τ o z ≤ z := by
  have := sumZ_b (f := fun s => bI (stA τ o s = 112)) (b := 1) h (fun i _ _ => bI_01 _)
  unfold gdA; omega
theorem toA_b (τ : xS) (o : Int) {z : Int} (h : 0 ≤ z) : 0 ≤ toA τ o z ∧ toA τ o z ≤ z := by
  have := sumZ_b (f := fun s => bI (stA τ o s = 119 ∨ stA τ o s = 115)) (b := 1) h (fun i _ _ => bI_01 _)
  unfold toA; omega
theorem mul_b {a b x y : Int} (hx : 0 ≤ x ∧ x ≤ a) (hy : 0 ≤ y ∧ y ≤ b) : 0 ≤ x * y ∧ x * y ≤ a * b :=
  ⟨Int.mul_nonneg hx.1 hy.1, Int.le_trans (Int.mul_le_mul_of_nonneg_right hx.2 hy.1) (Int.mul_le_mul_of_nonneg_left hy.2 (Int.le_trans hx.1 hx.2))⟩
theorem ndA_b {n : Int} {τ : xS} (I : xI n τ) (o : Int) : 0 ≤ ndA τ o ∧ ndA τ o ≤ 1500 := by
  have h1 := toA_b τ o (I.sb (τ 9 o 0)).1
  have h2 := I.sb (τ 9 o 0)
  have := mul_b (x := τ 10 o 0) (y := toA τ o (shT τ (τ 9 o 0))) (a := 500) (b := 3) (I.cp o 0) ⟨h1.1, by omega⟩
  unfold ndA; omega
theorem frA_b {n : Int} {τ : xS} (I : xI n τ) {z : Int} (h : 0 ≤ z) (h6 : z ≤ 6) : -9000 ≤ frA τ z ∧ frA τ z ≤ 99999 := by
  have := sumZ_b (f := ndA τ) (b := 1500) h (fun i _ _ => ndA_b I i)
  have := I.pa
  unfold frA; omega
def fzP (τ : xS) (d p b c : Int) : Prop := τ 8 c 0 = 1 ∧ τ 5 c 0 = d ∧ τ 6 c 0 + b ≤ p ∧ p < τ 7 c 0
def fzA (τ : xS) (d p b : Int) : Prop := ∃ c, 0 ≤ c ∧ c < τ 31 0 0 ∧ fzP τ d p b c
def lkA (τ : xS) (d p : Int) : Prop := τ 35 0 0 ≠ -1 ∧ τ 9 (τ 35 0 0) 0 = d ∧ p / 8 ≤ τ 38 0 0
noncomputable def brA (τ : xS) (d p b : Int) : Int := if τ 4 d 0 ≤ τ 39 0 0 then 99 else pk (fzA τ d p b) 102 (pk (lkA τ d p) 108 45)
theorem brA_v (τ : xS) (d p b : Int) : brA τ d p b = 99 ∨ brA τ d p b = 102 ∨ brA τ d p b = 108 ∨ brA τ d p b = 45 := by
  unfold brA
  split
  · exact Or.inl rfl
  · by_cases h : fzA τ d p b
    · rw [pk_t h]; exact Or.inr (Or.inl rfl)
    · rw [pk_f h]
      by_cases h2 : lkA τ d p
      · rw [pk_t h2]; exact Or.inr (Or.inr (Or.inl rfl))
      · rw [pk_f h2]; exact Or.inr (Or.inr (Or.inr rfl))
noncomputable def opA (τ : xS) (d z : Int) : Int := sumZ (fun c => bI (τ 8 c 0 = 1 ∧ τ 5 c 0 = d)) z
theorem opA_b (τ : xS) (d : Int) {z : Int} (h : 0 ≤ z) : 0 ≤ opA τ d z ∧ opA τ d z ≤ z := by
  have := sumZ_b (f := fun c => bI (τ 8 c 0 = 1 ∧ τ 5 c 0 = d)) (b := 1) h (fun i _ _ => bI_01 _)
  unfold opA; omega
/-- spans moved by an edit, of the first n comments -/
def mvC (τ : xS) (d p k i : Int) : Prop := τ 8 i 0 = 1 ∧ τ 5 i 0 = d ∧ p + k ≤ τ 6 i 0
noncomputable def mvS (τ : xS) (d p k by_ n : Int) : xS := fun r i j => pk ((r = 6 ∨ r = 7) ∧ j = 0 ∧ 0 ≤ i ∧ i < n ∧ mvC τ d p k i) (τ r i j + by_) (τ r i j)
theorem mvS_0 {τ : xS} {d p k b : Int} : mvS τ d p k b 0 = τ := by
  funext r i j
  unfold mvS
  exact pk_f (fun q => by omega)
theorem mvS_r {τ : xS} {d p k b n : Int} {r : Nat} (h6 : r ≠ 6) (h7 : r ≠ 7) : mvS τ d p k b n r = τ r := by
  funext i j
  unfold mvS
  exact pk_f (fun q => by omega)
theorem mvS_hi {τ : xS} {d p k b n : Int} {r : Nat} {i j : Int} (h : n ≤ i) : mvS τ d p k b n r i j = τ r i j := by
  unfold mvS
  exact pk_f (fun q => by omega)
theorem mvS_n {τ : xS} {d p k b n : Int} (h : 0 ≤ n) (hc : ¬ mvC τ d p k n) : mvS τ d p k b (n + 1) = mvS τ d p k b n := by
  funext r i j
  unfold mvS
  by_cases e : i = n
  · subst e
    rw [pk_f (fun q => hc q.2.2.2.2), pk_f (fun q => hc q.2.2.2.2)]
  · by_cases g : (r = 6 ∨ r = 7) ∧ j = 0 ∧ 0 ≤ i ∧ i < n ∧ mvC τ d p k i
    · rw [pk_t g, pk_t ⟨g.1, g.2.1, g.2.2.1, by omega, g.2.2.2.2⟩]
    · rw [pk_f g, pk_f (fun q => g ⟨q.1, q.2.1, q.2.2.1, by omega, q.2.2.2.2⟩)]
theorem mvS_y {τ : xS} {d p k b n : Int} (h : 0 ≤ n) (hc : mvC τ d p k n) : mvS τ d p k b (n + 1) = up (up (mvS τ d p k b n) 6 n 0 (τ 6 n 0 + b)) 7 n 0 (τ 7 n 0 + b) := by
  funext r i j
  unfold up
  by_cases c7 : r = 7 ∧ i = n ∧ j = 0
  · obtain ⟨rfl, rfl, rfl⟩ := c7
    rw [if_pos ⟨rfl, rfl, rfl⟩]
    exact pk_t ⟨Or.inr rfl, rfl, h, by omega, hc⟩
  · rw [if_neg c7]
    by_cases c6 : r = 6 ∧ i = n ∧ j = 0
    · obtain ⟨rfl, rfl, rfl⟩ := c6
      rw [if_pos ⟨rfl, rfl, rfl⟩]
      exact pk_t ⟨Or.inl rfl, rfl, h, by omega, hc⟩
    · rw [if_neg c6]
      unfold mvS
      by_cases g : (r = 6 ∨ r = 7) ∧ j = 0 ∧ 0 ≤ i ∧ i < n ∧ mvC τ d p k i
      · rw [pk_t g, pk_t ⟨g.1, g.2.1, g.2.2.1, by omega, g.2.2.2.2⟩]
      · rw [pk_f g, pk_f (fun q => by
          rcases q with ⟨q1, q2, q3, q4, q5⟩
          by_cases e : i = n
          · subst e; rcases q1 with rfl | rfl
            · exact c6 ⟨rfl, rfl, q2⟩
            · exact c7 ⟨rfl, rfl, q2⟩
          · exact g ⟨q1, q2, q3, by omega, q5⟩)]
