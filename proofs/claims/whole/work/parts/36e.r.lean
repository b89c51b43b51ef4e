theorem jG_rho {Y : Nat → ClassId} {τ σ : xS} {ρ : xG} {ad : xL} {k : Nat} {n : Int} {e : va_E} (hk : 42 ≤ k) : xup (jG Y τ σ ρ ad) k n e = jG Y τ σ (xup ρ k n e) ad := by
  funext k' n'
  by_cases c : k' = k ∧ n' = n
  · rw [c.1, c.2, xup_s]
    show some e = (if k < 20 then cG Y τ ad k n else if k < 42 then mG Y σ ad (k - 20) n else xup ρ k n e k n)
    rw [if_neg (by omega), if_neg (by omega), xup_s]
  · rw [xup_n c]
    show (if k' < 20 then cG Y τ ad k' n' else if k' < 42 then mG Y σ ad (k' - 20) n' else ρ k' n') = (if k' < 20 then cG Y τ ad k' n' else if k' < 42 then mG Y σ ad (k' - 20) n' else xup ρ k n e k' n')
    rw [xup_n c]
theorem jG_at {Y : Nat → ClassId} {τ σ : xS} {ρ : xG} {ad : xL} {k : Nat} {n : Int} (hk : 42 ≤ k) : jG Y τ σ ρ ad k n = ρ k n := by
  show (if k < 20 then cG Y τ ad k n else if k < 42 then mG Y σ ad (k - 20) n else ρ k n) = ρ k n
  rw [if_neg (by omega), if_neg (by omega)]
section XBk
variable {κ : xK} {D : va_G} {Y : Nat → ClassId} {A : Nat → Prop} {cc : ByteArray} {own : String} {nL : Nat} {R0 : Room} {cells slots pc : Nat} {l : List (Option Value)} {st : List Value} {ad ad2 : xL} {g g2 : xG}
/-- cells may be forgotten, and with them their places -/
theorem X_back (h : ∀ k n e, g k n = some e → g2 k n = some e ∧ ad2 k n = ad k n) (kk : X κ D A nL cells slots pc l st ad g) : X κ D A nL cells slots pc l st ad2 g2 := by
  obtain ⟨p, lc, e, R, s, m, args, below, meth, c0, Q⟩ := κ
  intro H locs la hW hS hl
  refine kk H locs la ⟨fun k n e he => ?_, fun k1 n1 e1 k2 n2 e2 h1 h2 ha => ?_⟩ hS hl
  · have q := h k n e he
    have w := hW.1 k n e q.1
    rw [q.2] at w
    exact w
  · have q1 := h _ _ _ h1
    have q2 := h _ _ _ h2
    exact hW.2 _ _ _ _ _ _ q1.1 q2.1 (by rw [q1.2, q2.2]; exact ha)
end XBk
theorem xup_up {g : xG} {k : Nat} {n : Int} {e e' : va_E} : xup (xup g k n e) k n e' = xup g k n e' := by
  funext k' n'
  by_cases c : k' = k ∧ n' = n
  · rw [c.1, c.2, xup_s, xup_s]
  · rw [xup_n c, xup_n c, xup_n c]
/-- an array of ints that is the reference's own for a while -/
def aJ (Y : Nat → ClassId) (f : Int → Int) : va_E := .inl (Y 0, 32, .inl (fun j => iI (f (j : Int))))
theorem aJ_u {Y : Nat → ClassId} {f : Int → Int} {z v : Int} (h : 0 ≤ z) : (.inl (Y 0, 32, .inl (upd (fun j => iI (f (j : Int))) z.toNat (iI v))) : va_E) = aJ Y (fun q => if q = z then v else f q) := by
  unfold aJ
  congr 4
  funext j
  unfold upd
  by_cases c : j = z.toNat
  · rw [if_pos c]
    show iI v = iI (if (j : Int) = z then v else f (j : Int))
    rw [if_pos (by omega)]
  · rw [if_neg c]
    show iI (f (j : Int)) = iI (if (j : Int) = z then v else f (j : Int))
    rw [if_neg (by omega)]
