theorem vp_cell_cut {c : ClassId} {N : Nat} {f f' : Nat → Option Nat} (h : ∀ j, j < N → f j = f' j) : vp_cell c (N, .inr (.inr (.inr (.inr f)))) = vp_cell c (N, .inr (.inr (.inr (.inr f')))) := by
  show arrV c N (fun j => va_rf (f j)) = arrV c N (fun j => va_rf (f' j))
  unfold arrV
  congr 1
  congr 1
  funext j
  show va_rf (f j) = va_rf (f' j)
  rw [h j j.2]
section XCut
variable {κ : xK} {D : va_G} {Y : Nat → ClassId} {A : Nat → Prop} {cc : ByteArray} {own : String} {nL : Nat} {R0 : Room} {cells slots pc : Nat} {l : List (Option Value)} {st : List Value} {ad : xL} {g : xG}
/-- behind its length an array of references may be told as one likes -/
theorem X_cut {k : Nat} {n : Int} {c : ClassId} {N : Nat} {f f' : Nat → Option Nat} (hg : g k n = some (.inl (c, N, .inr (.inr (.inr (.inr f)))))) (h : ∀ j, j < N → f j = f' j) (kk : X κ D A nL cells slots pc l st ad (xup g k n (.inl (c, N, .inr (.inr (.inr (.inr f'))))))) : X κ D A nL cells slots pc l st ad g := by
  obtain ⟨p, lc, e, R, s, m, args, below, meth, c0, Q⟩ := κ
  intro H locs la hW hS hl
  have he := hW.1 k n _ hg
  have hx : ∀ k' n' e', xup g k n (.inl (c, N, .inr (.inr (.inr (.inr f'))))) k' n' = some e' → ∃ e'', g k' n' = some e'' := by
    intro k' n' e' h'
    by_cases c9 : k' = k ∧ n' = n
    · obtain ⟨rfl, rfl⟩ := c9; exact ⟨_, hg⟩
    · rw [xup_n c9] at h'; exact ⟨_, h'⟩
  refine kk H locs la ⟨fun k' n' e' h' => ?_, fun k1 n1 e1 k2 n2 e2 h1 h2 ha => ?_⟩ hS hl
  · by_cases c9 : k' = k ∧ n' = n
    · obtain ⟨rfl, rfl⟩ := c9
      rw [xup_s] at h'
      cases h'
      refine ⟨?_, he.2⟩
      show H[ad k' n']? = some (vp_cell _ _)
      rw [← vp_cell_cut h]
      exact he.1
    · rw [xup_n c9] at h'
      exact hW.1 _ _ _ h'
  · obtain ⟨_, g1⟩ := hx _ _ _ h1
    obtain ⟨_, g2⟩ := hx _ _ _ h2
    exact hW.2 _ _ _ _ _ _ g1 g2 ha
end XCut
