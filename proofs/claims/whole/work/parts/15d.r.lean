section XW
variable {κ : xK} {D : va_G} {Y : Nat → ClassId} {A : Nat → Prop} {cc : ByteArray} {own : String} {nL : Nat} {R0 : Room} {cells slots pc : Nat} {l : List (Option Value)} {st : List Value} {ad : xL} {g : xG}
theorem X_ldcw (C : XB κ D Y A cc own nL R0) {i : Nat} {n : Int} {v : Int32} (hv : v = iI n) (hc : Cond.constant own i v ∈ gw) (hd : decode cc pc = .ok (.ldc_w i, 3)) (k : X κ D A nL cells slots (pc + 3) (l) (.int (iI n) :: st) (ad) (g)) : X κ D A nL cells slots (pc) (l) (st) (ad) (g) := by
  obtain ⟨p, lc, e, R, s, m, args, below, meth, c, Q⟩ := κ
  obtain ⟨hx, hb, hml, hown, hts, hE, hA, hlc, hlk, hR⟩ := C
  intro H locs la hW hS hl
  exact lv_ldcw hx hb hown (hts _ hc) hd (hv ▸ k H locs la hW hS hl)
end XW
