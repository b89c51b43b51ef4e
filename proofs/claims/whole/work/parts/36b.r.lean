theorem iI_norm (z : Int) : ∃ w, rg w ∧ iI w = iI z := ⟨(iI z).toInt, ⟨Int32.le_toInt _, by have := Int32.toInt_lt (iI z); omega⟩, Int32.ofInt_toInt _⟩
section XAny
variable {κ : xK} {D : va_G} {Y : Nat → ClassId} {A : Nat → Prop} {cc : ByteArray} {own : String} {nL : Nat} {R0 : Room} {cells slots pc : Nat} {l : List (Option Value)} {st : List Value} {ad : xL} {g : xG}
theorem X_icmp_gtA (C : XB κ D Y A cc own nL R0) {a b : Int} {off : Int} {tgt : Nat} (hd : decode cc pc = .ok (.if_icmp .gt off, 3)) (ht : (pc : Int) + off = (tgt : Int)) (kt : X κ D A nL cells slots (tgt) (l) (st) (ad) (g)) (kf : X κ D A nL cells slots (pc + 3) (l) (st) (ad) (g)) : X κ D A nL cells slots (pc) (l) (.int (iI b) :: .int (iI a) :: st) (ad) (g) := by
  obtain ⟨a2, ha, ea⟩ := iI_norm a
  obtain ⟨b2, hb, eb⟩ := iI_norm b
  rw [← ea, ← eb]
  exact X_icmp_gt C hd ht ha hb (fun _ => kt) (fun _ => kf)
theorem X_icmp_leA (C : XB κ D Y A cc own nL R0) {a b : Int} {off : Int} {tgt : Nat} (hd : decode cc pc = .ok (.if_icmp .le off, 3)) (ht : (pc : Int) + off = (tgt : Int)) (kt : X κ D A nL cells slots (tgt) (l) (st) (ad) (g)) (kf : X κ D A nL cells slots (pc + 3) (l) (st) (ad) (g)) : X κ D A nL cells slots (pc) (l) (.int (iI b) :: .int (iI a) :: st) (ad) (g) := by
  obtain ⟨a2, ha, ea⟩ := iI_norm a
  obtain ⟨b2, hb, eb⟩ := iI_norm b
  rw [← ea, ← eb]
  exact X_icmp_le C hd ht ha hb (fun _ => kt) (fun _ => kf)
end XAny
