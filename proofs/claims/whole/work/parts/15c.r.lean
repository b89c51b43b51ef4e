/-! the press's order: none or one; null and not null -/
section XN
variable {κ : xK} {D : va_G} {Y : Nat → ClassId} {A : Nat → Prop} {cc : ByteArray} {own : String} {nL : Nat} {R0 : Room} {cells slots pc : Nat} {l : List (Option Value)} {st : List Value} {ad : xL} {g : xG} {τ σ : xS} {ρ : xG}
theorem Xg_X5_order_N (C : XB κ D Y A cc own nL R0) {idx : Nat} (hp : τ 35 0 0 = -1) (hf : xFL own idx 6 0) (hd : decode cc pc = .ok (.getfield idx, 3)) (kk : X κ D A nL cells slots (pc + 3) l (va_rf none :: st) ad (jG Y τ σ ρ ad)) : X κ D A nL cells slots pc l (.ref (ad 9 0) :: st) ad (jG Y τ σ ρ ad) := Xg_X5_order C (by unfold xpo; rw [if_pos hp]) hf hd kk
theorem Xg_X5_order_S (C : XB κ D Y A cc own nL R0) {idx : Nat} {o : Int} (hp : τ 35 0 0 = o) (ho : ¬ o = -1) (hf : xFL own idx 6 0) (hd : decode cc pc = .ok (.getfield idx, 3)) (kk : X κ D A nL cells slots (pc + 3) l (.ref (ad 15 o) :: st) ad (jG Y τ σ ρ ad)) : X κ D A nL cells slots pc l (.ref (ad 9 0) :: st) ad (jG Y τ σ ρ ad) := Xg_X5_order (q := some (ad 15 o)) C (by unfold xpo; rw [hp, if_neg ho]) hf hd kk
theorem Xp_X5_order_N (C : XB κ D Y A cc own nL R0) {idx : Nat} (hf : xFW own idx 6 0 (.object "Proofpress$Order")) (hd : decode cc pc = .ok (.putfield idx, 3)) (kk : X κ D A nL cells slots (pc + 3) l st ad (jG Y (up τ 35 0 0 (-1)) σ ρ ad)) : X κ D A nL cells slots pc l (va_rf none :: .ref (ad 9 0) :: st) ad (jG Y τ σ ρ ad) := Xp_X5_order C (by rw [if_pos rfl]) hf hd kk
theorem Xp_X5_order_S (C : XB κ D Y A cc own nL R0) {idx : Nat} {o : Int} (ho : ¬ o = -1) (hf : xFW own idx 6 0 (.object "Proofpress$Order")) (hd : decode cc pc = .ok (.putfield idx, 3)) (kk : X κ D A nL cells slots (pc + 3) l st ad (jG Y (up τ 35 0 0 o) σ ρ ad)) : X κ D A nL cells slots pc l (.ref (ad 15 o) :: .ref (ad 9 0) :: st) ad (jG Y τ σ ρ ad) := Xp_X5_order (q := some (ad 15 o)) C (by rw [if_neg ho]) hf hd kk
theorem X_ifnullR (C : XB κ D Y A cc own nL R0) {x : Nat} {off : Int} (hd : decode cc pc = .ok (.ifnull off, 3)) (kk : X κ D A nL cells slots (pc + 3) l st ad g) : X κ D A nL cells slots pc l (.ref x :: st) ad g := by
  obtain ⟨p, lc, e, R, s, m, args, below, meth, c, Q⟩ := κ
  obtain ⟨hx, hb, hml, hown, hts, hE, hA, hlc, hlk, hR⟩ := C
  intro H locs la hW hS hl
  exact lv_ifnull hx hb hd (kk H locs la hW hS hl)
theorem X_ifnonnullR (C : XB κ D Y A cc own nL R0) {x : Nat} {off : Int} {tgt : Nat} (hd : decode cc pc = .ok (.ifnonnull off, 3)) (ht : (pc : Int) + off = (tgt : Int)) (kk : X κ D A nL cells slots tgt l st ad g) : X κ D A nL cells slots pc l (.ref x :: st) ad g := by
  obtain ⟨p, lc, e, R, s, m, args, below, meth, c, Q⟩ := κ
  obtain ⟨hx, hb, hml, hown, hts, hE, hA, hlc, hlk, hR⟩ := C
  intro H locs la hW hS hl
  exact lv_ifnonnull hx hb hd ht (kk H locs la hW hS hl)
theorem X_ifnullN (C : XB κ D Y A cc own nL R0) {off : Int} {tgt : Nat} (hd : decode cc pc = .ok (.ifnull off, 3)) (ht : (pc : Int) + off = (tgt : Int)) (kk : X κ D A nL cells slots tgt l st ad g) : X κ D A nL cells slots pc l (va_rf none :: st) ad g := by
  obtain ⟨p, lc, e, R, s, m, args, below, meth, c, Q⟩ := κ
  obtain ⟨hx, hb, hml, hown, hts, hE, hA, hlc, hlk, hR⟩ := C
  intro H locs la hW hS hl
  exact lv_ifnullN hx hb hd ht (kk H locs la hW hS hl)
theorem X_ifnonnullN (C : XB κ D Y A cc own nL R0) {off : Int} (hd : decode cc pc = .ok (.ifnonnull off, 3)) (kk : X κ D A nL cells slots (pc + 3) l st ad g) : X κ D A nL cells slots pc l (va_rf none :: st) ad g := by
  obtain ⟨p, lc, e, R, s, m, args, below, meth, c, Q⟩ := κ
  obtain ⟨hx, hb, hml, hown, hts, hE, hA, hlc, hlk, hR⟩ := C
  intro H locs la hW hS hl
  exact lv_ifnonnullN hx hb hd (kk H locs la hW hS hl)
end XN
section XMx
variable {κ : xK} {D : va_G} {Y : Nat → ClassId} {A : Nat → Prop} {cc : ByteArray} {own : String} {nL : Nat} {R0 : Room} {cells slots pc : Nat} {l : List (Option Value)} {st : List Value} {ad : xL} {g : xG}
theorem X_mmax (C : XB κ D Y A cc own nL R0) {idx : Nat} {a b : Int} (ha : rg a) (hbr : rg b) (hw : Cond.methodLink own idx Lib.Math.max.name ∈ gw ∧ Cond.static Lib.Math.max.name ∈ gw ∧ Cond.initialized "java/lang/Math" ∈ gw ∧ Cond.code Lib.Math.max.name Lib.Math.max.code 2 (some .int) ∈ gw) (hfr : 1 ≤ R0.frames) (hlo : (st.map fun v => v.category).sum + 13 ≤ R0.locals) (hc : cells ≤ R0.cells) (hs : slots ≤ R0.slots) (hd : decode cc pc = .ok (.invokestatic idx, 3))
    (kk : X κ D A nL cells slots (pc + 3) l (.int (iI (if a < b then b else a)) :: st) ad g) : X κ D A nL cells slots pc l (.int (iI b) :: .int (iI a) :: st) ad g := by
  obtain ⟨p, lc, e, R, s, m, args, below, meth, c, Q⟩ := κ
  obtain ⟨hx, hb, hml, hown, hts, hE, hA, hlc, hlk, hR⟩ := C
  subst hR
  obtain ⟨w1, w2, w3, w4⟩ := hw
  intro H locs la hW hS hl
  refine va_mmax hx hb (by rw [hml]; exact hl.1.symm) hown (hts _ w1) (hts _ w2) (hts _ w3) (hts _ w4) hfr hlo hc hs hd ?_
  have e : (if iI a < iI b then iI b else iI a) = iI (if a < b then b else a) := by
    by_cases h : a < b
    · rw [if_pos ((iI_lt ha hbr).mpr h), if_pos h]
    · rw [if_neg (fun q => h ((iI_lt ha hbr).mp q)), if_neg h]
  rw [e]
  exact kk H locs la hW hS hl
end XMx
theorem mx_X2_15 : Cond.methodLink RX2 15 Lib.Math.max.name ∈ gw ∧ Cond.static Lib.Math.max.name ∈ gw ∧ Cond.initialized "java/lang/Math" ∈ gw ∧ Cond.code Lib.Math.max.name Lib.Math.max.code 2 (some .int) ∈ gw := ⟨gwI 846 (by decide +kernel) rfl, gwI 847 (by decide +kernel) rfl, gwI 21 (by decide +kernel) rfl, gwI 848 (by decide +kernel) rfl⟩
