theorem oi_2 : Cond.instanceMethod Lib.objectInit ∈ gw := (gwI 29 (by decide +kernel) rfl)
theorem oi_3 : Cond.code Lib.objectInit ⟨#[0xb1]⟩ 1 none ∈ gw := (gwI 30 (by decide +kernel) rfl)
theorem ac_I : Cond.arrayClass .int ∈ gw := (gwI 59 (by decide +kernel) rfl)
theorem ac_Z : Cond.arrayClass .boolean ∈ gw := (gwI 1048 (by decide +kernel) rfl)
theorem ac_J : Cond.arrayClass .long ∈ gw := (gwI 1323 (by decide +kernel) rfl)
theorem ac_D : Cond.arrayClass .double ∈ gw := (gwI 1324 (by decide +kernel) rfl)
theorem oi_X8_3 : Cond.methodLink RX8 3 Lib.objectInit ∈ gw := (gwI 28 (by decide +kernel) rfl)
theorem na_X8_9 : Cond.classLink RX8 9 RX1 ∈ gw := (gwI 31 (by decide +kernel) rfl)
theorem na_X8_15 : Cond.classLink RX8 15 RX0 ∈ gw := (gwI 33 (by decide +kernel) rfl)
theorem na_X8_21 : Cond.classLink RX8 21 RX4 ∈ gw := (gwI 35 (by decide +kernel) rfl)
theorem nw_X8_27 : Cond.classLink RX8 27 RX3 ∈ gw ∧ Cond.instantiable RX3 5 ∈ gw ∧ Cond.initialized RX3 ∈ gw := ⟨(gwI 37 (by decide +kernel) rfl), (gwI 38 (by decide +kernel) rfl), (gwI 2 (by decide +kernel) rfl)⟩
theorem nw_X8_34 : Cond.classLink RX8 34 RX5 ∈ gw ∧ Cond.instantiable RX5 5 ∈ gw ∧ Cond.initialized RX5 ∈ gw := ⟨(gwI 60 (by decide +kernel) rfl), (gwI 61 (by decide +kernel) rfl), (gwI 3 (by decide +kernel) rfl)⟩
theorem nw_X8_9 : Cond.classLink RX8 9 RX1 ∈ gw ∧ Cond.instantiable RX1 7 ∈ gw ∧ Cond.initialized RX1 ∈ gw := ⟨(gwI 31 (by decide +kernel) rfl), (gwI 248 (by decide +kernel) rfl), (gwI 9 (by decide +kernel) rfl)⟩
theorem nw_X8_15 : Cond.classLink RX8 15 RX0 ∈ gw ∧ Cond.instantiable RX0 4 ∈ gw ∧ Cond.initialized RX0 ∈ gw := ⟨(gwI 33 (by decide +kernel) rfl), (gwI 513 (by decide +kernel) rfl), (gwI 17 (by decide +kernel) rfl)⟩
theorem nw_X8_21 : Cond.classLink RX8 21 RX4 ∈ gw ∧ Cond.instantiable RX4 8 ∈ gw ∧ Cond.initialized RX4 ∈ gw := ⟨(gwI 35 (by decide +kernel) rfl), (gwI 695 (by decide +kernel) rfl), (gwI 19 (by decide +kernel) rfl)⟩
theorem oi_X9_1 : Cond.methodLink RX9 1 Lib.objectInit ∈ gw := (gwI 950 (by decide +kernel) rfl)
theorem oi_X0_1 : Cond.methodLink RX0 1 Lib.objectInit ∈ gw := (gwI 517 (by decide +kernel) rfl)
theorem oi_X1_3 : Cond.methodLink RX1 3 Lib.objectInit ∈ gw := (gwI 252 (by decide +kernel) rfl)
theorem nw_X1_15 : Cond.classLink RX1 15 RX7 ∈ gw ∧ Cond.instantiable RX7 2 ∈ gw ∧ Cond.initialized RX7 ∈ gw := ⟨(gwI 253 (by decide +kernel) rfl), (gwI 254 (by decide +kernel) rfl), (gwI 10 (by decide +kernel) rfl)⟩
theorem oi_X3_3 : Cond.methodLink RX3 3 Lib.objectInit ∈ gw := (gwI 42 (by decide +kernel) rfl)
theorem oi_X4_3 : Cond.methodLink RX4 3 Lib.objectInit ∈ gw := (gwI 699 (by decide +kernel) rfl)
theorem na_X4_25 : Cond.classLink RX4 25 RX6 ∈ gw := (gwI 700 (by decide +kernel) rfl)
theorem nw_X4_25 : Cond.classLink RX4 25 RX6 ∈ gw ∧ Cond.instantiable RX6 5 ∈ gw ∧ Cond.initialized RX6 ∈ gw := ⟨(gwI 700 (by decide +kernel) rfl), (gwI 702 (by decide +kernel) rfl), (gwI 20 (by decide +kernel) rfl)⟩
theorem oi_X5_3 : Cond.methodLink RX5 3 Lib.objectInit ∈ gw := (gwI 65 (by decide +kernel) rfl)
theorem oi_X6_3 : Cond.methodLink RX6 3 Lib.objectInit ∈ gw := (gwI 706 (by decide +kernel) rfl)
theorem oi_X7_3 : Cond.methodLink RX7 3 Lib.objectInit ∈ gw := (gwI 258 (by decide +kernel) rfl)
theorem nw_L_8 : Cond.classLink RL 8 RX8 ∈ gw ∧ Cond.instantiable RX8 11 ∈ gw ∧ Cond.initialized RX8 ∈ gw := ⟨(gwI 23 (by decide +kernel) rfl), (gwI 24 (by decide +kernel) rfl), (gwI 1 (by decide +kernel) rfl)⟩
theorem nw_L_140 : Cond.classLink RL 140 RX9 ∈ gw ∧ Cond.instantiable RX9 32 ∈ gw ∧ Cond.initialized RX9 ∈ gw := ⟨(gwI 945 (by decide +kernel) rfl), (gwI 946 (by decide +kernel) rfl), (gwI 4 (by decide +kernel) rfl)⟩
/-- the layout but for one place -/
def xO (ad2 ad : xL) (k : Nat) (n : Int) : Prop := ∀ k' n', ¬ (k' = k ∧ n' = n) → ad2 k' n' = ad k' n'
section XMk
variable {κ : xK} {D : va_G} {Y : Nat → ClassId} {A : Nat → Prop} {cc : ByteArray} {own : String} {nL : Nat} {R0 : Room} {cells slots pc : Nat} {l : List (Option Value)} {st : List Value} {ad : xL} {g : xG}
theorem X_mkO (C : XB κ D Y A cc own nL R0) {k : Nat} {n : Int} {ci idx : Nat} {Cn : String} {T : u_T} {N : Nat} {ty0 : Nat → FieldType} {fs : List Value} (hg : g k n = none) (hc : xCl ci Cn T N ty0) (hw : Cond.classLink own idx Cn ∈ gw ∧ Cond.instantiable Cn N ∈ gw ∧ Cond.initialized Cn ∈ gw) (hfs : ∀ j, j < N → defaultValue (ty0 j) = vp_V fs j) (hcells : cells + 1 ≤ R0.cells) (hslots : slots + N ≤ R0.slots) (hd : decode cc pc = .ok (.new idx, 3))
    (kk : ∀ ad2 : xL, xO ad2 ad k n → X κ D A nL (cells + 1) (slots + N) (pc + 3) l (.ref (ad2 k n) :: st) ad2 (xup g k n (.inr (ci, fs)))) : X κ D A nL cells slots pc l st ad g :=
  X_new C hg hc hw.1 hw.2.1 hw.2.2 hfs hcells hslots hd (fun q => kk (xua ad k n q) (fun _ _ h => xua_n h))
theorem X_mkI (C : XB κ D Y A cc own nL R0) {k : Nat} {n : Int} {N : Nat} {z : Int} (hg : g k n = none) (hz : z = (N : Int)) (hN : N ≤ 600) (hcells : cells + 1 ≤ R0.cells) (hslots : slots + N ≤ R0.slots) (hd : decode cc pc = .ok (.newarray .int, 2))
    (kk : ∀ ad2 : xL, xO ad2 ad k n → X κ D A nL (cells + 1) (slots + N) (pc + 2) l (.ref (ad2 k n) :: st) ad2 (xup g k n (.inl (Y 0, N, .inl (fun _ => iI 0))))) : X κ D A nL cells slots pc l (.int (iI z) :: st) ad g :=
  X_newa C (t := 0) (atype := .int) (x := (N, .inl (fun _ => iI 0))) hg ac_I rfl (fun U cA h => va_nm_int h) hz (by omega) (Nat.le_trans (Nat.mul_le_mul_right 4 hN) (by decide)) (fun _ => rfl) hcells hslots hd (fun q => kk (xua ad k n q) (fun _ _ h => xua_n h))
theorem X_mkZ (C : XB κ D Y A cc own nL R0) {k : Nat} {n : Int} {N : Nat} {z : Int} (hg : g k n = none) (hz : z = (N : Int)) (hN : N ≤ 600) (hcells : cells + 1 ≤ R0.cells) (hslots : slots + N ≤ R0.slots) (hd : decode cc pc = .ok (.newarray .boolean, 2))
    (kk : ∀ ad2 : xL, xO ad2 ad k n → X κ D A nL (cells + 1) (slots + N) (pc + 2) l (.ref (ad2 k n) :: st) ad2 (xup g k n (.inl (Y 1, N, .inl (fun _ => iI 0))))) : X κ D A nL cells slots pc l (.int (iI z) :: st) ad g :=
  X_newa C (t := 1) (atype := .boolean) (x := (N, .inl (fun _ => iI 0))) hg ac_Z rfl (fun U cA h => va_nm_boolean h) hz (by omega) (Nat.le_trans (Nat.mul_le_mul_right 1 hN) (by decide)) (fun _ => rfl) hcells hslots hd (fun q => kk (xua ad k n q) (fun _ _ h => xua_n h))
theorem X_mkA (C : XB κ D Y A cc own nL R0) {k : Nat} {n : Int} {t idx : Nat} {Cn : String} {N : Nat} {z : Int} (hg : g k n = none) (hcl : Cond.classLink own idx Cn ∈ gw) (hao : ∀ U, xGE D Y A U → va_AO Cn U) (ht : (xTys Y)[t]? = some (Y t, .object Cn)) (hz : z = (N : Int)) (hN : N ≤ 1000) (hcells : cells + 1 ≤ R0.cells) (hslots : slots + N ≤ R0.slots) (hd : decode cc pc = .ok (.anewarray idx, 3))
    (kk : ∀ ad2 : xL, xO ad2 ad k n → X κ D A nL (cells + 1) (slots + N) (pc + 3) l (.ref (ad2 k n) :: st) ad2 (xup g k n (.inl (Y t, N, .inr (.inr (.inr (.inr (fun _ => none)))))))) : X κ D A nL cells slots pc l (.int (iI z) :: st) ad g :=
  X_anewa C hg hcl hao ht hz hN hcells hslots hd (fun q => kk (xua ad k n q) (fun _ _ h => xua_n h))
end XMk
