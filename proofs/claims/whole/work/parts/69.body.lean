/-! the law's body from its first instruction -/
theorem iX8_c {Y : Nat → ClassId} {a b : xL} {g : xG} (h : ∀ k : Nat, k ≤ 10 → a k 0 = b k 0) : iX8 Y a g = iX8 Y b g := by
  unfold iX8
  rw [h 1 (by decide), h 2 (by decide), h 3 (by decide), h 4 (by decide), h 5 (by decide), h 6 (by decide), h 7 (by decide), h 8 (by decide), h 9 (by decide), h 10 (by decide)]
theorem iX9_c {Y : Nat → ClassId} {a b : xL} {g : xG} (h : ∀ k : Nat, 21 ≤ k → k ≤ 41 → a k 0 = b k 0) : iX9 Y a g = iX9 Y b g := by
  unfold iX9
  rw [h 21 (by decide) (by decide), h 22 (by decide) (by decide), h 23 (by decide) (by decide), h 24 (by decide) (by decide), h 25 (by decide) (by decide), h 26 (by decide) (by decide), h 27 (by decide) (by decide), h 28 (by decide) (by decide), h 29 (by decide) (by decide), h 30 (by decide) (by decide), h 31 (by decide) (by decide), h 32 (by decide) (by decide), h 33 (by decide) (by decide), h 34 (by decide) (by decide), h 35 (by decide) (by decide), h 36 (by decide) (by decide), h 37 (by decide) (by decide), h 38 (by decide) (by decide), h 39 (by decide) (by decide), h 40 (by decide) (by decide), h 41 (by decide) (by decide)]
theorem iX8_n {Y : Nat → ClassId} {ad : xL} {k : Nat} (h : 11 ≤ k) : iX8 Y ad (xup (fun _ _ => none) 0 0 e8) k 0 = none := by
  unfold iX8
  repeat rw [xup_n (by omega)]
theorem iX9_n {Y : Nat → ClassId} {ad : xL} {g : xG} {k : Nat} (h : 42 ≤ k) : iX9 Y ad g k 0 = g k 0 := by
  unfold iX9
  repeat rw [xup_n (by omega)]
section XNa
variable {κ : xK} {D : va_G} {Y : Nat → ClassId} {A : Nat → Prop} {cc : ByteArray} {own : String} {nL : Nat} {R0 : Room} {cells slots pc : Nat} {l : List (Option Value)} {st : List Value} {ad : xL} {g : xG}
theorem X_mkL1 (C : XB κ D Y A cc own nL R0) {k : Nat} {n : Int} (hg : g k n = none) (hcells : cells + 1 ≤ R0.cells) (hslots : slots + 1 ≤ R0.slots) (hd : decode cc pc = .ok (.newarray .long, 2))
    (kk : ∀ ad2 : xL, xO ad2 ad k n → X κ D A nL (cells + 1) (slots + 1) (pc + 2) l (.ref (ad2 k n) :: st) ad2 (xup g k n (.inl (Y 2, 1, .inr (.inl (fun _ => (0 : Int64))))))) : X κ D A nL cells slots pc l (.int (iI 1) :: st) ad g :=
  X_newa C (t := 2) (N := 1) (z := 1) (atype := .long) (x := (1, .inr (.inl (fun _ => (0 : Int64))))) hg (gwI 1323 (by decide +kernel) rfl) rfl (fun U cA h => va_nm_long h) rfl (by decide) (by decide) (fun _ => rfl) hcells hslots hd (fun q => kk (xua ad k n q) (fun _ _ h => xua_n h))
theorem X_mkD1 (C : XB κ D Y A cc own nL R0) {k : Nat} {n : Int} (hg : g k n = none) (hcells : cells + 1 ≤ R0.cells) (hslots : slots + 1 ≤ R0.slots) (hd : decode cc pc = .ok (.newarray .double, 2))
    (kk : ∀ ad2 : xL, xO ad2 ad k n → X κ D A nL (cells + 1) (slots + 1) (pc + 2) l (.ref (ad2 k n) :: st) ad2 (xup g k n (.inl (Y 3, 1, .inr (.inr (.inr (.inl (fun _ => (0 : UInt64))))))))) : X κ D A nL cells slots pc l (.int (iI 1) :: st) ad g :=
  X_newa C (t := 3) (N := 1) (z := 1) (atype := .double) (x := (1, .inr (.inr (.inr (.inl (fun _ => (0 : UInt64))))))) hg (gwI 1324 (by decide +kernel) rfl) rfl (fun U cA h => va_nm_double h) rfl (by decide) (by decide) (fun _ => rfl) hcells hslots hd (fun q => kk (xua ad k n q) (fun _ _ h => xua_n h))
end XNa
theorem lw_body {κ : xK} {D : va_G} {Y : Nat → ClassId} {A : Nat → Prop} {b L : Nat} {xs : Nat → Int32} {ad : xL} (C : XB κ D Y A cL_law RL 9 room_1) (hN : xGN κ.2.2.2.2.1) (S : xSc κ A b L xs) (hL : L ≤ 2048) (hend : ∀ (cells slots : Nat) (l : List (Option Value)) (ad : xL) (g : xG), cells ≤ 603072 → slots ≤ 7198826 → X κ D A 9 cells slots 2612 l [.int (iI 1)] ad g) : X κ D A 9 0 0 0 [some (.ref b), none, none, none, none, none, none, none, none] [] ad (fun _ _ => none) := by
  refine X_mkO C (k := 0) (n := 0) (fs := [.null, .int (iI 0), .null, .int (iI 0), .null, .int (iI 0), .null, .null, .int (iI 0), .int (iI 0), .int (iI 0)]) rfl xcl_X8 ⟨gwI 23 (by decide +kernel) rfl, gwI 24 (by decide +kernel) rfl, gwI 1 (by decide +kernel) rfl⟩ (fun j hj => match j, hj with | 0, _ => rfl | 1, _ => rfl | 2, _ => rfl | 3, _ => rfl | 4, _ => rfl | 5, _ => rfl | 6, _ => rfl | 7, _ => rfl | 8, _ => rfl | 9, _ => rfl | 10, _ => rfl | (j + 11), h => absurd h (by omega)) (Nat.le_of_ble_eq_true rfl) (Nat.le_of_ble_eq_true rfl) dL_law_0 (fun a1 o1 => ?_)
  refine X_dup C rfl dL_law_3 ?_
  refine X_callIg C (c_X8_init C.hlc xup_s (xup_n (by decide)) (xup_n (by decide)) (xup_n (by decide)) (xup_n (by decide)) (xup_n (by decide)) (xup_n (by decide)) (xup_n (by decide)) (xup_n (by decide)) (xup_n (by decide)) (xup_n (by decide))) ci_L_139 rfl rfl rfl (xroom_of rfl rfl (Nat.le_of_ble_eq_true rfl) (Nat.le_of_ble_eq_true rfl)) dL_law_4 (fun r2 a2 g2 hp => ?_)
  obtain ⟨hr2, o2, hg2⟩ := hp
  rw [hr2, show g2 = iX8 Y a2 (xup (fun _ _ => none) 0 0 e8) from hg2]
  refine X_astore_1 C (by decide) rfl dL_law_7 ?_
  refine X_mkO C (k := 20) (n := 0) (fs := [.null, .null, .null, .null, .null, .null, .null, .int (iI 0), .null, .null, .null, .null, .int (iI 0), .null, .null, .null, .null, .null, .int (iI 0), .null, .null, .null, .null, .int (iI 0), .int (iI 0), .int (iI 0), .int (iI 0), .int (iI 0), .int (iI 0), .null, .int (iI 0), .int (iI 0)]) (iX8_n (by decide)) xcl_X9 ⟨gwI 945 (by decide +kernel) rfl, gwI 946 (by decide +kernel) rfl, gwI 4 (by decide +kernel) rfl⟩ (fun j hj => match j, hj with | 0, _ => rfl | 1, _ => rfl | 2, _ => rfl | 3, _ => rfl | 4, _ => rfl | 5, _ => rfl | 6, _ => rfl | 7, _ => rfl | 8, _ => rfl | 9, _ => rfl | 10, _ => rfl | 11, _ => rfl | 12, _ => rfl | 13, _ => rfl | 14, _ => rfl | 15, _ => rfl | 16, _ => rfl | 17, _ => rfl | 18, _ => rfl | 19, _ => rfl | 20, _ => rfl | 21, _ => rfl | 22, _ => rfl | 23, _ => rfl | 24, _ => rfl | 25, _ => rfl | 26, _ => rfl | 27, _ => rfl | 28, _ => rfl | 29, _ => rfl | 30, _ => rfl | 31, _ => rfl | (j + 32), h => absurd h (by omega)) (Nat.le_of_ble_eq_true rfl) (Nat.le_of_ble_eq_true rfl) dL_law_8 (fun a3 o3 => ?_)
  refine X_dup C rfl dL_law_11 ?_
  refine X_callIg C (c_X9_init C.hlc xup_s ((xup_n (by decide)).trans (iX8_n (by decide))) ((xup_n (by decide)).trans (iX8_n (by decide))) ((xup_n (by decide)).trans (iX8_n (by decide))) ((xup_n (by decide)).trans (iX8_n (by decide))) ((xup_n (by decide)).trans (iX8_n (by decide))) ((xup_n (by decide)).trans (iX8_n (by decide))) ((xup_n (by decide)).trans (iX8_n (by decide))) ((xup_n (by decide)).trans (iX8_n (by decide))) ((xup_n (by decide)).trans (iX8_n (by decide))) ((xup_n (by decide)).trans (iX8_n (by decide))) ((xup_n (by decide)).trans (iX8_n (by decide))) ((xup_n (by decide)).trans (iX8_n (by decide))) ((xup_n (by decide)).trans (iX8_n (by decide))) ((xup_n (by decide)).trans (iX8_n (by decide))) ((xup_n (by decide)).trans (iX8_n (by decide))) ((xup_n (by decide)).trans (iX8_n (by decide))) ((xup_n (by decide)).trans (iX8_n (by decide))) ((xup_n (by decide)).trans (iX8_n (by decide))) ((xup_n (by decide)).trans (iX8_n (by decide))) ((xup_n (by decide)).trans (iX8_n (by decide))) ((xup_n (by decide)).trans (iX8_n (by decide)))) ci_L_142 rfl rfl rfl (xroom_of rfl rfl (Nat.le_of_ble_eq_true rfl) (Nat.le_of_ble_eq_true rfl)) dL_law_12 (fun r4 a4 g4 hp4 => ?_)
  obtain ⟨hr4, o4, hg4⟩ := hp4
  rw [hr4, show g4 = iX9 Y a4 (xup (iX8 Y a2 (xup (fun _ _ => none) 0 0 e8)) 20 0 e9) from hg4]
  refine X_astore_2 C (by decide) rfl dL_law_15 ?_
  refine X_iconst C dL_law_16 ?_
  refine X_mkL1 C (k := 61) (n := 0) ((iX9_n (by decide)).trans ((xup_n (by decide)).trans (iX8_n (by decide)))) (Nat.le_of_ble_eq_true rfl) (Nat.le_of_ble_eq_true rfl) dL_law_17 (fun a5 o5 => ?_)
  refine X_astore_3 C (by decide) rfl dL_law_19 ?_
  refine X_iconst C dL_law_20 ?_
  refine X_mkD1 C (k := 62) (n := 0) ((xup_n (by decide)).trans ((iX9_n (by decide)).trans ((xup_n (by decide)).trans (iX8_n (by decide))))) (Nat.le_of_ble_eq_true rfl) (Nat.le_of_ble_eq_true rfl) dL_law_21 (fun a6 o6 => ?_)
  refine X_astore_4 C (by decide) rfl dL_law_23 ?_
  refine X_iconst C dL_law_25 ?_
  refine X_istore_5 C (by decide) rfl dL_law_26 ?_
  have h8 : ∀ k : Nat, k ≤ 10 → a2 k 0 = a6 k 0 := by
    intro k hk
    rw [o6 k 0 (by omega), o5 k 0 (by omega), o4 k 0 (by omega), o3 k 0 (by omega)]
  have h9 : ∀ k : Nat, 21 ≤ k → k ≤ 41 → a4 k 0 = a6 k 0 := by
    intro k hk hk2
    rw [o6 k 0 (by omega), o5 k 0 (by omega)]
  have e1 : a1 0 0 = a6 0 0 := by rw [← h8 0 (by decide), o2 0 0 (by omega)]
  have e20 : a3 20 0 = a6 20 0 := by rw [o6 20 0 (by omega), o5 20 0 (by omega), o4 20 0 (by omega)]
  have e61 : a5 61 0 = a6 61 0 := (o6 61 0 (by omega)).symm
  rw [e1, e20, e61, iX8_c h8, iX9_c h9, st_0, jG_rho (by decide), jG_rho (by decide)]
  have K := lw_loop C hN S hL hend 512 0 rfl t0 (xup (xup (fun _ _ => none) 61 0 (.inl (Y 2, 1, .inr (.inl (fun _ => (0 : Int64)))))) 62 0 (.inl (Y 3, 1, .inr (.inr (.inr (.inl (fun _ => (0 : UInt64)))))))) a6 (show xI ((0 : Nat) : Int) t0 from xI_0) ⟨⟨_, (xup_n (by decide)).trans xup_s⟩, ⟨_, xup_s⟩, (xup_n (by decide)).trans (xup_n (by decide))⟩
  exact X.widen (Nat.le_of_ble_eq_true rfl) (Nat.le_of_ble_eq_true rfl) K
/-- from the entry, for every script of at most 2048 ints, the law comes to its end with true -/
theorem whole_start {p : Program} {e : Env} {s : State} {m : MethodId} {below : List Frame} {meth : Method} {c : Code} (l : Launch) (hflags : l.flags = flags0) {b L : Nat} {xs : Nat → Int32} (hL : L ≤ 2048) (C0 : lw_At p s m meth c b L xs) : W p l e room_1 s m #[Value.ref b] below meth c s.heap [] 0 0 (lw_Z below #[Value.ref b] s) (entryFrame m ([Value.ref b] : List Value).toArray 9) := by
  obtain ⟨hx, hb, hr, hml, hown, hts, hXs, hbl, hlk, hgv⟩ := C0
  have hlc : l.stackTraces = false := by
    unfold Launch.stackTraces
    rw [hflags]
    decide +kernel
  obtain ⟨D, Y, hK⟩ := lw_K hts
  have hE := lw_E hK hts hgv
  have C : XB (p, l, e, room_1, s, m, #[Value.ref b], below, meth, c, lw_Z below #[Value.ref b] s) D Y (fun q => s.heap.size ≤ q) cL_law RL 9 room_1 := ⟨hx, hb, hml, hown, fun w hw => hts w (List.mem_filter.mp hw).1, hE, fun q hq => hq, hlc, hlk, rfl⟩
  have S : xSc (p, l, e, room_1, s, m, #[Value.ref b], below, meth, c, lw_Z below #[Value.ref b] s) (fun q => s.heap.size ≤ q) b L xs := ⟨hXs, hbl, fun q => absurd hbl (Nat.not_lt.mpr q)⟩
  have K := lw_body (ad := fun _ _ => 0) C (lw_N hgv) S hL (fun cells slots l9 ad g hc hs => X_lend C (fun q hq => hq) hr hc hs dL_law_2612)
  have hl := lv_entry [Value.ref b] (n := 9) (Nat.le_of_ble_eq_true rfl)
  have hl0 : (lg_sl [Value.ref b] ++ List.replicate (9 - (lg_sl [Value.ref b]).length) Slot.unset).map xso = [some (.ref b), none, none, none, none, none, none, none, none] := rfl
  rw [lg_entry_eq]
  exact K s.heap [] _ ⟨fun k n e h => (by cases h), fun k n e k' n' e' h => (by cases h)⟩ va_S.rf ⟨hl.1, hl.2.1, fun i v hv => by
    rw [← hl0] at hv
    rw [List.getElem?_toArray]
    exact xso_spec hv⟩
