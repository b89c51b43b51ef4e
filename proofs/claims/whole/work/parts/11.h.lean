/-! heap rows, calls, ends -/
def xLk (own : String) (idx : Nat) (q : String × String × String × Bool) : Prop := Cond.fieldLink own idx q.1 q.2.1 q.2.2.1 ∈ gw ∨ ∃ host : String, (own, idx, q.1, q.2.1, q.2.2.1, host) ∈ xNests
def xCl (ci : Nat) (Cn : String) (T : u_T) (N : Nat) (ty0 : Nat → FieldType) : Prop :=
  vwCl[ci]? = some (Cn, T, N) ∧ (∀ w ∈ u_ws Cn T N, w ∈ gw) ∧ (∀ k, k < N → parseFieldDescriptor (T k).2.2.1 = some (ty0 k)) ∧ (∀ a, a < N → ∀ b, b < N → a ≠ b → (T a).2.1 ≠ (T b).2.1)
def xFL (own : String) (idx ci j : Nat) : Prop := ∃ (Cn : String) (T : u_T) (N : Nat) (ty0 : Nat → FieldType), xCl ci Cn T N ty0 ∧ j < N ∧ xLk own idx (T j)
def xFW (own : String) (idx ci j : Nat) (ty : FieldType) : Prop := ∃ (Cn : String) (T : u_T) (N : Nat) (ty0 : Nat → FieldType), xCl ci Cn T N ty0 ∧ j < N ∧ xLk own idx (T j) ∧ (T j).2.2.2 = false ∧ parseFieldDescriptor (T j).2.2.1 = some ty
def xFF (own : String) (idx ci j : Nat) (ty : FieldType) : Prop := ∃ (Cn : String) (T : u_T) (N : Nat) (ty0 : Nat → FieldType), xCl ci Cn T N ty0 ∧ j < N ∧ Cond.fieldLink own idx (T j).1 (T j).2.1 (T j).2.2.1 ∈ gw ∧ (T j).2.2.2 = true ∧ (T j).1 = own ∧ parseFieldDescriptor (T j).2.2.1 = some ty
section XH
variable {κ : xK} {D : va_G} {Y : Nat → ClassId} {A : Nat → Prop} {cc : ByteArray} {own : String} {nL : Nat} {R0 : Room} {cells slots pc : Nat} {l : List (Option Value)} {st : List Value} {ad : xL} {g : xG}
theorem XB.hlc (C : XB κ D Y A cc own nL R0) : κ.2.1.stackTraces = false := by
  obtain ⟨p, lc, e, R, s, m, args, below, meth, c, Q⟩ := κ
  exact C.2.2.2.2.2.2.2.1
theorem X_get (C : XB κ D Y A cc own nL R0) {k : Nat} {n : Int} {ci idx j : Nat} {fs : List Value} {v : Value} (hg : g k n = some (.inr (ci, fs))) (hf : xFL own idx ci j) (hv : fs[j]? = some v) (hd : decode cc pc = .ok (.getfield idx, 3))
    (kk : X κ D A nL cells slots (pc + 3) l (v :: st) ad g) : X κ D A nL cells slots pc l (.ref (ad k n) :: st) ad g := by
  obtain ⟨p, lc, e, R, s, m, args, below, meth, c, Q⟩ := κ
  obtain ⟨hx, hb, hml, hown, hts, hE, hA, hlc, hlk, hR⟩ := C
  obtain ⟨Cn, T, N, ty0, ⟨hc, hin, -, -⟩, hj, hlink⟩ := hf
  intro H locs la hW hS hl
  have hP : va_P D vwCl [(ad k n, .inr (ci, fs))] H := by
    intro i q hq
    have hz : i < 1 := (List.getElem?_eq_some_iff.mp hq).1
    rw [show i = 0 by omega] at hq
    cases hq
    exact (hW.1 _ _ _ hg).1
  rcases hlink with hlink | ⟨host, hlink⟩
  · exact va_get (D := D) (ci := ci) hx hb hts hin hown hE.1 hP 0 rfl hc j hj (hts _ hlink) (fun _ h => h) hv hd (kk H locs la hW hS hl)
  · exact va_getN (D := D) (ci := ci) (host := host) hx hb hts hin hown hE.1 hP 0 rfl hc j hj (va_Nw.use rfl (hE.2.2.2.2.2.1 _ hlink)) (fun _ h => h) hv hd (kk H locs la hW hS hl)
theorem X_put (C : XB κ D Y A cc own nL R0) {k : Nat} {n : Int} {ci idx j : Nat} {fs : List Value} {v : Value} {ty : FieldType} (hg : g k n = some (.inr (ci, fs))) (hf : xFW own idx ci j ty) (hn : narrow ty v = v) (hfit : fits ty v = true) (hlen : j < fs.length) (hd : decode cc pc = .ok (.putfield idx, 3))
    (kk : X κ D A nL cells slots (pc + 3) l st ad (xup g k n (.inr (ci, fs.set j v)))) : X κ D A nL cells slots pc l (v :: .ref (ad k n) :: st) ad g := by
  obtain ⟨p, lc, e, R, s, m, args, below, meth, c, Q⟩ := κ
  obtain ⟨hx, hb, hml, hown, hts, hE, hA, hlc, hlk, hR⟩ := C
  obtain ⟨Cn, T, N, ty0, ⟨hc, hin, hty, hnm⟩, hj, hlink, hfin, hd'⟩ := hf
  intro H locs la hW hS hl
  have hK := hE.1
  have hap := va_apart (own := own) (ci := ci) hts hin ty0 hty hnm hK hc
  obtain ⟨r, h1, cell, q1, q2, q3, q4⟩ := (hW.1 _ _ _ hg).1
  have hr : r = (Cn, T, N) := Option.some.inj (h1.symm.trans hc)
  subst hr
  obtain ⟨hS', hfc, kC, hkC, hkind⟩ := hK.1 ci _ hc
  obtain ⟨cf, kf, fi, f, hi, hsl⟩ := hS' j hj
  have hlay := hts _ (hin _ (u_in_lay hj))
  unfold u_lay at hlay
  rw [if_neg (by rw [hfin]; decide)] at hlay
  have hst := (u_facts hfc hkC (u_lays hts hin hj) hi).1
  have h6 := u_store hfc hkC hkind hlay hi hd' hn hfit
  rcases hlink with hlink | ⟨host, hlink⟩
  · refine W.putK hx hb (f := f) ⟨hown, hts _ hlink, ⟨_, _, _, hi⟩, hst⟩ (by rw [q2]; exact h6) q1 q3 (by rw [hsl]; exact k2_hasslot (q4 j hj)) rfl rfl hd fun H' e1 e2 e3 => ?_
    rw [hsl] at e1 ⊢
    exact kk H' _ la (hW.set hg ⟨_, hc, t_OB.to (V := updV (vp_V fs) j v) ⟨_, e1, q2, q3, t_set q4 hap hj v⟩ (fun i _ => vp_updV_set hlen v i)⟩ e3) (hS.put e2 e3 (hW.1 _ _ _ hg).2) hl
  · refine va_WputK hx hb (f := f) hown (va_Nw.use rfl (hE.2.2.2.2.2.1 _ hlink)) hi hst (by rw [q2]; exact h6) q1 q3 (by rw [hsl]; exact k2_hasslot (q4 j hj)) rfl rfl hd fun H' e1 e2 e3 => ?_
    rw [hsl] at e1 ⊢
    exact kk H' _ la (hW.set hg ⟨_, hc, t_OB.to (V := updV (vp_V fs) j v) ⟨_, e1, q2, q3, t_set q4 hap hj v⟩ (fun i _ => vp_updV_set hlen v i)⟩ e3) (hS.put e2 e3 (hW.1 _ _ _ hg).2) hl
theorem X_putF (C : XB κ D Y A cc own nL R0) {rt : Option FieldType} {post : xPo} {px : xPx} (M : XM κ D A "<init>" rt R0 post px) {k : Nat} {n : Int} {ci idx j : Nat} {fs : List Value} {v : Value} {ty : FieldType} (hg : g k n = some (.inr (ci, fs))) (hf : xFF own idx ci j ty) (hn : narrow ty v = v) (hfit : fits ty v = true) (hlen : j < fs.length) (hd : decode cc pc = .ok (.putfield idx, 3))
    (kk : X κ D A nL cells slots (pc + 3) l st ad (xup g k n (.inr (ci, fs.set j v)))) : X κ D A nL cells slots pc l (v :: .ref (ad k n) :: st) ad g := by
  obtain ⟨p, lc, e, R, s, m, args, below, meth, c, Q⟩ := κ
  obtain ⟨hx, hb, hml, hown, hts, hE, hA, hlc, hlk, hR⟩ := C
  obtain ⟨Cn, T, N, ty0, ⟨hc, hin, hty, hnm⟩, hj, hlink, hfin, hdecl, hd'⟩ := hf
  intro H locs la hW hS hl
  have hK := hE.1
  have hap := va_apart (own := own) (ci := ci) hts hin ty0 hty hnm hK hc
  obtain ⟨r, h1, cell, q1, q2, q3, q4⟩ := (hW.1 _ _ _ hg).1
  have hr : r = (Cn, T, N) := Option.some.inj (h1.symm.trans hc)
  subst hr
  obtain ⟨hS', hfc, kC, hkC, hkind⟩ := hK.1 ci _ hc
  obtain ⟨cf, kf, fi, f, hi, hsl⟩ := hS' j hj
  have hlay := hts _ (hin _ (u_in_lay hj))
  unfold u_lay at hlay
  rw [if_pos hfin] at hlay
  have hst := (u_facts hfc hkC (u_lays hts hin hj) hi).1
  have hcf : m.cls = cf := by
    obtain ⟨_, _, c', _, _, _, -, -, hf', -, -, -, hown2, -⟩ := Cond.laysFinal_spec hlay
    have e1 : c' = cf := by have := hi.symm.trans hf'; simp at this; exact this.1.symm
    rw [hdecl] at hown2
    rw [← e1]; exact Option.some.inj (hown.symm.trans hown2)
  have h6 := u_fits hfc hkC hkind (Or.inr hlay) hi hd' hn hfit
  refine W.putFinK hx hb hown (hts _ hlink) hi hst hcf M.2.2.1 (by rw [q2]; exact h6) q1 q3 (by rw [hsl]; exact k2_hasslot (q4 j hj)) rfl rfl hd fun H' e1 e2 e3 => ?_
  rw [hsl] at e1 ⊢
  exact kk H' _ la (hW.set hg ⟨_, hc, t_OB.to (V := updV (vp_V fs) j v) ⟨_, e1, q2, q3, t_set q4 hap hj v⟩ (fun i _ => vp_updV_set hlen v i)⟩ e3) (hS.put e2 e3 (hW.1 _ _ _ hg).2) hl
theorem X_iald (C : XB κ D Y A cc own nL R0) {k : Nat} {n : Int} {N : Nat} {f : Nat → Int32} {z : Int} {v : Int32} (hg : g k n = some (.inl (Y 0, N, .inl f))) (h0 : 0 ≤ z) (h1 : z < N) (hN : N ≤ 2147483647) (hv : f z.toNat = v) (hd : decode cc pc = .ok (.iaload, 1))
    (kk : X κ D A nL cells slots (pc + 1) l (.int v :: st) ad g) : X κ D A nL cells slots pc l (.int (iI z) :: .ref (ad k n) :: st) ad g := by
  obtain ⟨p, lc, e, R, s, m, args, below, meth, c, Q⟩ := κ
  obtain ⟨hx, hb, hml, hown, hts, hE, hA, hlc, hlk, hR⟩ := C
  intro H locs la hW hS hl
  have hr : rg z := by constructor <;> omega
  have hlt : z.toNat < N := by omega
  have ho : vp_in (iI z) N := iI_in h0 h1 hN
  exact W.iald (v := .int v) hx hb (hW.1 _ _ _ hg).1 ((hE.1.2 0 _ rfl).1 N (fun j => .int (f j))) (fun q => by cases q) (by show ¬ (_ ∨ (arrV _ _ _).slots.size ≤ _); rw [arrV_size]; exact ho) (by show (arrV _ _ _).slots[_]? = _; rw [iI_clamp hr, arrV_read _ _ hlt, hv]) rfl rfl hd (kk H locs la hW hS hl)
theorem X_zald (C : XB κ D Y A cc own nL R0) {k : Nat} {n : Int} {N : Nat} {f : Nat → Int32} {z : Int} {v : Int32} (hg : g k n = some (.inl (Y 1, N, .inl f))) (h0 : 0 ≤ z) (h1 : z < N) (hN : N ≤ 2147483647) (hv : f z.toNat = v) (hd : decode cc pc = .ok (.baload, 1))
    (kk : X κ D A nL cells slots (pc + 1) l (.int v :: st) ad g) : X κ D A nL cells slots pc l (.int (iI z) :: .ref (ad k n) :: st) ad g := by
  obtain ⟨p, lc, e, R, s, m, args, below, meth, c, Q⟩ := κ
  obtain ⟨hx, hb, hml, hown, hts, hE, hA, hlc, hlk, hR⟩ := C
  intro H locs la hW hS hl
  have hr : rg z := by constructor <;> omega
  have hlt : z.toNat < N := by omega
  have ho : vp_in (iI z) N := iI_in h0 h1 hN
  exact W.zald (v := .int v) hx hb (hW.1 _ _ _ hg).1 ((hE.1.2 1 _ rfl).1 N (fun j => .int (f j))) (fun q => by cases q) (by show ¬ (_ ∨ (arrV _ _ _).slots.size ≤ _); rw [arrV_size]; exact ho) (by show (arrV _ _ _).slots[_]? = _; rw [iI_clamp hr, arrV_read _ _ hlt, hv]) rfl rfl hd (kk H locs la hW hS hl)
theorem X_lald (C : XB κ D Y A cc own nL R0) {k : Nat} {n : Int} {N : Nat} {f : Nat → Int64} {z : Int} {v : Int64} (hg : g k n = some (.inl (Y 2, N, .inr (.inl f)))) (h0 : 0 ≤ z) (h1 : z < N) (hN : N ≤ 2147483647) (hv : f z.toNat = v) (hd : decode cc pc = .ok (.laload, 1))
    (kk : X κ D A nL cells slots (pc + 1) l (.long v :: st) ad g) : X κ D A nL cells slots pc l (.int (iI z) :: .ref (ad k n) :: st) ad g := by
  obtain ⟨p, lc, e, R, s, m, args, below, meth, c, Q⟩ := κ
  obtain ⟨hx, hb, hml, hown, hts, hE, hA, hlc, hlk, hR⟩ := C
  intro H locs la hW hS hl
  have hr : rg z := by constructor <;> omega
  have hlt : z.toNat < N := by omega
  have ho : vp_in (iI z) N := iI_in h0 h1 hN
  exact W.lald (v := .long v) hx hb (hW.1 _ _ _ hg).1 ((hE.1.2 2 _ rfl).1 N (fun j => .long (f j))) (fun q => by cases q) (by show ¬ (_ ∨ (arrV _ _ _).slots.size ≤ _); rw [arrV_size]; exact ho) (by show (arrV _ _ _).slots[_]? = _; rw [iI_clamp hr, arrV_read _ _ hlt, hv]) rfl rfl hd (kk H locs la hW hS hl)
theorem X_dald (C : XB κ D Y A cc own nL R0) {k : Nat} {n : Int} {N : Nat} {f : Nat → UInt64} {z : Int} {v : UInt64} (hg : g k n = some (.inl (Y 3, N, .inr (.inr (.inr (.inl f)))))) (h0 : 0 ≤ z) (h1 : z < N) (hN : N ≤ 2147483647) (hv : f z.toNat = v) (hd : decode cc pc = .ok (.daload, 1))
    (kk : X κ D A nL cells slots (pc + 1) l (.double v :: st) ad g) : X κ D A nL cells slots pc l (.int (iI z) :: .ref (ad k n) :: st) ad g := by
  obtain ⟨p, lc, e, R, s, m, args, below, meth, c, Q⟩ := κ
  obtain ⟨hx, hb, hml, hown, hts, hE, hA, hlc, hlk, hR⟩ := C
  intro H locs la hW hS hl
  have hr : rg z := by constructor <;> omega
  have hlt : z.toNat < N := by omega
  have ho : vp_in (iI z) N := iI_in h0 h1 hN
  exact W.dald (v := .double v) hx hb (hW.1 _ _ _ hg).1 ((hE.1.2 3 _ rfl).1 N (fun j => .double (f j))) (fun q => by cases q) (by show ¬ (_ ∨ (arrV _ _ _).slots.size ≤ _); rw [arrV_size]; exact ho) (by show (arrV _ _ _).slots[_]? = _; rw [iI_clamp hr, arrV_read _ _ hlt, hv]) rfl rfl hd (kk H locs la hW hS hl)
theorem X_aald (C : XB κ D Y A cc own nL R0) {k t : Nat} {n : Int} {N : Nat} {Cn : String} {f : Nat → Option Nat} {z : Int} {v : Nat} (hg : g k n = some (.inl (Y t, N, .inr (.inr (.inr (.inr f)))))) (ht : (xTys Y)[t]? = some (Y t, .object Cn)) (h0 : 0 ≤ z) (h1 : z < N) (hN : N ≤ 2147483647) (hv : f z.toNat = some v) (hd : decode cc pc = .ok (.aaload, 1))
    (kk : X κ D A nL cells slots (pc + 1) l (.ref v :: st) ad g) : X κ D A nL cells slots pc l (.int (iI z) :: .ref (ad k n) :: st) ad g := by
  obtain ⟨p, lc, e, R, s, m, args, below, meth, c, Q⟩ := κ
  obtain ⟨hx, hb, hml, hown, hts, hE, hA, hlc, hlk, hR⟩ := C
  intro H locs la hW hS hl
  have hr : rg z := by constructor <;> omega
  have hlt : z.toNat < N := by omega
  have ho : vp_in (iI z) N := iI_in h0 h1 hN
  exact W.aald (v := .ref v) (ty := .object Cn) hx hb (hW.1 _ _ _ hg).1 ((hE.1.2 t _ ht).1 N (fun j => va_rf (f j))) rfl (fun q => by cases q) (by show ¬ (_ ∨ (arrV _ _ _).slots.size ≤ _); rw [arrV_size]; exact ho) (by show (arrV _ _ _).slots[_]? = _; rw [iI_clamp hr, arrV_read _ _ hlt, hv]; rfl) rfl rfl hd (kk H locs la hW hS hl)
theorem X_iast (C : XB κ D Y A cc own nL R0) {k : Nat} {n : Int} {N : Nat} {f : Nat → Int32} {z : Int} {x : Int32} (hg : g k n = some (.inl (Y 0, N, .inl f))) (h0 : 0 ≤ z) (h1 : z < N) (hN : N ≤ 2147483647) (hd : decode cc pc = .ok (.iastore, 1))
    (kk : X κ D A nL cells slots (pc + 1) l st ad (xup g k n (.inl (Y 0, N, .inl (upd f z.toNat x))))) : X κ D A nL cells slots pc l (.int x :: .int (iI z) :: .ref (ad k n) :: st) ad g := by
  obtain ⟨p, lc, e, R, s, m, args, below, meth, c, Q⟩ := κ
  obtain ⟨hx, hb, hml, hown, hts, hE, hA, hlc, hlk, hR⟩ := C
  intro H locs la hW hS hl
  have hr : rg z := by constructor <;> omega
  have ho : vp_in (iI z) N := iI_in h0 h1 hN
  refine W.iast hx hb (hW.1 _ _ _ hg).1 ((hE.1.2 0 _ rfl).1 N (fun j => .int (f j))) (fun q => by cases q) (by show ¬ (_ ∨ (arrV _ _ _).slots.size ≤ _); rw [arrV_size]; exact ho) rfl rfl hd fun H1 e1 z1 oq => ?_
  refine kk H1 _ la (hW.set hg ?_ oq) (hS.put z1 oq (hW.1 _ _ _ hg).2) hl
  show H1[ad k n]? = some (vp_cell _ _)
  rw [e1, iI_clamp hr]
  rw [vp_cell_i, vp_cell_i, arrV_store]
  congr 2
  funext q
  by_cases hq : q = z.toNat
  · subst hq
    simp [updV, upd]
  · simp [updV, upd, hq]
theorem X_zast (C : XB κ D Y A cc own nL R0) {k : Nat} {n : Int} {N : Nat} {f : Nat → Int32} {z : Int} {x : Int32} (hx1 : x = 0 ∨ x = 1) (hg : g k n = some (.inl (Y 1, N, .inl f))) (h0 : 0 ≤ z) (h1 : z < N) (hN : N ≤ 2147483647) (hd : decode cc pc = .ok (.bastore, 1))
    (kk : X κ D A nL cells slots (pc + 1) l st ad (xup g k n (.inl (Y 1, N, .inl (upd f z.toNat x))))) : X κ D A nL cells slots pc l (.int x :: .int (iI z) :: .ref (ad k n) :: st) ad g := by
  obtain ⟨p, lc, e, R, s, m, args, below, meth, c, Q⟩ := κ
  obtain ⟨hx, hb, hml, hown, hts, hE, hA, hlc, hlk, hR⟩ := C
  intro H locs la hW hS hl
  have hr : rg z := by constructor <;> omega
  have ho : vp_in (iI z) N := iI_in h0 h1 hN
  have hnar : vp_nar .boolean x = x := by
    rcases hx1 with rfl | rfl <;> rfl
  refine W.zast hx hb (hW.1 _ _ _ hg).1 ((hE.1.2 1 _ rfl).1 N (fun j => .int (f j))) (fun q => by cases q) (by show ¬ (_ ∨ (arrV _ _ _).slots.size ≤ _); rw [arrV_size]; exact ho) rfl rfl hd fun H1 e1 z1 oq => ?_
  refine kk H1 _ la (hW.set hg ?_ oq) (hS.put z1 oq (hW.1 _ _ _ hg).2) hl
  show H1[ad k n]? = some (vp_cell _ _)
  rw [e1, iI_clamp hr]
  rw [vp_cell_i, vp_cell_i, arrV_store]
  congr 2
  funext q
  by_cases hq : q = z.toNat
  · subst hq
    rcases hx1 with rfl | rfl <;> (simp [updV, upd]; try rfl)
  · simp [updV, upd, hq]
theorem X_last (C : XB κ D Y A cc own nL R0) {k : Nat} {n : Int} {N : Nat} {f : Nat → Int64} {z : Int} {x : Int64} (hg : g k n = some (.inl (Y 2, N, .inr (.inl f)))) (h0 : 0 ≤ z) (h1 : z < N) (hN : N ≤ 2147483647) (hd : decode cc pc = .ok (.lastore, 1))
    (kk : X κ D A nL cells slots (pc + 1) l st ad (xup g k n (.inl (Y 2, N, .inr (.inl (vp_updL f z.toNat x)))))) : X κ D A nL cells slots pc l (.long x :: .int (iI z) :: .ref (ad k n) :: st) ad g := by
  obtain ⟨p, lc, e, R, s, m, args, below, meth, c, Q⟩ := κ
  obtain ⟨hx, hb, hml, hown, hts, hE, hA, hlc, hlk, hR⟩ := C
  intro H locs la hW hS hl
  have hr : rg z := by constructor <;> omega
  have ho : vp_in (iI z) N := iI_in h0 h1 hN
  refine W.last hx hb (hW.1 _ _ _ hg).1 ((hE.1.2 2 _ rfl).1 N (fun j => .long (f j))) (fun q => by cases q) (by show ¬ (_ ∨ (arrV _ _ _).slots.size ≤ _); rw [arrV_size]; exact ho) rfl rfl hd fun H1 e1 z1 oq => ?_
  refine kk H1 _ la (hW.set hg ?_ oq) (hS.put z1 oq (hW.1 _ _ _ hg).2) hl
  show H1[ad k n]? = some (vp_cell _ _)
  rw [e1, iI_clamp hr]
  rw [vp_cell_l, vp_cell_l, arrV_store]
  congr 2
  funext q
  by_cases hq : q = z.toNat
  · subst hq
    simp [updV, vp_updL]
  · simp [updV, vp_updL, hq]
theorem X_dast (C : XB κ D Y A cc own nL R0) {k : Nat} {n : Int} {N : Nat} {f : Nat → UInt64} {z : Int} {x : UInt64} (hg : g k n = some (.inl (Y 3, N, .inr (.inr (.inr (.inl f)))))) (h0 : 0 ≤ z) (h1 : z < N) (hN : N ≤ 2147483647) (hd : decode cc pc = .ok (.dastore, 1))
    (kk : X κ D A nL cells slots (pc + 1) l st ad (xup g k n (.inl (Y 3, N, .inr (.inr (.inr (.inl (vf_upd f z.toNat x)))))))) : X κ D A nL cells slots pc l (.double x :: .int (iI z) :: .ref (ad k n) :: st) ad g := by
  obtain ⟨p, lc, e, R, s, m, args, below, meth, c, Q⟩ := κ
  obtain ⟨hx, hb, hml, hown, hts, hE, hA, hlc, hlk, hR⟩ := C
  intro H locs la hW hS hl
  have hr : rg z := by constructor <;> omega
  have ho : vp_in (iI z) N := iI_in h0 h1 hN
  refine W.dast hx hb (hW.1 _ _ _ hg).1 ((hE.1.2 3 _ rfl).1 N (fun j => .double (f j))) (fun q => by cases q) (by show ¬ (_ ∨ (arrV _ _ _).slots.size ≤ _); rw [arrV_size]; exact ho) rfl rfl hd fun H1 e1 z1 oq => ?_
  refine kk H1 _ la (hW.set hg ?_ oq) (hS.put z1 oq (hW.1 _ _ _ hg).2) hl
  show H1[ad k n]? = some (vp_cell _ _)
  rw [e1, iI_clamp hr]
  rw [vp_cell_d, vp_cell_d, arrV_store]
  congr 2
  funext q
  by_cases hq : q = z.toNat
  · subst hq
    simp [updV, vf_upd]
  · simp [updV, vf_upd, hq]
theorem X_aast (C : XB κ D Y A cc own nL R0) {k t k2 : Nat} {n n2 : Int} {N ci : Nat} {r : vw_C} {vs : List Value} {f : Nat → Option Nat} {z : Int} (hg : g k n = some (.inl (Y t, N, .inr (.inr (.inr (.inr f)))))) (ht : (xTys Y)[t]? = some (Y t, .object r.1)) (hc : vwCl[ci]? = some r) (hg2 : g k2 n2 = some (.inr (ci, vs))) (h0 : 0 ≤ z) (h1 : z < N) (hN : N ≤ 2147483647) (hd : decode cc pc = .ok (.aastore, 1))
    (kk : X κ D A nL cells slots (pc + 1) l st ad (xup g k n (.inl (Y t, N, .inr (.inr (.inr (.inr (va_up f z.toNat (some (ad k2 n2)))))))))) : X κ D A nL cells slots pc l (.ref (ad k2 n2) :: .int (iI z) :: .ref (ad k n) :: st) ad g := by
  obtain ⟨p, lc, e, R, s, m, args, below, meth, c, Q⟩ := κ
  obtain ⟨hx, hb, hml, hown, hts, hE, hA, hlc, hlk, hR⟩ := C
  intro H locs la hW hS hl
  have hr : rg z := by constructor <;> omega
  have hlt : z.toNat < N := by omega
  have ho : vp_in (iI z) N := iI_in h0 h1 hN
  have hz0 : ¬ iI z < 0 := fun q => ho (Or.inl q)
  obtain ⟨r', hr', cellV, g1, g2, g3, -⟩ := (hW.1 _ _ _ hg2).1
  have hcls := (hE.1.1 ci r hc).2
  obtain ⟨kA, comp, k1, k2, k3, -⟩ := (hE.1.2 t _ ht).2
  have hcomp : comp = D.1 ci := Option.some.inj (k3.symm.trans hcls.1)
  subst hcomp
  obtain ⟨kC, hkC, -⟩ := hcls.2
  refine W.aast hx hb (hW.1 _ _ _ hg).1 (fun q h => by cases h) (fun h => by cases h) k1 k2 rfl hkC ⟨hz0, by show _ < (arrV _ _ _).slots.size; rw [arrV_size, iI_clamp hr]; exact hlt⟩ g1 (fun q h => by rw [g3] at h; cases h) (by rw [g2]; exact hkC) (by rw [g2]; exact va_assign hcls) rfl rfl hd fun H1 e1 z1 oq => ?_
  refine kk H1 _ la (hW.set hg ?_ oq) (hS.put z1 oq (hW.1 _ _ _ hg).2) hl
  show H1[ad k n]? = some (vp_cell _ _)
  rw [e1, iI_clamp hr]
  rw [vp_cell_q, vp_cell_q, arrV_store]
  congr 2
  funext q
  by_cases hq : q = z.toNat
  · subst hq
    simp [updV, va_up, va_rf]
  · simp [updV, va_up, hq]
theorem X_new (C : XB κ D Y A cc own nL R0) {k : Nat} {n : Int} {ci idx : Nat} {Cn : String} {T : u_T} {N : Nat} {ty0 : Nat → FieldType} {fs : List Value} (hg : g k n = none) (hc : xCl ci Cn T N ty0) (hcl : Cond.classLink own idx Cn ∈ gw) (hins : Cond.instantiable Cn N ∈ gw) (hini : Cond.initialized Cn ∈ gw) (hfs : ∀ j, j < N → defaultValue (ty0 j) = vp_V fs j) (hcells : cells + 1 ≤ R0.cells) (hslots : slots + N ≤ R0.slots) (hd : decode cc pc = .ok (.new idx, 3))
    (kk : ∀ q : Nat, X κ D A nL (cells + 1) (slots + N) (pc + 3) l (.ref (xua ad k n q k n) :: st) (xua ad k n q) (xup g k n (.inr (ci, fs)))) : X κ D A nL cells slots pc l st ad g := by
  obtain ⟨p, lc, e, R, s, m, args, below, meth, c, Q⟩ := κ
  obtain ⟨hx, hb, hml, hown, hts, hE, hA, hlc, hlk, hR⟩ := C
  subst hR
  obtain ⟨hc, hin, hty, hnm⟩ := hc
  intro H locs la hW hS hl
  have hKn := hE.1.1 ci _ hc
  refine W.newcK hx hb hown (hts _ hcl) (hts _ hins) (hts _ hini) rfl hd hcells hslots hKn.2.1 rfl fun H1 kC hkC e1 z1 o1 => ?_
  have h := kk H.size
  rw [xua_s] at h
  exact h H1 _ la (hW.push hg ⟨_, hc, (u_born ty0 hts hin hKn hkC e1 hty).to hfs⟩ rfl (hA _ hS.1) o1) ⟨Nat.le_trans hS.1 (by omega), fun x h1 h2 => (o1 x (Nat.lt_of_lt_of_le h1 hS.1)).trans (hS.2.1 x h1 h2), hS.2.2⟩ hl
theorem X_newa (C : XB κ D Y A cc own nL R0) {k : Nat} {n : Int} {t : Nat} {atype : ArrayType} {N : Nat} {z : Int} {x : vp_A} (hg : g k n = none) (harr : Cond.arrayClass (newarray.typeOf atype) ∈ gw) (ht : (xTys Y)[t]? = some (Y t, newarray.typeOf atype)) (hra : ∀ U cA, va_RA U cA (newarray.typeOf atype) → U.vm.findClass ("[" ++ (newarray.typeOf atype).toString) = some cA) (hz : z = (N : Int)) (hN : N ≤ 2147483647) (hbytes : N * componentBytes (newarray.typeOf atype) ≤ 536870912) (hxc : ∀ cA : ClassId, vp_cell cA x = arrV cA N (fun _ => defaultValue (newarray.typeOf atype))) (hcells : cells + 1 ≤ R0.cells) (hslots : slots + N ≤ R0.slots) (hd : decode cc pc = .ok (.newarray atype, 2))
    (kk : ∀ q : Nat, X κ D A nL (cells + 1) (slots + N) (pc + 2) l (.ref (xua ad k n q k n) :: st) (xua ad k n q) (xup g k n (.inl (Y t, x)))) : X κ D A nL cells slots pc l (.int (iI z) :: st) ad g := by
  obtain ⟨p, lc, e, R, s, m, args, below, meth, c, Q⟩ := κ
  obtain ⟨hx, hb, hml, hown, hts, hE, hA, hlc, hlk, hR⟩ := C
  subst hR
  subst hz
  intro H locs la hW hS hl
  have hr : rg (N : Int) := by constructor <;> omega
  refine va_newaK hx hb (hts _ harr) rfl hd rfl (fun q => by rw [iI_0, iI_lt hr rg0] at q; omega) (by rw [iI_clamp hr]; rfl) hbytes hcells hslots rfl fun H1 cA e1 z1 o1 hAr hNm => ?_
  have hcA : cA = Y t := Option.some.inj (hNm.symm.trans (hra _ _ (hE.1.2 t _ ht).2))
  subst hcA
  have h := kk H.size
  rw [xua_s] at h
  refine h H1 _ la (hW.push hg ?_ rfl (hA _ hS.1) o1) ⟨Nat.le_trans hS.1 (by omega), fun x h1 h2 => (o1 x (Nat.lt_of_lt_of_le h1 hS.1)).trans (hS.2.1 x h1 h2), hS.2.2⟩ hl
  show H1[H.size]? = some (vp_cell _ _)
  rw [hxc]
  exact e1
theorem X_anewa (C : XB κ D Y A cc own nL R0) {k : Nat} {n : Int} {t idx : Nat} {Cn : String} {N : Nat} {z : Int} (hg : g k n = none) (hcl : Cond.classLink own idx Cn ∈ gw) (hao : ∀ U, xGE D Y A U → va_AO Cn U) (ht : (xTys Y)[t]? = some (Y t, .object Cn)) (hz : z = (N : Int)) (hN : N ≤ 1000) (hcells : cells + 1 ≤ R0.cells) (hslots : slots + N ≤ R0.slots) (hd : decode cc pc = .ok (.anewarray idx, 3))
    (kk : ∀ q : Nat, X κ D A nL (cells + 1) (slots + N) (pc + 3) l (.ref (xua ad k n q k n) :: st) (xua ad k n q) (xup g k n (.inl (Y t, N, .inr (.inr (.inr (.inr (fun _ => none)))))))) : X κ D A nL cells slots pc l (.int (iI z) :: st) ad g := by
  obtain ⟨p, lc, e, R, s, m, args, below, meth, c, Q⟩ := κ
  obtain ⟨hx, hb, hml, hown, hts, hE, hA, hlc, hlk, hR⟩ := C
  subst hR
  subst hz
  intro H locs la hW hS hl
  have hr : rg (N : Int) := by constructor <;> omega
  have hcl0 : (iI (N : Int)).toNatClampNeg = N := by rw [iI_clamp hr]; rfl
  refine W.anew hx hb hown (hts _ hcl) (va_AO.use (hao _ hE)) rfl hd rfl (fun q => by rw [iI_0, iI_lt hr rg0] at q; omega) (by rw [hcl0]; omega) hcells (by rw [hcl0]; exact hslots) fun cA kA comp f1 f2 f3 f4 => ?_
  rw [hcl0]
  generalize hH1 : H.push ({ cls := cA, slots := Array.replicate N .null, vm := .none } : Cell) = H1
  have z1 : H1.size = H.size + 1 := by rw [← hH1, Array.size_push]
  have e1 : H1[H.size]? = some (arrV cA N (fun _ => .null)) := by rw [← hH1, Array.getElem?_push_size, ← arrV_new]
  have o1 : ∀ q : Nat, q < H.size → H1[q]? = H[q]? := fun q hq => by rw [← hH1, Array.getElem?_push, if_neg (Nat.ne_of_lt hq)]
  obtain ⟨kA', comp', a1, a2, a3, a4⟩ := (hE.1.2 t _ ht).2
  have hcA : cA = Y t := Option.some.inj (f1.symm.trans a4)
  subst hcA
  have h := kk H.size
  rw [xua_s] at h
  refine h H1 _ la (hW.push hg ?_ rfl (hA _ hS.1) o1) ⟨Nat.le_trans hS.1 (by omega), fun x h1 h2 => (o1 x (Nat.lt_of_lt_of_le h1 hS.1)).trans (hS.2.1 x h1 h2), hS.2.2⟩ hl
  show H1[H.size]? = some (vp_cell _ _)
  rw [vp_cell_q]
  exact e1
theorem X_objInit (C : XB κ D Y A cc own nL R0) {idx : Nat} {a : Nat} (h1 : Cond.methodLink own idx Lib.objectInit ∈ gw) (h2 : Cond.instanceMethod Lib.objectInit ∈ gw) (h3 : Cond.code Lib.objectInit ⟨#[0xb1]⟩ 1 none ∈ gw) (hfr : 1 ≤ R0.frames) (hlo : (st.map fun v => v.category).sum + 12 ≤ R0.locals) (hd : decode cc pc = .ok (.invokespecial idx, 3))
    (kk : X κ D A nL cells slots (pc + 3) l st ad g) : X κ D A nL cells slots pc l (.ref a :: st) ad g := by
  obtain ⟨p, lc, e, R, s, m, args, below, meth, c, Q⟩ := κ
  obtain ⟨hx, hb, hml, hown, hts, hE, hA, hlc, hlk, hR⟩ := C
  subst hR
  intro H locs la hW hS hl
  refine W.objInit hx hb hown (hts _ h1) (hts _ h2) (hts _ h3) rfl (by rw [hml]; exact hl.1) rfl hd hfr ?_ (kk H locs la hW hS hl)
  show 2 * 0 + _ + 12 ≤ _
  omega
/-! ends -/
theorem x_end {Q' : State → Prop} {cells' slots' : Nat} {p : Program} {lc : Launch} {e : Env} {R : Room} {s : State} {m : MethodId} {args : Array Value} {below : List Frame} {meth : Method} {c : Code} {H : Heap} {locs : List Loc} {gf : JFrame} {post : xPo} {px : xPx} (hc : cells ≤ cells') (hs : slots ≤ slots') (hq : Q' = vx_MQ below (cQ D A post) (cX D A px) args s cells' slots' A)
    (kk : W p lc e R s m args below meth c H locs cells' slots' (MQ below (cQ D A post) args s cells' slots' A) gf) : W p lc e R s m args below meth c H locs cells slots Q' gf := by
  subst hq
  exact W.widen hc hs (vx_ret kk)
theorem X_ireturn (C : XB κ D Y A cc own nL R0) {ty : FieldType} {nm : String} {post : xPo} {px : xPx} (M : XM κ D A nm (some ty) R0 post px) {v : Int32} (hn : narrow ty (.int v) = .int v) (hc : cells ≤ R0.cells) (hs : slots ≤ R0.slots) (hd : decode cc pc = .ok (.ireturn, 1)) (hp : post (some (.int v)) ad g) : X κ D A nL cells slots pc l [.int v] ad g := by
  obtain ⟨p, lc, e, R, s, m, args, below, meth, c, Q⟩ := κ
  obtain ⟨hx, hb, hml, hown, hts, hE, hA, hlc, hlk, hR⟩ := C
  obtain ⟨-, hr, -, -, hQ⟩ := M
  intro H locs la hW hS hl
  exact x_end hc hs hQ (W.zret (ty := ty) hx hb hr hn (fun t ht hWm => ⟨⟨_, ad, g, rfl, hp, by rw [ht]; exact hW⟩, hS.F ht⟩) hS.2.2 hd hlk)
theorem X_return (C : XB κ D Y A cc own nL R0) {nm : String} {post : xPo} {px : xPx} (M : XM κ D A nm none R0 post px) (hc : cells ≤ R0.cells) (hs : slots ≤ R0.slots) (hd : decode cc pc = .ok (.return_, 1)) (hp : post none ad g) : X κ D A nL cells slots pc l [] ad g := by
  obtain ⟨p, lc, e, R, s, m, args, below, meth, c, Q⟩ := κ
  obtain ⟨hx, hb, hml, hown, hts, hE, hA, hlc, hlk, hR⟩ := C
  obtain ⟨-, hr, -, -, hQ⟩ := M
  intro H locs la hW hS hl
  exact x_end hc hs hQ (W.vret hx hb hr (fun t ht hWm => ⟨⟨_, ad, g, rfl, hp, by rw [ht]; exact hW⟩, hS.F ht⟩) hS.2.2 hd hlk)
theorem X_areturn (C : XB κ D Y A cc own nL R0) {Cn nm : String} {post : xPo} {px : xPx} (M : XM κ D A nm (some (.object Cn)) R0 post px) {a : Nat} (hc : cells ≤ R0.cells) (hs : slots ≤ R0.slots) (hd : decode cc pc = .ok (.areturn, 1)) (hp : post (some (.ref a)) ad g) : X κ D A nL cells slots pc l [.ref a] ad g := by
  obtain ⟨p, lc, e, R, s, m, args, below, meth, c, Q⟩ := κ
  obtain ⟨hx, hb, hml, hown, hts, hE, hA, hlc, hlk, hR⟩ := C
  obtain ⟨-, hr, -, -, hQ⟩ := M
  intro H locs la hW hS hl
  exact x_end hc hs hQ (W.aret hx hb hr (Or.inl ⟨_, rfl⟩) (Or.inr ⟨_, rfl⟩) (fun t ht hWm => ⟨⟨_, ad, g, rfl, hp, by rw [ht]; exact hW⟩, hS.F ht⟩) hS.2.2 hd hlk)
theorem X_lreturn (C : XB κ D Y A cc own nL R0) {nm : String} {post : xPo} {px : xPx} (M : XM κ D A nm (some .long) R0 post px) {v : Int64} (hc : cells ≤ R0.cells) (hs : slots ≤ R0.slots) (hd : decode cc pc = .ok (.lreturn, 1)) (hp : post (some (.long v)) ad g) : X κ D A nL cells slots pc l [.long v] ad g := by
  obtain ⟨p, lc, e, R, s, m, args, below, meth, c, Q⟩ := κ
  obtain ⟨hx, hb, hml, hown, hts, hE, hA, hlc, hlk, hR⟩ := C
  obtain ⟨-, hr, -, -, hQ⟩ := M
  intro H locs la hW hS hl
  exact x_end hc hs hQ (W.lret hx hb hr (fun t ht hWm => ⟨⟨_, ad, g, rfl, hp, by rw [ht]; exact hW⟩, hS.F ht⟩) hS.2.2 hd hlk)
theorem X_freturn (C : XB κ D Y A cc own nL R0) {nm : String} {post : xPo} {px : xPx} (M : XM κ D A nm (some .float) R0 post px) {v : UInt32} (hc : cells ≤ R0.cells) (hs : slots ≤ R0.slots) (hd : decode cc pc = .ok (.freturn, 1)) (hp : post (some (.float v)) ad g) : X κ D A nL cells slots pc l [.float v] ad g := by
  obtain ⟨p, lc, e, R, s, m, args, below, meth, c, Q⟩ := κ
  obtain ⟨hx, hb, hml, hown, hts, hE, hA, hlc, hlk, hR⟩ := C
  obtain ⟨-, hr, -, -, hQ⟩ := M
  intro H locs la hW hS hl
  exact x_end hc hs hQ (W.fret hx hb hr (fun t ht hWm => ⟨⟨_, ad, g, rfl, hp, by rw [ht]; exact hW⟩, hS.F ht⟩) hS.2.2 hd hlk)
theorem X_dreturn (C : XB κ D Y A cc own nL R0) {nm : String} {post : xPo} {px : xPx} (M : XM κ D A nm (some .double) R0 post px) {v : UInt64} (hc : cells ≤ R0.cells) (hs : slots ≤ R0.slots) (hd : decode cc pc = .ok (.dreturn, 1)) (hp : post (some (.double v)) ad g) : X κ D A nL cells slots pc l [.double v] ad g := by
  obtain ⟨p, lc, e, R, s, m, args, below, meth, c, Q⟩ := κ
  obtain ⟨hx, hb, hml, hown, hts, hE, hA, hlc, hlk, hR⟩ := C
  obtain ⟨-, hr, -, -, hQ⟩ := M
  intro H locs la hW hS hl
  exact x_end hc hs hQ (W.dret hx hb hr (fun t ht hWm => ⟨⟨_, ad, g, rfl, hp, by rw [ht]; exact hW⟩, hS.F ht⟩) hS.2.2 hd hlk)
end XH
