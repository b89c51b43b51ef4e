/-! the law's methods: rules for a body with handlers -/
def xNots : List (String × String) := [("java/util/NoSuchElementException", "java/lang/IllegalStateException"), ("java/util/NoSuchElementException", "java/lang/IndexOutOfBoundsException"), ("java/util/NoSuchElementException", "java/lang/IllegalArgumentException"), ("java/util/NoSuchElementException", "java/lang/UnsupportedOperationException"), ("java/util/NoSuchElementException", "java/lang/ArithmeticException"), ("java/lang/IllegalStateException", "java/util/NoSuchElementException"), ("java/lang/IllegalStateException", "java/lang/IndexOutOfBoundsException"), ("java/lang/IllegalStateException", "java/lang/IllegalArgumentException"), ("java/lang/IllegalStateException", "java/lang/UnsupportedOperationException"), ("java/lang/IllegalStateException", "java/lang/ArithmeticException"), ("java/lang/IndexOutOfBoundsException", "java/util/NoSuchElementException"), ("java/lang/IndexOutOfBoundsException", "java/lang/IllegalStateException"), ("java/lang/IndexOutOfBoundsException", "java/lang/IllegalArgumentException"), ("java/lang/IndexOutOfBoundsException", "java/lang/UnsupportedOperationException"), ("java/lang/IndexOutOfBoundsException", "java/lang/ArithmeticException"), ("java/lang/IllegalArgumentException", "java/util/NoSuchElementException"), ("java/lang/IllegalArgumentException", "java/lang/IllegalStateException"), ("java/lang/IllegalArgumentException", "java/lang/IndexOutOfBoundsException"), ("java/lang/IllegalArgumentException", "java/lang/UnsupportedOperationException"), ("java/lang/IllegalArgumentException", "java/lang/ArithmeticException"), ("java/lang/UnsupportedOperationException", "java/util/NoSuchElementException"), ("java/lang/UnsupportedOperationException", "java/lang/IllegalStateException"), ("java/lang/UnsupportedOperationException", "java/lang/IndexOutOfBoundsException"), ("java/lang/UnsupportedOperationException", "java/lang/IllegalArgumentException"), ("java/lang/UnsupportedOperationException", "java/lang/ArithmeticException"), ("java/lang/ArithmeticException", "java/util/NoSuchElementException"), ("java/lang/ArithmeticException", "java/lang/IllegalStateException"), ("java/lang/ArithmeticException", "java/lang/IndexOutOfBoundsException"), ("java/lang/ArithmeticException", "java/lang/IllegalArgumentException"), ("java/lang/ArithmeticException", "java/lang/UnsupportedOperationException")]
def xGN (U : State) : Prop := ∀ x ∈ xNots, va_Nc x.1 x.2 U
theorem xGN.moved {s U : State} (hW : s.WarmedH U.vm) (h : xGN s) : xGN U := fun x hx => (h x hx).moved hW.alike
def cPw (D : va_G) (Y : Nat → ClassId) (A : Nat → Prop) (ad : xL) (g : xG) (av : List Value) : Array Value → State → Prop := fun v U => cP D Y A ad g av v U ∧ xGN U
theorem cPw_blind {D : va_G} {Y : Nat → ClassId} {A : Nat → Prop} {ad : xL} {g : xG} {av : List Value} : FrameBlind (cPw D Y A ad g av) := fun a U f mk q => ⟨cP_blind a U f mk q.1, fun x hx => va_Nc.moved (u := U) (U := U.calling f mk a) (Vm.Alike.refl U.vm) (q.2 x hx)⟩
def CtW (lc : Launch) (y : MethodName) (cc : ByteArray) (nL : Nat) (rt : Option FieldType) (hh : List (Nat × Nat × Nat × Nat)) (rm : Room) (D : va_G) (Y : Nat → ClassId) (A : Nat → Prop) (ad : xL) (g : xG) (av : List Value) (post : xPo) : Prop :=
  vx_Met lc y (Cond.codeWith y cc nL rt hh :: gw) rm (cPw D Y A ad g av) (cQ D A post) (cX D A pF) rm.cells rm.slots A
def XMW (κ : xK) (D : va_G) (A : Nat → Prop) (rt : Option FieldType) (R0 : Room) (post : xPo) (hh : List (Nat × Nat × Nat × Nat)) : Prop :=
  match κ with
  | (_, _, _, R, s, _, args, below, meth, c, Q) => R = R0 ∧ meth.sig.returnType = rt ∧ c.exceptionTable.toList = tableOf hh ∧ xGN s ∧ Q = vx_MQ below (cQ D A post) (cX D A pF) args s R0.cells R0.slots A
theorem CtW_of {lc : Launch} (hlc : lc.stackTraces = false) {y : MethodName} {cc : ByteArray} {nL : Nat} {rt : Option FieldType} {hh : List (Nat × Nat × Nat × Nat)} {rm : Room} {D : va_G} {Y : Nat → ClassId} {A : Nat → Prop} {ad : xL} {g : xG} {av : List Value} {post : xPo} {own : String}
    (hy : plainName y.cls = true) (hown : y.cls = own) {l0 : List (Option Value)} (hl0 : (lg_sl av ++ List.replicate (nL - (lg_sl av).length) Slot.unset).map xso = l0) (hav : (lg_sl av).length ≤ nL)
    (body : ∀ κ : xK, XB κ D Y A cc own nL rm → XMW κ D A rt rm post hh → X κ D A nL 0 0 0 l0 [] ad g) : CtW lc y cc nL rt hh rm D Y A ad g av post := by
  unfold CtW
  refine vx_ofWH (cc := cc) (maxL := nL) (ret := rt) (hh := hh) hy rfl ?_
  intro p e s m args below meth c s₁ B hml hP
  obtain ⟨⟨rfl, hE, hA, hW⟩, hN⟩ := hP
  have hts := atoms_spec (ws := Cond.codeWith y cc nL rt hh :: gw) B.pre
  have h := body (p, lc, e, (headSpec (Cond.codeWith y cc nL rt hh :: gw) rm).room, s, m, av.toArray, below, meth, c, vx_MQ below (cQ D A post) (cX D A pF) av.toArray s rm.cells rm.slots A)
    ⟨B.exec, B.bytes, hml, by rw [← hown]; exact findClass_of_methodNamed B.named, fun w hw => hts w (List.mem_cons_of_mem _ hw), hE, hA, hlc, B.notSynchronized, rfl⟩
    ⟨rfl, B.returns, vx_table (x := y) B (hts _ List.mem_cons_self), hN, rfl⟩
  have hl := lv_entry av (n := nL) hav
  rw [lg_entry_eq]
  exact h s.heap [] _ hW va_S.rf ⟨hl.1, hl.2.1, fun i v hv => by
    rw [← hl0] at hv
    rw [List.getElem?_toArray]
    exact xso_spec hv⟩
def xCSW (own : String) (idx : Nat) (y : MethodName) (cc : ByteArray) (nL : Nat) (rt : Option FieldType) (hh : List (Nat × Nat × Nat × Nat)) (np : Nat) : Prop :=
  Cond.methodLink own idx y ∈ gw ∧ Cond.static y ∈ gw ∧ Cond.initialized y.cls ∈ gw ∧ Cond.codeWith y cc nL rt hh ∈ gw ∧ xDs y np
theorem xroom_of {rm R0 : Room} {nL' cells slots : Nat} (h1 : Nat.ble (rm.frames + 1) R0.frames = true) (h2 : Nat.ble (8 + (nL' + 11) + rm.locals) R0.locals = true) (h3 : cells + rm.cells ≤ R0.cells) (h4 : slots + rm.slots ≤ R0.slots) : xroom rm nL' R0 cells slots = true := by
  unfold xroom
  rw [h1, h2, Nat.ble_eq.mpr h3, Nat.ble_eq.mpr h4]
  rfl
theorem fsd_n {a b : Int} (h0 : 0 ≤ a) (h1 : a ≤ 18) (h2 : 1 ≤ b) (h3 : b ≤ 18) : vf_n64 (FP.f2d (FP.fdiv (FP.i2f (iI a)) (FP.i2f (iI b)))) := by
  have k : ∀ x : Fin 19, ∀ y : Fin 18, FP.f2d (FP.fdiv (FP.i2f (iI ((x : Nat) : Int))) (FP.i2f (iI (((y : Nat) : Int) + 1)))) &&& 0x7fffffffffffffff ≤ 0x7ff0000000000000 := by decide +kernel
  have := k ⟨a.toNat, by omega⟩ ⟨(b - 1).toNat, by omega⟩
  simp only [] at this
  rw [show ((a.toNat : Nat) : Int) = a by omega, show (((b - 1).toNat : Nat) : Int) + 1 = b by omega] at this
  exact this
section XW
variable {κ : xK} {D : va_G} {Y : Nat → ClassId} {A : Nat → Prop} {cc : ByteArray} {own : String} {nL : Nat} {R0 : Room} {cells slots pc : Nat} {l : List (Option Value)} {st rest : List Value} {ad : xL} {g : xG}
theorem X_callSW (C : XB κ D Y A cc own nL R0) (hN : xGN κ.2.2.2.2.1) {y : MethodName} {cc' : ByteArray} {nL' np idx : Nat} {rt' : Option FieldType} {hh : List (Nat × Nat × Nat × Nat)} {rm' : Room} {As : List Value} {post' : xPo}
    (hM : CtW κ.2.1 y cc' nL' rt' hh rm' D Y A ad g As post') (hw : xCSW own idx y cc' nL' rt' hh np) (hn : As.length = np) (hst : st = As.reverse ++ rest) (hrest : Nat.ble (rest.map fun v => v.category).sum 8 = true) (hroom : xroom rm' nL' R0 cells slots = true) (hd : decode cc pc = .ok (.invokestatic idx, 3))
    (kk : ∀ (r : Option Value) (ad' : xL) (g' : xG), post' r ad' g' → X κ D A nL (cells + rm'.cells) (slots + rm'.slots) (pc + 3) l (r.toList ++ rest) ad' g') : X κ D A nL cells slots pc l st ad g := by
  obtain ⟨p, lc, e, R, s, m, args, below, meth, c, Q⟩ := κ
  obtain ⟨hex, hb, hml, hown, hts, hE, hA, hlc, hlk, hR⟩ := C
  subst hR
  subst hst
  obtain ⟨w1, w2, w3, w4, w5⟩ := hw
  obtain ⟨r1, r2, r3, r4⟩ := xroom_spec hroom
  intro H locs la hW hS hl
  have hrun := vx_runSX (cells := cells) (slots := slots) (locs := locs) (e := e) (below := below) (meth := meth) (hh := hh) ⟨hex, hb, hml, hown, hts⟩ hM
    ⟨⟨rfl, rfl, r1, r2, pay_in hts (gw_goodG w4), List.mem_cons_self⟩, hts _ w4, hts _ w3, ⟨w5.1, w5.2.1⟩, fun sig h => by
      have h2 := w5.2.2
      rw [h] at h2
      exact (Option.some.inj h2).symm, hts _ w1, hts _ w2⟩ (H := H) (As := As) (rest := rest) (g := F0 m pc la (As.reverse ++ rest))
    ⟨cPw_blind, fun U hU hWm => ⟨⟨rfl, hE.moved hS hU hWm, fun q hq => hA q (Nat.le_trans hS.1 (by rw [hU] at hq; exact hq)), by rw [hU]; exact hW⟩, xGN.moved hWm hN⟩⟩ rfl hn hl.1 rfl (lv_room (Nat.le_of_ble_eq_true hrest)) hd ⟨r3, r4⟩
  exact x_run hrun hS (fun E ad' g' H1 locs1 q ce a1 a2 a3 a4 a5 a6 => a1.elim) (fun r ad' g' H1 locs1 a1 a2 a3 => kk r ad' g' a1 H1 locs1 la a2 a3 hl)
theorem XTh.caught (C : XB κ D Y A cc own nL R0) {rt : Option FieldType} {post : xPo} {hh : List (Nat × Nat × Nat × Nat)} (M : XMW κ D A rt R0 post hh) {E : String} (pre : List ExceptionTableEntry) (x : ExceptionTableEntry) (suf : List ExceptionTableEntry) (hsplit : tableOf hh = pre ++ x :: suf) (hpass : ∀ z ∈ pre, z.catchType ≠ 0 ∧ ∃ nm : String, Cond.classLink own z.catchType nm ∈ gw ∧ (E, nm) ∈ xNots) (hx : covers x pc = true) (h0 : x.catchType ≠ 0) (hlink : Cond.classLink own x.catchType E ∈ gw) (hcast : (E, E) ∈ xCasts) (kk : ∀ q : Nat, X κ D A nL cells slots x.handlerPc l [.ref q] ad g) : XTh κ D A nL cells slots pc l rest E ad g := by
  obtain ⟨p, lc, e, R, s, m, args, below, meth, c, Q⟩ := κ
  obtain ⟨hex, hb, hml, hown, hts, hE, hA, hlc, hlk, hR⟩ := C
  obtain ⟨-, hr, htab, hN, hQ⟩ := M
  intro H locs la q ce hW hS hl hce hcv hcl
  exact vx_catch hown pre x suf (htab.trans hsplit) (fun z hz => Or.inr ⟨(hpass z hz).1, (hpass z hz).2.elim fun nm h => ⟨nm, hts _ h.1, hN _ h.2⟩⟩) hx h0 (hts _ hlink) (va_Nw.use rfl (hE.2.2.2.2.1 _ hcast)) hce hcv hcl (kk q H locs la hW hS hl)
theorem X_iretW (C : XB κ D Y A cc own nL R0) {ty : FieldType} {post : xPo} {hh : List (Nat × Nat × Nat × Nat)} (M : XMW κ D A (some ty) R0 post hh) {v : Int32} (hn : narrow ty (.int v) = .int v) (hc : cells ≤ R0.cells) (hs : slots ≤ R0.slots) (hd : decode cc pc = .ok (.ireturn, 1)) (hp : post (some (.int v)) ad g) : X κ D A nL cells slots pc l [.int v] ad g := by
  obtain ⟨p, lc, e, R, s, m, args, below, meth, c, Q⟩ := κ
  obtain ⟨hx, hb, hml, hown, hts, hE, hA, hlc, hlk, hR⟩ := C
  obtain ⟨-, hr, -, -, hQ⟩ := M
  intro H locs la hW hS hl
  exact x_end hc hs hQ (W.zret (ty := ty) hx hb hr hn (fun t ht hWm => ⟨⟨_, ad, g, rfl, hp, by rw [ht]; exact hW⟩, hS.F ht⟩) hS.2.2 hd hlk)
theorem X_i2lR (C : XB κ D Y A cc own nL R0) {x : Int32} (hd : decode cc pc = .ok (.i2l, 1)) (k : X κ D A nL cells slots (pc + 1) (l) (.long x.toInt64 :: st) (ad) (g)) : X κ D A nL cells slots (pc) (l) (.int x :: st) (ad) (g) := by
  obtain ⟨p, lc, e, R, s, m, args, below, meth, c, Q⟩ := κ
  obtain ⟨hx, hb, hml, hown, hts, hE, hA, hlc, hlk, hR⟩ := C
  intro H locs la hW hS hl
  exact lv_i2l hx hb hd rfl (k H locs la hW hS hl)
theorem X_lcmpR (C : XB κ D Y A cc own nL R0) {x : Int64} (hd : decode cc pc = .ok (.lcmp, 1)) (k : X κ D A nL cells slots (pc + 1) (l) (.int (iI 0) :: st) (ad) (g)) : X κ D A nL cells slots (pc) (l) (.long x :: .long x :: st) (ad) (g) := by
  obtain ⟨p, lc, e, R, s, m, args, below, meth, c, Q⟩ := κ
  obtain ⟨hx, hb, hml, hown, hts, hE, hA, hlc, hlk, hR⟩ := C
  intro H locs la hW hS hl
  have e0 : lg_cmp x x = iI 0 := by
    unfold lg_cmp
    rw [if_neg (fun q => absurd q (by rw [gt_iff_lt, Int64.lt_iff_toInt_lt]; omega)), if_pos rfl]
    rfl
  exact W.lcmp hx hb hd (e0 ▸ k H locs la hW hS hl)
end XW
/-! what a method of the law answers: the number of the exception, the answer in the array -/
abbrev oK (Y : Nat → ClassId) (ρ : xG) : Prop := (∃ f : Nat → Int64, ρ 61 0 = some (.inl (Y 2, 1, .inr (.inl f)))) ∧ (∃ f : Nat → UInt64, ρ 62 0 = some (.inl (Y 3, 1, .inr (.inr (.inr (.inl f)))))) ∧ ρ 60 0 = none
def vL (Y : Nat → ClassId) (x : Int64) (ρ : xG) : Prop := ∃ f : Nat → Int64, ρ 61 0 = some (.inl (Y 2, 1, .inr (.inl f))) ∧ f 0 = x
def vD (Y : Nat → ClassId) (x : UInt64) (ρ : xG) : Prop := ∃ f : Nat → UInt64, ρ 62 0 = some (.inl (Y 3, 1, .inr (.inr (.inr (.inl f))))) ∧ f 0 = x
def pW (Y : Nat → ClassId) (k : Int) (V : xG → Prop) (C σ : xS) (ad : xL) : xPo := fun r ad2 g2 => r = some (.int (iI k)) ∧ xKp ad2 ad ∧ ∃ ρ2, oK Y ρ2 ∧ (k = 0 → V ρ2) ∧ g2 = jG Y C σ ρ2 ad2
theorem xKp_rf {ad : xL} : xKp ad ad := fun _ _ _ => rfl
theorem pW_no {Y : Nat → ClassId} {k j : Int} {V : xG → Prop} {C τ σ : xS} {ρ : xG} {ad : xL} (ho : oK Y ρ) (h : k = j) (hj : j ≠ 0) : pW Y k V (mQ k C τ) σ ad (some (.int (iI j))) ad (jG Y τ σ ρ ad) :=
  ⟨by rw [h], xKp_rf, ρ, ho, fun w => absurd (h.symm.trans w) hj, by rw [mQ_n (by omega)]⟩
theorem pW_L {Y : Nat → ClassId} {k : Int} {x : Int64} {C τ σ : xS} {ρ : xG} {ad ad2 : xL} {f : Nat → Int64} (ho : oK Y ρ) (h : k = 0) (hk : xKp ad2 ad) : pW Y k (vL Y x) (mQ k C τ) σ ad (some (.int (iI 0))) ad2 (jG Y C σ (xup ρ 61 0 (.inl (Y 2, 1, .inr (.inl (vp_updL f (0 : Int).toNat x))))) ad2) :=
  ⟨by rw [h], hk, _, ⟨⟨_, xup_s⟩, by rw [xup_n (by decide)]; exact ho.2.1, by rw [xup_n (by decide)]; exact ho.2.2⟩, fun _ => ⟨_, xup_s, if_pos rfl⟩, by rw [mQ_0 h]⟩
theorem pW_D {Y : Nat → ClassId} {k : Int} {x : UInt64} {C τ σ : xS} {ρ : xG} {ad ad2 : xL} {f : Nat → UInt64} (ho : oK Y ρ) (h : k = 0) (hk : xKp ad2 ad) : pW Y k (vD Y x) (mQ k C τ) σ ad (some (.int (iI 0))) ad2 (jG Y C σ (xup ρ 62 0 (.inl (Y 3, 1, .inr (.inr (.inr (.inl (vf_upd f (0 : Int).toNat x)))))) ) ad2) :=
  ⟨by rw [h], hk, _, ⟨by rw [xup_n (by decide)]; exact ho.1, ⟨_, xup_s⟩, by rw [xup_n (by decide)]; exact ho.2.2⟩, fun _ => ⟨_, xup_s, if_pos rfl⟩, by rw [mQ_0 h]⟩
theorem mQ_sm {α : Type} {k : Int} {a : α} : mQ k a a = a := by
  unfold mQ
  split <;> rfl
theorem exn_nil {k : Int} {E : String} (h : exn [] k = some E) : False := by
  unfold exn at h
  split at h
  · cases h
  · simp at h
theorem exn_s {a : String} {L : List String} {k : Int} {E : String} (h : exn (a :: L) k = some E) : (k = 1 ∧ E = a) ∨ exn L (k - 1) = some E := by
  unfold exn at h ⊢
  split at h
  · cases h
  · rename_i q
    by_cases h1 : k = 1
    · subst h1
      left
      refine ⟨rfl, ?_⟩
      have e : (1 - 1 : Int).toNat = 0 := rfl
      rw [e] at h
      exact (Option.some.inj h).symm
    · right
      rw [if_neg (by omega)]
      have e : (k - 1).toNat = (k - 1 - 1).toNat + 1 := by omega
      rw [e, List.getElem?_cons_succ] at h
      exact h

theorem lk_13 : Cond.classLink RL 13 "java/lang/IllegalStateException" ∈ gw := gwI 171 (by decide +kernel) rfl
theorem lk_19 : Cond.classLink RL 19 "java/util/NoSuchElementException" ∈ gw := gwI 299 (by decide +kernel) rfl
theorem lk_21 : Cond.classLink RL 21 "java/lang/IndexOutOfBoundsException" ∈ gw := gwI 300 (by decide +kernel) rfl
theorem lk_23 : Cond.classLink RL 23 "java/lang/IllegalArgumentException" ∈ gw := gwI 324 (by decide +kernel) rfl
theorem lk_25 : Cond.classLink RL 25 "java/lang/UnsupportedOperationException" ∈ gw := gwI 325 (by decide +kernel) rfl
theorem lk_133 : Cond.classLink RL 133 "java/lang/ArithmeticException" ∈ gw := gwI 916 (by decide +kernel) rfl
