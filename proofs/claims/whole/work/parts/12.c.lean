/-! calls and throws -/
abbrev rmL (k c s : Nat) : Room := { frames := 6 + k, cells := c, slots := s, locals := 100 + 40 * k }
def xroom (rm : Room) (nL' : Nat) (R0 : Room) (cells slots : Nat) : Bool := Nat.ble (rm.frames + 1) R0.frames && Nat.ble (8 + (nL' + 11) + rm.locals) R0.locals && Nat.ble (cells + rm.cells) R0.cells && Nat.ble (slots + rm.slots) R0.slots
theorem xroom_spec {rm R0 : Room} {nL' cells slots : Nat} (h : xroom rm nL' R0 cells slots = true) : rm.frames + 1 ≤ R0.frames ∧ 8 + (nL' + 11) + rm.locals ≤ R0.locals ∧ cells + rm.cells ≤ R0.cells ∧ slots + rm.slots ≤ R0.slots := by
  unfold xroom at h
  simp only [Bool.and_eq_true] at h
  exact ⟨Nat.le_of_ble_eq_true h.1.1.1, Nat.le_of_ble_eq_true h.1.1.2, Nat.le_of_ble_eq_true h.1.2, Nat.le_of_ble_eq_true h.2⟩
def xDs (y : MethodName) (np : Nat) : Prop := y.cls ≠ "java/lang/invoke/MethodHandle" ∧ y.cls ≠ "java/lang/invoke/VarHandle" ∧ (parseMethodDescriptor y.desc).map (fun d => d.parameters.length) = some np
def xCV (own : String) (idx : Nat) (y : MethodName) (cc : ByteArray) (nL : Nat) (rt : Option FieldType) (np : Nat) : Prop :=
  Cond.methodLink own idx y ∈ gw ∧ Cond.instanceMethod y ∈ gw ∧ Cond.selects y.cls y y ∈ gw ∧ Cond.initialized y.cls ∈ gw ∧ Cond.code y cc nL rt ∈ gw ∧ xDs y np
def xCS (own : String) (idx : Nat) (y : MethodName) (cc : ByteArray) (nL : Nat) (rt : Option FieldType) (np : Nat) : Prop :=
  Cond.methodLink own idx y ∈ gw ∧ Cond.static y ∈ gw ∧ Cond.initialized y.cls ∈ gw ∧ Cond.code y cc nL rt ∈ gw ∧ xDs y np
def xCI (own : String) (idx : Nat) (y : MethodName) (cc : ByteArray) (nL : Nat) (np : Nat) : Prop :=
  Cond.methodLink own idx y ∈ gw ∧ Cond.instanceMethod y ∈ gw ∧ Cond.initialized y.cls ∈ gw ∧ Cond.code y cc nL none ∈ gw ∧ y.name = "<init>" ∧ xDs y np
def XTh (κ : xK) (D : va_G) (A : Nat → Prop) (nL cells slots pc : Nat) (l : List (Option Value)) (rest : List Value) (E : String) (ad : xL) (g : xG) : Prop :=
  match κ with
  | (p, lc, e, R, s, m, args, below, meth, c, Q) => ∀ (H : Heap) (locs : List Loc) (la : Array Slot) (q : Nat) (ce : Cell), xHW D A ad g H → va_S A s.heap H locs → xlh la nL l → H[q]? = some ce → ce.vm = .none → s.vm.findClass E = some ce.cls → vx_W p lc e R s m args below meth c H locs cells slots Q (F0 m pc la rest) q
section XCs
variable {κ : xK} {D : va_G} {Y : Nat → ClassId} {A : Nat → Prop} {cc : ByteArray} {own : String} {nL : Nat} {R0 : Room} {cells slots pc : Nat} {l : List (Option Value)} {st rest : List Value} {ad : xL} {g : xG}
theorem XTh.out (C : XB κ D Y A cc own nL R0) {nm : String} {rt : Option FieldType} {post : xPo} {px : xPx} (M : XM κ D A nm rt R0 post px) {E : String} (h : px E ad g) (hc : cells ≤ R0.cells) (hs : slots ≤ R0.slots) : XTh κ D A nL cells slots pc l rest E ad g := by
  obtain ⟨p, lc, e, R, s, m, args, below, meth, c, Q⟩ := κ
  obtain ⟨hx, hb, hml, hown, hts, hE, hA, hlc, hlk, hR⟩ := C
  obtain ⟨-, hr, -, htab, hQ⟩ := M
  intro H locs la q ce hW hS hl hce hcv hcl
  subst hQ
  exact vx_out (fun x hx => (htab x hx).elim) hlk hce hcv hcl (fun t ht hWm => ⟨⟨ad, g, h, by rw [ht]; exact hW⟩, hS.F ht⟩) hS.2.2 hc hs
theorem x_run {p : Program} {lc : Launch} {e : Env} {R : Room} {s : State} {m : MethodId} {args : Array Value} {below : List Frame} {meth : Method} {c : Code} {Q : State → Prop} {H : Heap} {locs : List Loc} {la : Array Slot} {st0 : List Value} {mc ms : Nat} {a : Array Value} {post' : xPo} {px' : xPx}
    (hr : vx_Run p lc e R s m args below meth c H locs cells slots mc ms (F0 m pc la st0) rest (cQ D A post' a) (cX D A px') A) (hS : va_S A s.heap H locs)
    (kx : ∀ (E : String) (ad' : xL) (g' : xG) (H1 : Heap) (locs1 : List Loc) (q : Nat) (ce : Cell), px' E ad' g' → xHW D A ad' g' H1 → va_S A s.heap H1 locs1 → H1[q]? = some ce → ce.vm = .none → s.vm.findClass E = some ce.cls → vx_W p lc e R s m args below meth c H1 locs1 (cells + mc) (slots + ms) Q (F0 m pc la rest) q)
    (kk : ∀ (r : Option Value) (ad' : xL) (g' : xG) (H1 : Heap) (locs1 : List Loc), post' r ad' g' → xHW D A ad' g' H1 → va_S A s.heap H1 locs1 → W p lc e R s m args below meth c H1 locs1 (cells + mc) (slots + ms) Q (F0 m (pc + 3) la (r.toList ++ rest))) : W p lc e R s m args below meth c H locs cells slots Q (F0 m pc la st0) := by
  intro T hT X
  rcases hr T hT X with ⟨v, st₀, t, T', L, h0, X', hL, e1, e2, ⟨⟨r, ad', g', hv, hp, hw⟩, hF⟩, st⟩ | ⟨q, st₀, t, T', L, E, ce, h0, X', hL, e1, e2, ⟨⟨ad', g', hp, hw⟩, hF⟩, hce, hcv, hcl, st⟩
  · cases hv
    obtain ⟨k1, k2, k3⟩ := vx_keep h0 e1 hS (fun _ _ h => h) (fun _ h => h) hL hF
    obtain ⟨t2, a1, b1⟩ := kk v ad' g' T'.heap (locs ++ L) hp (by rw [e1]; exact hw) k3 T' rfl X'
    exact ⟨t2, st t2 a1, b1⟩
  · obtain ⟨k1, k2, k3⟩ := vx_keep h0 e1 hS (fun _ _ h => h) (fun _ h => h) hL hF
    obtain ⟨t2, a1, b1⟩ := kx E ad' g' T'.heap (locs ++ L) q ce hp (by rw [e1]; exact hw) k3 (by rw [e1]; exact hce) hcv hcl T' rfl X'
    exact ⟨t2, st.trans a1, b1⟩
theorem X_callVg (C : XB κ D Y A cc own nL R0) {y : MethodName} {cc' : ByteArray} {nL' np idx : Nat} {rt' : Option FieldType} {rm' : Room} {bk ci : Nat} {bn : Int} {fs As : List Value} {post' : xPo} {px' : xPx}
    (hM : Ct κ.2.1 y cc' nL' rt' rm' D Y A ad g (.ref (ad bk bn) :: As) post' px') (hw : xCV own idx y cc' nL' rt' np) (hg : g bk bn = some (.inr (ci, fs))) (hcn : ∃ (T : u_T) (N : Nat), vwCl[ci]? = some (y.cls, T, N)) (hn : As.length = np) (hst : st = As.reverse ++ .ref (ad bk bn) :: rest) (hrest : Nat.ble (rest.map fun v => v.category).sum 8 = true) (hroom : xroom rm' nL' R0 cells slots = true) (hd : decode cc pc = .ok (.invokevirtual idx, 3))
    (hx : ∀ (E : String) (ad' : xL) (g' : xG), px' E ad' g' → XTh κ D A nL (cells + rm'.cells) (slots + rm'.slots) pc l rest E ad' g')
    (kk : ∀ (r : Option Value) (ad' : xL) (g' : xG), post' r ad' g' → X κ D A nL (cells + rm'.cells) (slots + rm'.slots) (pc + 3) l (r.toList ++ rest) ad' g') : X κ D A nL cells slots pc l st ad g := by
  obtain ⟨p, lc, e, R, s, m, args, below, meth, c, Q⟩ := κ
  obtain ⟨hex, hb, hml, hown, hts, hE, hA, hlc, hlk, hR⟩ := C
  subst hR
  subst hst
  obtain ⟨w1, w2, w3, w4, w5, w6⟩ := hw
  obtain ⟨r1, r2, r3, r4⟩ := xroom_spec hroom
  obtain ⟨T, N, hcn⟩ := hcn
  intro H locs la hW hS hl
  obtain ⟨q', h1, cellB, g1, g2, g3, -⟩ := (hW.1 _ _ _ hg).1
  have hrun := vx_runV (cells := cells) (slots := slots) (locs := locs) (e := e) (below := below) (meth := meth) ⟨hex, hb, hml, hown, hts⟩ hM (C := y.cls) ⟨callB_of np hts (gw_goodG w5) rfl rfl rfl (hts _ w4) (hts _ w1) w6 ⟨r1, r2⟩, hts _ w2, hts _ w3⟩ (H := H) (b := ad bk bn) (As := As) (rest := rest) (g := F0 m pc la (As.reverse ++ .ref (ad bk bn) :: rest))
    ⟨cP_blind, ⟨cellB, g1, by rw [g3]; rfl, by rw [g2]; exact (hE.1.1 ci _ hcn).2.1⟩, fun U hU hWm => ⟨rfl, hE.moved hS hU hWm, fun q hq => hA q (Nat.le_trans hS.1 (by rw [hU] at hq; exact hq)), by rw [hU]; exact hW⟩⟩ rfl hn hl.1 rfl (lv_room (Nat.le_of_ble_eq_true hrest)) hd ⟨r3, r4⟩
  exact x_run hrun hS (fun E ad' g' H1 locs1 q ce a1 a2 a3 a4 a5 a6 => hx E ad' g' a1 H1 locs1 la q ce a2 a3 hl a4 a5 a6) (fun r ad' g' H1 locs1 a1 a2 a3 => kk r ad' g' a1 H1 locs1 la a2 a3 hl)
theorem X_callSg (C : XB κ D Y A cc own nL R0) {y : MethodName} {cc' : ByteArray} {nL' np idx : Nat} {rt' : Option FieldType} {rm' : Room} {As : List Value} {post' : xPo} {px' : xPx}
    (hM : Ct κ.2.1 y cc' nL' rt' rm' D Y A ad g As post' px') (hw : xCS own idx y cc' nL' rt' np) (hn : As.length = np) (hst : st = As.reverse ++ rest) (hrest : Nat.ble (rest.map fun v => v.category).sum 8 = true) (hroom : xroom rm' nL' R0 cells slots = true) (hd : decode cc pc = .ok (.invokestatic idx, 3))
    (hx : ∀ (E : String) (ad' : xL) (g' : xG), px' E ad' g' → XTh κ D A nL (cells + rm'.cells) (slots + rm'.slots) pc l rest E ad' g')
    (kk : ∀ (r : Option Value) (ad' : xL) (g' : xG), post' r ad' g' → X κ D A nL (cells + rm'.cells) (slots + rm'.slots) (pc + 3) l (r.toList ++ rest) ad' g') : X κ D A nL cells slots pc l st ad g := by
  obtain ⟨p, lc, e, R, s, m, args, below, meth, c, Q⟩ := κ
  obtain ⟨hex, hb, hml, hown, hts, hE, hA, hlc, hlk, hR⟩ := C
  subst hR
  subst hst
  obtain ⟨w1, w2, w4, w5, w6⟩ := hw
  obtain ⟨r1, r2, r3, r4⟩ := xroom_spec hroom
  intro H locs la hW hS hl
  have hrun := vx_runS (cells := cells) (slots := slots) (locs := locs) (e := e) (below := below) (meth := meth) ⟨hex, hb, hml, hown, hts⟩ hM ⟨callB_of np hts (gw_goodG w5) rfl rfl rfl (hts _ w4) (hts _ w1) w6 ⟨r1, r2⟩, hts _ w2⟩ (H := H) (As := As) (rest := rest) (g := F0 m pc la (As.reverse ++ rest))
    ⟨cP_blind, fun U hU hWm => ⟨rfl, hE.moved hS hU hWm, fun q hq => hA q (Nat.le_trans hS.1 (by rw [hU] at hq; exact hq)), by rw [hU]; exact hW⟩⟩ rfl hn hl.1 rfl (lv_room (Nat.le_of_ble_eq_true hrest)) hd ⟨r3, r4⟩
  exact x_run hrun hS (fun E ad' g' H1 locs1 q ce a1 a2 a3 a4 a5 a6 => hx E ad' g' a1 H1 locs1 la q ce a2 a3 hl a4 a5 a6) (fun r ad' g' H1 locs1 a1 a2 a3 => kk r ad' g' a1 H1 locs1 la a2 a3 hl)
/-- a method that throws nothing, as a contract without throws -/
theorem Ct.met {lc : Launch} {y : MethodName} {cc' : ByteArray} {nL' : Nat} {rt' : Option FieldType} {rm' : Room} {av : List Value} {post' : xPo} (h : Ct lc y cc' nL' rt' rm' D Y A ad g av post' pF) : Met lc y (Cond.code y cc' nL' rt' :: gw) rm' (cP D Y A ad g av) (cQ D A post') rm'.cells rm'.slots A := by
  refine Free.MetFree.mono h (fun _ _ q => q) (fun _ _ _ _ _ q => q) (fun a s o s' _ q => ?_)
  rcases q with q | ⟨q, -, E, ce, L, ⟨⟨ad', g', hf, -⟩, -⟩, -⟩
  · exact q
  · exact hf.elim
theorem x_runM {p : Program} {lc : Launch} {e : Env} {R : Room} {s : State} {m : MethodId} {args : Array Value} {below : List Frame} {meth : Method} {c : Code} {Q : State → Prop} {H : Heap} {locs : List Loc} {la : Array Slot} {st0 : List Value} {mc ms : Nat} {a : Array Value} {post' : xPo}
    (hr : va_Run p lc e R s m args below meth c H locs cells slots mc ms (F0 m pc la st0) rest (cQ D A post' a) A) (hS : va_S A s.heap H locs)
    (kk : ∀ (r : Option Value) (ad' : xL) (g' : xG) (H1 : Heap) (locs1 : List Loc), post' r ad' g' → xHW D A ad' g' H1 → va_S A s.heap H1 locs1 → W p lc e R s m args below meth c H1 locs1 (cells + mc) (slots + ms) Q (F0 m (pc + 3) la (r.toList ++ rest))) : W p lc e R s m args below meth c H locs cells slots Q (F0 m pc la st0) := by
  intro T hT X
  obtain ⟨v, st₀, t, T', L, h0, X', hL, e1, e2, ⟨⟨r, ad', g', hv, hp, hw⟩, hF⟩, st⟩ := hr T hT X
  cases hv
  obtain ⟨k1, k2, k3⟩ := vx_keep h0 e1 hS (fun _ _ h => h) (fun _ h => h) hL hF
  obtain ⟨t2, a1, b1⟩ := kk v ad' g' T'.heap (locs ++ L) hp (by rw [e1]; exact hw) k3 T' rfl X'
  exact ⟨t2, st t2 a1, b1⟩
theorem X_callIg (C : XB κ D Y A cc own nL R0) {y : MethodName} {cc' : ByteArray} {nL' np idx : Nat} {rm' : Room} {b : Nat} {As : List Value} {post' : xPo}
    (hM : Ct κ.2.1 y cc' nL' none rm' D Y A ad g (.ref b :: As) post' pF) (hw : xCI own idx y cc' nL' np) (hn : As.length = np) (hst : st = As.reverse ++ .ref b :: rest) (hrest : Nat.ble (rest.map fun v => v.category).sum 8 = true) (hroom : xroom rm' nL' R0 cells slots = true) (hd : decode cc pc = .ok (.invokespecial idx, 3))
    (kk : ∀ (r : Option Value) (ad' : xL) (g' : xG), post' r ad' g' → X κ D A nL (cells + rm'.cells) (slots + rm'.slots) (pc + 3) l (r.toList ++ rest) ad' g') : X κ D A nL cells slots pc l st ad g := by
  obtain ⟨p, lc, e, R, s, m, args, below, meth, c, Q⟩ := κ
  obtain ⟨hex, hb, hml, hown, hts, hE, hA, hlc, hlk, hR⟩ := C
  subst hR
  subst hst
  obtain ⟨w1, w2, w4, w5, w6, w7⟩ := hw
  obtain ⟨r1, r2, r3, r4⟩ := xroom_spec hroom
  intro H locs la hW hS hl
  have hrun := va_runI (cells := cells) (slots := slots) (locs := locs) (e := e) (below := below) (meth := meth) ⟨hex, hb, hml, hown, hts⟩ hM.met ⟨callB_of np hts (gw_goodG w5) rfl rfl rfl (hts _ w4) (hts _ w1) w7 ⟨r1, r2⟩, w6, hts _ w2⟩ (H := H) (b := b) (As := As) (rest := rest) (g := F0 m pc la (As.reverse ++ .ref b :: rest))
    ⟨cP_blind, fun U hU hWm => ⟨rfl, hE.moved hS hU hWm, fun q hq => hA q (Nat.le_trans hS.1 (by rw [hU] at hq; exact hq)), by rw [hU]; exact hW⟩⟩ rfl hn hl.1 rfl (lv_room (Nat.le_of_ble_eq_true hrest)) hd ⟨r3, r4⟩
  exact x_runM hrun hS (fun r ad' g' H1 locs1 a1 a2 a3 => kk r ad' g' a1 H1 locs1 la a2 a3 hl)
/-! throws: 'new E; dup; ldc; <init>; athrow' in one step -/
def xNm : List String := ["java/lang/RuntimeException", "java/lang/Exception"]
def xTW (own : String) (ik ic : Nat) (cls : String) : Prop := Bundle.fit cls = true ∧ Cond.classLink own ik cls ∈ gw ∧ Cond.initialized cls ∈ gw ∧ (∀ w ∈ (vx_atS own ic cls xNm).filter goodWord, w ∈ gw) ∧ (∀ w ∈ (vx_atS own ic cls xNm).filter (fun w => !goodWord w), w ∈ Cond.castable cls cls :: xDecls.map Cond.declares) ∧ (∀ w ∈ Cond.classLink own ik cls :: Cond.initialized cls :: vx_atS own ic cls xNm, vx_ot w = true) ∧ (cls, cls) ∈ xCasts
theorem x_decl {D : va_G} {Y : Nat → ClassId} {A : Nat → Prop} {U : State} {args : Array Value} (h : xGE D Y A U) : ∀ w ∈ xDecls.map Cond.declares, w.before args U = true := by
  intro w hw
  obtain ⟨x, hx, rfl⟩ := List.mem_map.mp hw
  exact va_Nw.use rfl (h.2.2.2.2.2.2.1 x hx)
theorem xNm_fit : ∀ n ∈ xNm, Bundle.fit n = true := by decide +kernel
theorem X_throw (C : XB κ D Y A cc own nL R0) {nm : String} {rt : Option FieldType} {post : xPo} {px : xPx} (M : XM κ D A nm rt R0 post px) {ik is ic : Nat} {cls text : String} (hw : xTW own ik ic cls) (hstr : (own, is, text) ∈ xStrs)
    (d0 : decode cc pc = .ok (.new ik, 3)) (d3 : decode cc (pc + 3) = .ok (.dup, 1)) (d4 : decode cc (pc + 4) = .ok (.ldc is, 2)) (d6 : decode cc (pc + 6) = .ok (.invokespecial ic, 3)) (d9 : decode cc (pc + 9) = .ok (.athrow, 1))
    (hfr : 5 < R0.frames) (hlo : (st.map fun v => v.category).sum + 82 ≤ R0.locals) (hc : cells + 1 ≤ R0.cells) (hs : slots + 6 ≤ R0.slots) (hp : px cls ad g) : X κ D A nL cells slots pc l st ad g := by
  obtain ⟨p, lc, e, R, s, m, args, below, meth, c, Q⟩ := κ
  obtain ⟨hex, hb, hml, hown, hts, hE, hA, hlc, hlk, hR⟩ := C
  obtain ⟨-, hr, -, htab, hQ⟩ := M
  subst hR
  subst hQ
  obtain ⟨w1, w2, w3, w4, w5, w6, w7⟩ := hw
  obtain ⟨sa, hsa⟩ := hE.2.2.2.1 _ hstr
  intro H locs la hW hS hl
  refine vx_throwS hex hb hlc (cls := cls) (names := xNm) (sa := sa) hown w1 xNm_fit (hts _ w2) (hts _ w3) hsa (vx_hat (fun w h => hts _ (w4 w h)) w5 (vx_c (va_Nw.use rfl (hE.2.2.2.2.1 _ w7)) (x_decl hE))) w6 hE.2.1 hE.2.2.1 hS (by rw [hml]; exact hl.1) d0 d3 d4 d6 d9 (fun x hx => (htab x hx).elim) hfr hlo hc hs hlk ?_ hS.2.2 hc hs
  intro t _ hz o1
  exact ⟨⟨ad, g, hp, hW.grow o1⟩, Nat.le_trans hS.1 hz, fun q h1 h2 => (o1 q (Nat.lt_of_lt_of_le h1 hS.1)).trans (hS.2.1 q h1 h2)⟩
theorem X_throwW (C : XB κ D Y A cc own nL R0) {nm : String} {rt : Option FieldType} {post : xPo} {px : xPx} (M : XM κ D A nm rt R0 post px) {ik is ic : Nat} {cls text : String} (hw : xTW own ik ic cls) (hstr : (own, is, text) ∈ xStrs)
    (d0 : decode cc pc = .ok (.new ik, 3)) (d3 : decode cc (pc + 3) = .ok (.dup, 1)) (d4 : decode cc (pc + 4) = .ok (.ldc_w is, 3)) (d7 : decode cc (pc + 7) = .ok (.invokespecial ic, 3)) (d10 : decode cc (pc + 10) = .ok (.athrow, 1))
    (hfr : 5 < R0.frames) (hlo : (st.map fun v => v.category).sum + 82 ≤ R0.locals) (hc : cells + 1 ≤ R0.cells) (hs : slots + 6 ≤ R0.slots) (hp : px cls ad g) : X κ D A nL cells slots pc l st ad g := by
  obtain ⟨p, lc, e, R, s, m, args, below, meth, c, Q⟩ := κ
  obtain ⟨hex, hb, hml, hown, hts, hE, hA, hlc, hlk, hR⟩ := C
  obtain ⟨-, hr, -, htab, hQ⟩ := M
  subst hR
  subst hQ
  obtain ⟨w1, w2, w3, w4, w5, w6, w7⟩ := hw
  obtain ⟨sa, hsa⟩ := hE.2.2.2.1 _ hstr
  intro H locs la hW hS hl
  refine vx_throwSW hex hb hlc (cls := cls) (names := xNm) (sa := sa) hown w1 xNm_fit (hts _ w2) (hts _ w3) hsa (vx_hat (fun w h => hts _ (w4 w h)) w5 (vx_c (va_Nw.use rfl (hE.2.2.2.2.1 _ w7)) (x_decl hE))) w6 hE.2.1 hE.2.2.1 hS (by rw [hml]; exact hl.1) d0 d3 d4 d7 d10 (fun x hx => (htab x hx).elim) hfr hlo hc hs hlk ?_ hS.2.2 hc hs
  intro t _ hz o1
  exact ⟨⟨ad, g, hp, hW.grow o1⟩, Nat.le_trans hS.1 hz, fun q h1 h2 => (o1 q (Nat.lt_of_lt_of_le h1 hS.1)).trans (hS.2.1 q h1 h2)⟩
end XCs
