/-! X: a walk over a pure heap: cells by (kind, number), integers by Int -/
def gw : List Cond := lw_tbl.filter goodWord
theorem gwI {w : Cond} (i : Nat) (h : tables_1[i]? = some w) (hg : goodWord w = true) : w ∈ gw :=
  List.mem_filter.mpr ⟨List.mem_append_right _ (List.mem_of_getElem? h), hg⟩
theorem gwS {w : Cond} (i : Nat) (h : (k2_sels lw_privs)[i]? = some w) (hg : goodWord w = true) : w ∈ gw :=
  List.mem_filter.mpr ⟨List.mem_append_left _ (List.mem_of_getElem? h), hg⟩
theorem gwL {ws : List Cond} (h : ∀ w ∈ ws, w ∈ lw_tbl) (hg : ws.all goodWord = true) : ∀ w ∈ ws, w ∈ gw := fun w hw =>
  List.mem_filter.mpr ⟨h w hw, List.all_eq_true.mp hg w hw⟩
theorem gwP {ws : List Cond} (ps : List Nat) (hp : ws = ps.filterMap (fun i => tables_1[i]?)) (hg : ws.all goodWord = true) : ∀ w ∈ ws, w ∈ gw := by
  intro w hw
  refine List.mem_filter.mpr ⟨List.mem_append_right _ ?_, List.all_eq_true.mp hg w hw⟩
  rw [hp] at hw
  obtain ⟨i, -, hi⟩ := List.mem_filterMap.mp hw
  exact List.mem_of_getElem? hi
theorem gw_good {x y : Cond} (hy : y ∈ gw) : GoodIn (x :: gw) (y :: gw) := by
  intro w hw
  rcases List.mem_cons.mp hw with h | h
  · subst h
    exact ⟨List.mem_cons_of_mem _ hy, good_of_word (List.mem_filter.mp hy).2⟩
  · exact ⟨List.mem_cons_of_mem _ h, good_of_word (List.mem_filter.mp h).2⟩
theorem gw_goodG {y : Cond} (hy : y ∈ gw) : GoodIn gw (y :: gw) := by
  intro w hw
  rcases List.mem_cons.mp hw with h | h
  · subst h
    exact ⟨hy, good_of_word (List.mem_filter.mp hy).2⟩
  · exact ⟨h, good_of_word (List.mem_filter.mp h).2⟩
/-! integers -/
def iI (z : Int) : Int32 := Int32.ofInt z
def lI (z : Int) : Int64 := Int64.ofInt z
abbrev rg (z : Int) : Prop := -2147483648 ≤ z ∧ z ≤ 2147483647
theorem iI_toInt {z : Int} (h : rg z) : (iI z).toInt = z := Int32.toInt_ofInt_of_le (by have := h.1; omega) (by have := h.2; omega)
theorem iI_of (x : Int32) : x = iI x.toInt := (Int32.ofInt_toInt x).symm
theorem rg_of (x : Int32) : rg x.toInt := by
  have h1 := x.le_toInt
  have h2 := x.toInt_lt
  constructor <;> omega
theorem iI_ex (x : Int32) : ∃ z : Int, rg z ∧ x = iI z := ⟨x.toInt, rg_of x, iI_of x⟩
theorem iI_lt {a b : Int} (ha : rg a) (hb : rg b) : iI a < iI b ↔ a < b := by rw [Int32.lt_iff_toInt_lt, iI_toInt ha, iI_toInt hb]
theorem iI_le {a b : Int} (ha : rg a) (hb : rg b) : iI a ≤ iI b ↔ a ≤ b := by rw [Int32.le_iff_toInt_le, iI_toInt ha, iI_toInt hb]
theorem iI_eq {a b : Int} (ha : rg a) (hb : rg b) : iI a = iI b ↔ a = b := by rw [← Int32.toInt_inj, iI_toInt ha, iI_toInt hb]
theorem iI_0 : (0 : Int32) = iI 0 := rfl
theorem rg0 : rg 0 := by constructor <;> omega
theorem iI_div {a b : Int} (ha : rg a) (h0 : 0 ≤ a) (hb : rg b) (hb0 : 0 < b) : iI a / iI b = iI (a / b) := by
  rw [← Int.tdiv_eq_ediv_of_nonneg h0]
  exact (Int32.ofInt_tdiv (by rw [Int32.toInt_minValue]; have := ha.1; omega) (by rw [Int32.toInt_maxValue]; have := ha.2; omega) (by rw [Int32.toInt_minValue]; have := hb.1; omega) (by rw [Int32.toInt_maxValue]; have := hb.2; omega)).symm
theorem iI_rem {a b : Int} (ha : rg a) (h0 : 0 ≤ a) (hb : rg b) (hb0 : 0 < b) : iI a - iI a / iI b * iI b = iI (a % b) := by
  rw [iI_div ha h0 hb hb0]
  unfold iI
  rw [← Int32.ofInt_mul, ← Int32.ofInt_sub, Int.emod_def, Int.mul_comm]
theorem iI_clamp {z : Int} (h : rg z) : (iI z).toNatClampNeg = z.toNat := Int32.toNatClampNeg_ofInt_of_le (by have := h.1; omega) (by have := h.2; omega)
theorem iI_in {z : Int} {n : Nat} (h0 : 0 ≤ z) (h1 : z < n) (hn : n ≤ 2147483647) : vp_in (iI z) n := by
  have h : rg z := by constructor <;> omega
  rw [vp_in_iff, iI_toInt h]
  exact ⟨h0, h1⟩
theorem iI_l {z : Int} (h : rg z) : (iI z).toInt64 = lI z := by
  unfold iI lI
  exact Int32.toInt64_ofInt (by rw [Int32.toInt_minValue]; have := h.1; omega) (by rw [Int32.toInt_maxValue]; have := h.2; omega)
abbrev lg (z : Int) : Prop := -9223372036854775808 ≤ z ∧ z ≤ 9223372036854775807
theorem lI_toInt {z : Int} (h : lg z) : (lI z).toInt = z := Int64.toInt_ofInt_of_le (by have := h.1; omega) (by have := h.2; omega)
theorem lI_cmp {a b : Int} (ha : lg a) (hb : lg b) : lg_cmp (lI a) (lI b) = iI (if b < a then 1 else if a = b then 0 else -1) := by
  unfold lg_cmp
  have e1 : (lI a > lI b) ↔ b < a := by rw [gt_iff_lt, Int64.lt_iff_toInt_lt, lI_toInt ha, lI_toInt hb]
  have e2 : (lI a = lI b) ↔ a = b := by rw [← Int64.toInt_inj, lI_toInt ha, lI_toInt hb]
  by_cases h1 : b < a
  · rw [if_pos (e1.mpr h1), if_pos h1]; rfl
  · rw [if_neg (fun q => h1 (e1.mp q)), if_neg h1]
    by_cases h2 : a = b
    · rw [if_pos (e2.mpr h2), if_pos h2]; rfl
    · rw [if_neg (fun q => h2 (e2.mp q)), if_neg h2]; rfl
/-- a truth value as 0 or 1 -/
noncomputable def bI (p : Prop) : Int := @ite Int p (Classical.propDecidable p) 1 0
theorem bI_t {p : Prop} (h : p) : bI p = 1 := by unfold bI; rw [if_pos h]
theorem bI_f {p : Prop} (h : ¬ p) : bI p = 0 := by unfold bI; rw [if_neg h]
theorem bI_01 (p : Prop) : 0 ≤ bI p ∧ bI p ≤ 1 := by
  by_cases h : p
  · rw [bI_t h]; constructor <;> omega
  · rw [bI_f h]; constructor <;> omega
theorem bI_rg (p : Prop) : rg (bI p) := by have := bI_01 p; constructor <;> omega
theorem bI_eq0 {p : Prop} : bI p = 0 ↔ ¬ p := ⟨fun h q => by rw [bI_t q] at h; omega, bI_f⟩
theorem bI_c {p q : Prop} (h : p ↔ q) : bI p = bI q := by rw [propext h]
noncomputable def pk {α : Type} (p : Prop) (a b : α) : α := @ite α p (Classical.propDecidable p) a b
theorem pk_t {α : Type} {p : Prop} {a b : α} (h : p) : pk p a b = a := by unfold pk; rw [if_pos h]
theorem pk_f {α : Type} {p : Prop} {a b : α} (h : ¬ p) : pk p a b = b := by unfold pk; rw [if_neg h]
/-! the pure heap and its picture -/
abbrev xG : Type := Nat → Int → Option va_E
abbrev xL : Type := Nat → Int → Nat
def xHW (D : va_G) (A : Nat → Prop) (ad : xL) (g : xG) (H : Heap) : Prop :=
  (∀ k n e, g k n = some e → va_at D vwCl (ad k n, e) H ∧ A (ad k n)) ∧ ∀ k n e k' n' e', g k n = some e → g k' n' = some e' → ad k n = ad k' n' → k = k' ∧ n = n'
def xup (g : xG) (k : Nat) (n : Int) (e : va_E) : xG := fun k' n' => if k' = k ∧ n' = n then some e else g k' n'
def xua (ad : xL) (k : Nat) (n : Int) (q : Nat) : xL := fun k' n' => if k' = k ∧ n' = n then q else ad k' n'
theorem xup_s {g : xG} {k : Nat} {n : Int} {e : va_E} : xup g k n e k n = some e := by unfold xup; rw [if_pos ⟨rfl, rfl⟩]
theorem xup_n {g : xG} {k k' : Nat} {n n' : Int} {e : va_E} (h : ¬ (k' = k ∧ n' = n)) : xup g k n e k' n' = g k' n' := by unfold xup; rw [if_neg h]
theorem xua_s {ad : xL} {k : Nat} {n : Int} {q : Nat} : xua ad k n q k n = q := by unfold xua; rw [if_pos ⟨rfl, rfl⟩]
theorem xua_n {ad : xL} {k k' : Nat} {n n' : Int} {q : Nat} (h : ¬ (k' = k ∧ n' = n)) : xua ad k n q k' n' = ad k' n' := by unfold xua; rw [if_neg h]
theorem xHW.set {D : va_G} {A : Nat → Prop} {ad : xL} {g : xG} {H H1 : Heap} {k : Nat} {n : Int} {e0 e : va_E} (h : xHW D A ad g H) (hg : g k n = some e0) (he : va_at D vwCl (ad k n, e) H1) (oq : ∀ q : Nat, q ≠ ad k n → H1[q]? = H[q]?) : xHW D A ad (xup g k n e) H1 := by
  have f : ∀ k' n' e', xup g k n e k' n' = some e' → ∃ e'', g k' n' = some e'' := by
    intro k' n' e' h'
    by_cases c : k' = k ∧ n' = n
    · obtain ⟨rfl, rfl⟩ := c
      exact ⟨_, hg⟩
    · rw [xup_n c] at h'
      exact ⟨_, h'⟩
  refine ⟨fun k' n' e' h' => ?_, fun k1 n1 e1 k2 n2 e2 h1 h2 ha => ?_⟩
  · by_cases c : k' = k ∧ n' = n
    · obtain ⟨rfl, rfl⟩ := c
      rw [xup_s] at h'
      cases h'
      exact ⟨he, (h.1 _ _ _ hg).2⟩
    · rw [xup_n c] at h'
      exact ⟨(h.1 _ _ _ h').1.kept (oq _ fun q => c (h.2 _ _ _ _ _ _ h' hg q)), (h.1 _ _ _ h').2⟩
  · obtain ⟨f1, g1⟩ := f _ _ _ h1
    obtain ⟨f2, g2⟩ := f _ _ _ h2
    exact h.2 _ _ _ _ _ _ g1 g2 ha
theorem xHW.lt {D : va_G} {A : Nat → Prop} {ad : xL} {g : xG} {H : Heap} {k : Nat} {n : Int} {e : va_E} (h : xHW D A ad g H) (hg : g k n = some e) : ad k n < H.size := (h.1 _ _ _ hg).1.lt
theorem xHW.grow {D : va_G} {A : Nat → Prop} {ad : xL} {g : xG} {H H1 : Heap} (h : xHW D A ad g H) (o1 : ∀ a : Nat, a < H.size → H1[a]? = H[a]?) : xHW D A ad g H1 :=
  ⟨fun k n e hg => ⟨(h.1 _ _ _ hg).1.kept (o1 _ (h.lt hg)), (h.1 _ _ _ hg).2⟩, h.2⟩
theorem xHW.push {D : va_G} {A : Nat → Prop} {ad : xL} {g : xG} {H H1 : Heap} {k : Nat} {n : Int} {e : va_E} {q : Nat} (h : xHW D A ad g H) (hg : g k n = none) (he : va_at D vwCl (q, e) H1) (hq : q = H.size) (hA : A q) (o1 : ∀ a : Nat, a < H.size → H1[a]? = H[a]?) : xHW D A (xua ad k n q) (xup g k n e) H1 := by
  have f : ∀ k' n' e', xup g k n e k' n' = some e' → (k' = k ∧ n' = n ∧ e' = e ∧ xua ad k n q k' n' = q) ∨ (g k' n' = some e' ∧ xua ad k n q k' n' = ad k' n' ∧ ad k' n' < H.size) := by
    intro k' n' e' h'
    by_cases c : k' = k ∧ n' = n
    · left
      obtain ⟨rfl, rfl⟩ := c
      rw [xup_s] at h'
      exact ⟨rfl, rfl, (Option.some.inj h').symm, xua_s⟩
    · right
      rw [xup_n c] at h'
      exact ⟨h', xua_n c, h.lt h'⟩
  refine ⟨fun k' n' e' h' => ?_, fun k1 n1 e1 k2 n2 e2 h1 h2 ha => ?_⟩
  · rcases f _ _ _ h' with ⟨rfl, rfl, rfl, e4⟩ | ⟨e1, e2, -⟩
    · rw [e4]; exact ⟨he, hA⟩
    · rw [e2]; exact ⟨(h.1 _ _ _ e1).1.kept (o1 _ (h.lt e1)), (h.1 _ _ _ e1).2⟩
  · rcases f _ _ _ h1 with ⟨rfl, rfl, -, e4⟩ | ⟨a1, a2, a3⟩
    · rcases f _ _ _ h2 with ⟨rfl, rfl, -, f4⟩ | ⟨b1, b2, b3⟩
      · exact ⟨rfl, rfl⟩
      · rw [e4, b2] at ha; omega
    · rcases f _ _ _ h2 with ⟨rfl, rfl, -, f4⟩ | ⟨b1, b2, b3⟩
      · rw [a2, f4] at ha; omega
      · rw [a2, b2] at ha
        exact h.2 _ _ _ _ _ _ a1 b1 ha

/-! what every method may take as given of the tables, the statics and the constants -/
def xStrs : List (String × Nat × String) := [("Proofpress", 47, "there are 3 documents"), ("Proofpress", 130, "no such document"), ("Proofpress", 125, "no such place"), ("Proofpress", 69, "no such code"), ("Proofpress", 81, "the text has 80 characters"), ("Proofpress", 137, "the edit is barred"), ("Proofpress", 118, "the hour is out of range"), ("Proofpress", 168, "no such span"), ("Proofpress", 170, "there are 8 comments"), ("Proofpress", 197, "no such comment"), ("Proofpress", 199, "the comment is not open"), ("Proofpress", 201, "there is no text"), ("Proofpress", 203, "a comment is open"), ("Proofpress", 208, "this version is signed"), ("Proofpress", 246, "the document has no proof"), ("Proofpress", 248, "no such sheet"), ("Proofpress", 225, "no such position"), ("Proofpress", 250, "no such index"), ("Proofpress", 252, "a number is out of range"), ("Proofpress", 261, "the stock would be too large"), ("Proofpress", 266, "the document has no proof, or there are 6 orders"), ("Proofpress", 272, "there is not enough free paper"), ("Proofpress", 311, "no such order"), ("Proofpress", 300, "all orders are done"), ("Proofpress", 309, "no sheet waits or is stale"), ("Proofpress", 339, "a sheet is on the press, or this one is good"), ("Proofpress", 344, "there is not enough paper or no plate"), ("Proofpress", 362, "the number of hours is out of range"), ("Proofpress", 364, "the hour would be too great"), ("Proofpress", 383, "the sheet never had a plate"), ("Proofpress", 394, "there are no orders"), ("Proofpress", 397, "there are no documents")]
def xCasts : List (String × String) := [("java/lang/IllegalStateException", "java/lang/IllegalStateException"), ("java/lang/ArrayIndexOutOfBoundsException", "java/lang/ArrayIndexOutOfBoundsException"), ("java/util/NoSuchElementException", "java/util/NoSuchElementException"), ("java/lang/IndexOutOfBoundsException", "java/lang/IndexOutOfBoundsException"), ("java/lang/IllegalArgumentException", "java/lang/IllegalArgumentException"), ("java/lang/UnsupportedOperationException", "java/lang/UnsupportedOperationException"), ("java/lang/ArithmeticException", "java/lang/ArithmeticException"), ("java/lang/ArrayIndexOutOfBoundsException", "java/lang/IndexOutOfBoundsException"), ("Proofpress", "java/lang/Object"), ("Proofpress$Log", "java/lang/Object"), ("Proofpress$Press", "java/lang/Object"), ("ProofpressModel", "java/lang/Object"), ("java/lang/IllegalStateException", "java/lang/Object"), ("Proofpress$Document", "java/lang/Object"), ("Proofpress$Text", "java/lang/Object"), ("java/lang/ArrayIndexOutOfBoundsException", "java/lang/Object"), ("java/util/NoSuchElementException", "java/lang/Object"), ("java/lang/IndexOutOfBoundsException", "java/lang/Object"), ("java/lang/IllegalArgumentException", "java/lang/Object"), ("java/lang/UnsupportedOperationException", "java/lang/Object"), ("Proofpress$Comment", "java/lang/Object"), ("Proofpress$Order", "java/lang/Object"), ("Proofpress$SheetRecord", "java/lang/Object"), ("java/lang/ArithmeticException", "java/lang/Object"), ("java/lang/Throwable", "java/lang/Object"), ("java/lang/String", "java/lang/Object")]
def xNests : List (String × Nat × String × String × String × String) := [("Proofpress", 335, "Proofpress$Press", "order", "LProofpress$Order;", "Proofpress"), ("Proofpress", 359, "Proofpress$Press", "leavingHour", "I", "Proofpress"), ("Proofpress$Document", 38, "Proofpress$Text", "size", "I", "Proofpress"), ("Proofpress", 76, "Proofpress$Text", "size", "I", "Proofpress"), ("Proofpress", 72, "Proofpress$Document", "text", "LProofpress$Text;", "Proofpress"), ("Proofpress", 90, "Proofpress$Document", "version", "I", "Proofpress"), ("Proofpress", 205, "Proofpress$Document", "proofVersion", "I", "Proofpress"), ("Proofpress$Press", 35, "Proofpress$Document", "proofSheets", "I", "Proofpress"), ("Proofpress", 216, "Proofpress$Document", "proofSheets", "I", "Proofpress"), ("Proofpress", 120, "Proofpress$Document", "closingHour", "I", "Proofpress"), ("Proofpress", 183, "Proofpress$Comment", "document", "LProofpress$Document;", "Proofpress"), ("Proofpress", 162, "Proofpress$Comment", "from", "I", "Proofpress"), ("Proofpress", 194, "Proofpress$Comment", "to", "I", "Proofpress"), ("Proofpress", 179, "Proofpress$Comment", "open", "Z", "Proofpress"), ("Proofpress$Order", 32, "Proofpress$SheetRecord", "isPrinted", "Z", "Proofpress"), ("Proofpress", 321, "Proofpress$SheetRecord", "isPrinted", "Z", "Proofpress"), ("Proofpress", 376, "Proofpress$SheetRecord", "plate", "[I", "Proofpress"), ("Proofpress", 373, "Proofpress$SheetRecord", "plateSize", "I", "Proofpress"), ("Proofpress", 380, "Proofpress$SheetRecord", "hasPlate", "Z", "Proofpress"), ("Proofpress", 302, "Proofpress$Order", "number", "I", "Proofpress"), ("Proofpress$Press", 23, "Proofpress$Order", "document", "LProofpress$Document;", "Proofpress"), ("Proofpress", 285, "Proofpress$Order", "document", "LProofpress$Document;", "Proofpress"), ("Proofpress", 332, "Proofpress$Order", "copies", "I", "Proofpress"), ("Proofpress", 294, "Proofpress$Order", "due", "I", "Proofpress"), ("Proofpress", 317, "Proofpress$Order", "records", "[LProofpress$SheetRecord;", "Proofpress"), ("Proofpress", 346, "Proofpress$Order", "paperTaken", "I", "Proofpress"), ("Proofpress", 385, "Proofpress$Order", "paperWasted", "I", "Proofpress"), ("Proofpress", 349, "Proofpress$Order", "platesTaken", "I", "Proofpress")]
def xDecls : List MethodName := [⟨"java/lang/RuntimeException", "<init>", "()V"⟩, ⟨"java/lang/RuntimeException", "<init>", "(Ljava/lang/String;)V"⟩, ⟨"java/lang/Exception", "<init>", "()V"⟩, ⟨"java/lang/Exception", "<init>", "(Ljava/lang/String;)V"⟩, ⟨"java/lang/Throwable", "<init>", "()V"⟩, ⟨"java/lang/Throwable", "<init>", "(Ljava/lang/String;)V"⟩, ⟨"java/lang/IndexOutOfBoundsException", "<init>", "()V"⟩, ⟨"java/lang/IndexOutOfBoundsException", "<init>", "(Ljava/lang/String;)V"⟩]
def xTys (Y : Nat → ClassId) : List (ClassId × FieldType) := [(Y 0, .int), (Y 1, .boolean), (Y 2, .long), (Y 3, .double), (Y 4, .object RX1), (Y 5, .object RX0), (Y 6, .object RX4), (Y 7, .object RX6)]
def xGE (D : va_G) (Y : Nat → ClassId) (A : Nat → Prop) (U : State) : Prop :=
  va_K D vwCl (xTys Y) U ∧ vx_Zq Bundle.tN "UNASSIGNED_STACK" Bundle.steD A U U.heap ∧ vx_Zq Bundle.tN "SUPPRESSED_SENTINEL" Bundle.listD A U U.heap ∧
  (∀ x ∈ xStrs, ∃ a : Nat, vk_R x.1 x.2.1 x.2.2 a U) ∧ (∀ x ∈ xCasts, va_Nw (.castable x.1 x.2) U) ∧ (∀ x ∈ xNests, va_Nw (.fieldLinkNest x.1 x.2.1 x.2.2.1 x.2.2.2.1 x.2.2.2.2.1 x.2.2.2.2.2) U) ∧
  (∀ x ∈ xDecls, va_Nw (.declares x) U) ∧ va_AO RX1 U ∧ va_AO RX0 U ∧ va_AO RX4 U ∧ va_AO RX6 U
/-- it holds on behind what the method has done -/
theorem xGE.moved {D : va_G} {Y : Nat → ClassId} {A : Nat → Prop} {s U : State} {H : Heap} {locs : List Loc} (h : xGE D Y A s) (hS : va_S A s.heap H locs) (hU : U.heap = H) (hW : s.WarmedH U.vm) : xGE D Y A U := by
  obtain ⟨h1, h2, h3, h4, h5, h6, h6d, h7, h8, h9, h10⟩ := h
  have hk : ∀ a : Nat, a < s.heap.size → ¬ A a → U.heap[a]? = s.heap[a]? := fun a h1 h2 => by rw [hU]; exact hS.2.1 a h1 h2
  exact ⟨h1.moved hW.alike, (h2.moved hW.alike).kept hk, (h3.moved hW.alike).kept hk, fun x hx => (h4 x hx).elim fun a ha => ⟨a, ha.warm hW⟩, fun x hx => va_Nw.warmC hW (h5 x hx), fun x hx => va_Nw.warmF hW (h6 x hx), fun x hx => va_Nw.warmD hW (h6d x hx), h7.moved hW.alike, h8.moved hW.alike, h9.moved hW.alike, h10.moved hW.alike⟩
theorem xGE.calling {D : va_G} {Y : Nat → ClassId} {A : Nat → Prop} {U : State} (g : JFrame) (mk : MethodId) (a : Array Value) (h : xGE D Y A U) : xGE D Y A (U.calling g mk a) := by
  obtain ⟨h1, h2, h3, h4, h5, h6, h6d, h7, h8, h9, h10⟩ := h
  have r : U.vm.Alike (U.calling g mk a).vm := Vm.Alike.refl U.vm
  exact ⟨h1.moved r, vx_Zq.moved (U := U.calling g mk a) r h2, vx_Zq.moved (U := U.calling g mk a) r h3, fun x hx => (h4 x hx).elim fun q hq => ⟨q, vk_R.same (U := U.calling g mk a) rfl hq⟩, fun x hx => va_Nw.same rfl (U := U.calling g mk a) rfl (h5 x hx), fun x hx => va_Nw.same rfl (U := U.calling g mk a) rfl (h6 x hx), fun x hx => va_Nw.same rfl (U := U.calling g mk a) rfl (h6d x hx), h7.moved r, h8.moved r, h9.moved r, h10.moved r⟩
/-! the walk -/
abbrev xK : Type := Program × Launch × Env × Room × State × MethodId × Array Value × List Frame × Method × Code × (State → Prop)
def xlh (la : Array Slot) (nL : Nat) (l : List (Option Value)) : Prop := la.size = nL ∧ lv_wf la ∧ ∀ (i : Nat) (v : Value), l[i]? = some (some v) → la[i]? = some (.val v)
def X (κ : xK) (D : va_G) (A : Nat → Prop) (nL cells slots pc : Nat) (l : List (Option Value)) (st : List Value) (ad : xL) (g : xG) : Prop :=
  match κ with
  | (p, lc, e, R, s, m, args, below, meth, c, Q) => ∀ (H : Heap) (locs : List Loc) (la : Array Slot), xHW D A ad g H → va_S A s.heap H locs → xlh la nL l → W p lc e R s m args below meth c H locs cells slots Q (F0 m pc la st)
def XB (κ : xK) (D : va_G) (Y : Nat → ClassId) (A : Nat → Prop) (cc : ByteArray) (own : String) (nL : Nat) (R0 : Room) : Prop :=
  match κ with
  | (p, lc, _, R, s, m, args, _, meth, c, _) => p.tables.exec = Jvm.exec ∧ c.code = cc ∧ c.maxLocals = nL ∧ s.vm.findClass own = some m.cls ∧ (∀ w ∈ gw, w.before args s = true) ∧ xGE D Y A s ∧ (∀ q, s.heap.size ≤ q → A q) ∧ lc.stackTraces = false ∧ meth.locks = false ∧ R = R0
def cP (D : va_G) (Y : Nat → ClassId) (A : Nat → Prop) (ad : xL) (g : xG) (av : List Value) : Array Value → State → Prop := fun v U => v = av.toArray ∧ xGE D Y A U ∧ (∀ q, U.heap.size ≤ q → A q) ∧ xHW D A ad g U.heap
abbrev xPo : Type := Option Value → xL → xG → Prop
abbrev xPx : Type := String → xL → xG → Prop
def cQ (D : va_G) (A : Nat → Prop) (post : xPo) : Array Value → State → Outcome → State → Prop := fun _ st oc t => (∃ (r : Option Value) (ad' : xL) (g' : xG), oc = .returned r ∧ post r ad' g' ∧ xHW D A ad' g' t.heap) ∧ va_F A st t
def cX (D : va_G) (A : Nat → Prop) (px : xPx) : String → State → State → Prop := fun E st t => (∃ (ad' : xL) (g' : xG), px E ad' g' ∧ xHW D A ad' g' t.heap) ∧ va_F A st t
def XM (κ : xK) (D : va_G) (A : Nat → Prop) (nm : String) (rt : Option FieldType) (R0 : Room) (post : xPo) (px : xPx) : Prop :=
  match κ with
  | (_, _, _, R, s, _, args, below, meth, c, Q) => R = R0 ∧ meth.sig.returnType = rt ∧ meth.name = nm ∧ (∀ x ∈ c.exceptionTable.toList, False) ∧ Q = vx_MQ below (cQ D A post) (cX D A px) args s R0.cells R0.slots A
/-- a method's contract -/
def Ct (lc : Launch) (y : MethodName) (cc : ByteArray) (nL : Nat) (rt : Option FieldType) (rm : Room) (D : va_G) (Y : Nat → ClassId) (A : Nat → Prop) (ad : xL) (g : xG) (av : List Value) (post : xPo) (px : xPx) : Prop :=
  vx_Met lc y (Cond.code y cc nL rt :: gw) rm (cP D Y A ad g av) (cQ D A post) (cX D A px) rm.cells rm.slots A
def xso : Slot → Option Value
  | .val v => some v
  | _ => none
theorem cP_blind {D : va_G} {Y : Nat → ClassId} {A : Nat → Prop} {ad : xL} {g : xG} {av : List Value} : FrameBlind (cP D Y A ad g av) := fun a U f mk q => ⟨q.1, q.2.1.calling f mk a, q.2.2.1, q.2.2.2⟩
theorem xso_spec {L : List Slot} {i : Nat} {v : Value} (h : (L.map xso)[i]? = some (some v)) : L[i]? = some (.val v) := by
  rw [List.getElem?_map] at h
  cases hL : L[i]? with
  | none => rw [hL] at h; cases h
  | some q =>
    rw [hL] at h
    cases q with
    | val w => simp only [Option.map_some, xso, Option.some.injEq] at h; rw [h]
    | _ => simp [xso] at h
/-- a contract out of the walk of the body -/
theorem Ct_of {lc : Launch} (hlc : lc.stackTraces = false) {y : MethodName} {cc : ByteArray} {nL : Nat} {rt : Option FieldType} {rm : Room} {D : va_G} {Y : Nat → ClassId} {A : Nat → Prop} {ad : xL} {g : xG} {av : List Value} {post : xPo} {px : xPx} {own nm : String}
    (hy : plainName y.cls = true) (hown : y.cls = own) (hnm : y.name = nm) {l0 : List (Option Value)} (hl0 : (lg_sl av ++ List.replicate (nL - (lg_sl av).length) Slot.unset).map xso = l0) (hav : (lg_sl av).length ≤ nL)
    (body : ∀ κ : xK, XB κ D Y A cc own nL rm → XM κ D A nm rt rm post px → X κ D A nL 0 0 0 l0 [] ad g) : Ct lc y cc nL rt rm D Y A ad g av post px := by
  unfold Ct
  refine vx_ofW (cc := cc) (maxL := nL) (ret := rt) hy rfl ?_
  intro p e s m args below meth c s₁ B hml htab hP
  obtain ⟨rfl, hE, hA, hW⟩ := hP
  have hts := atoms_spec (ws := Cond.code y cc nL rt :: gw) B.pre
  have h := body (p, lc, e, (headSpec (Cond.code y cc nL rt :: gw) rm).room, s, m, av.toArray, below, meth, c, vx_MQ below (cQ D A post) (cX D A px) av.toArray s rm.cells rm.slots A)
    ⟨B.exec, B.bytes, hml, by rw [← hown]; exact findClass_of_methodNamed B.named, fun w hw => hts w (List.mem_cons_of_mem _ hw), hE, hA, hlc, B.notSynchronized, rfl⟩
    ⟨rfl, B.returns, by rw [← hnm]; exact (name_of_methodNamed B.named B.method).1, htab, rfl⟩
  have hl := lv_entry av (n := nL) hav
  rw [lg_entry_eq]
  exact h s.heap [] _ hW va_S.rf ⟨hl.1, hl.2.1, fun i v hv => by
    rw [← hl0] at hv
    rw [List.getElem?_toArray]
    exact xso_spec hv⟩
/-- a contract for one answer, one state behind it -/
def pE (r : Option Value) (ad : xL) (g : xG) : xPo := fun r' ad' g' => r' = r ∧ ad' = ad ∧ g' = g
def pF : xPx := fun _ _ _ => False
section XR
variable {κ : xK} {D : va_G} {Y : Nat → ClassId} {A : Nat → Prop} {cc : ByteArray} {own : String} {nL : Nat} {R0 : Room} {cells slots pc : Nat} {l : List (Option Value)} {st : List Value} {ad : xL} {g : xG}
theorem X.widen {k n : Nat} (h1 : cells ≤ k) (h2 : slots ≤ n) (kk : X κ D A nL k n pc l st ad g) : X κ D A nL cells slots pc l st ad g := by
  obtain ⟨p, lc, e, R, s, m, args, below, meth, c, Q⟩ := κ
  intro H locs la hW hS hl
  exact W.widen h1 h2 (kk H locs la hW hS hl)

theorem X_iconst (C : XB κ D Y A cc own nL R0) {n : Int} (hd : decode cc pc = .ok (.iconst n, 1)) (k : X κ D A nL cells slots (pc + 1) (l) (.int (iI n) :: st) (ad) (g)) : X κ D A nL cells slots (pc) (l) (st) (ad) (g) := by
  obtain ⟨p, lc, e, R, s, m, args, below, meth, c, Q⟩ := κ
  obtain ⟨hx, hb, hml, hown, hts, hE, hA, hlc, hlk, hR⟩ := C
  intro H locs la hW hS hl
  exact lv_iconst hx hb hd rfl (k H locs la hW hS hl)
theorem X_bipush (C : XB κ D Y A cc own nL R0) {n : Int} (hn : -128 ≤ n ∧ n ≤ 127) (hd : decode cc pc = .ok (.bipush n, 2)) (k : X κ D A nL cells slots (pc + 2) (l) (.int (iI n) :: st) (ad) (g)) : X κ D A nL cells slots (pc) (l) (st) (ad) (g) := by
  obtain ⟨p, lc, e, R, s, m, args, below, meth, c, Q⟩ := κ
  obtain ⟨hx, hb, hml, hown, hts, hE, hA, hlc, hlk, hR⟩ := C
  intro H locs la hW hS hl
  exact lv_bipush hx hb hd (Int8.toInt32_ofInt hn.1 hn.2) (k H locs la hW hS hl)
theorem X_sipush (C : XB κ D Y A cc own nL R0) {n : Int} (hn : -32768 ≤ n ∧ n ≤ 32767) (hd : decode cc pc = .ok (.sipush n, 3)) (k : X κ D A nL cells slots (pc + 3) (l) (.int (iI n) :: st) (ad) (g)) : X κ D A nL cells slots (pc) (l) (st) (ad) (g) := by
  obtain ⟨p, lc, e, R, s, m, args, below, meth, c, Q⟩ := κ
  obtain ⟨hx, hb, hml, hown, hts, hE, hA, hlc, hlk, hR⟩ := C
  intro H locs la hW hS hl
  exact lv_sipush hx hb hd (Int16.toInt32_ofInt hn.1 hn.2) (k H locs la hW hS hl)
theorem X_ldc (C : XB κ D Y A cc own nL R0) {i : Nat} {n : Int} {v : Int32} (hv : v = iI n) (hc : Cond.constant own i v ∈ gw) (hd : decode cc pc = .ok (.ldc i, 2)) (k : X κ D A nL cells slots (pc + 2) (l) (.int (iI n) :: st) (ad) (g)) : X κ D A nL cells slots (pc) (l) (st) (ad) (g) := by
  obtain ⟨p, lc, e, R, s, m, args, below, meth, c, Q⟩ := κ
  obtain ⟨hx, hb, hml, hown, hts, hE, hA, hlc, hlk, hR⟩ := C
  intro H locs la hW hS hl
  exact lv_ldc hx hb hown (hts _ hc) hd (hv ▸ k H locs la hW hS hl)
theorem X_ldc2 (C : XB κ D Y A cc own nL R0) {i : Nat} {n : Int} {v : Int64} (hv : v = lI n) (hc : Cond.constantLong own i v ∈ gw) (hd : decode cc pc = .ok (.ldc2_w i, 3)) (k : X κ D A nL cells slots (pc + 3) (l) (.long (lI n) :: st) (ad) (g)) : X κ D A nL cells slots (pc) (l) (st) (ad) (g) := by
  obtain ⟨p, lc, e, R, s, m, args, below, meth, c, Q⟩ := κ
  obtain ⟨hx, hb, hml, hown, hts, hE, hA, hlc, hlk, hR⟩ := C
  intro H locs la hW hS hl
  exact lv_ldc2 hx hb hown (hts _ hc) hd (hv ▸ k H locs la hW hS hl)
theorem X_lconst (C : XB κ D Y A cc own nL R0) {n : Fin 2} {v : Int} (hv : Int64.ofNat (n : Nat) = lI v) (hd : decode cc pc = .ok (.lconst n, 1)) (k : X κ D A nL cells slots (pc + 1) (l) (.long (lI v) :: st) (ad) (g)) : X κ D A nL cells slots (pc) (l) (st) (ad) (g) := by
  obtain ⟨p, lc, e, R, s, m, args, below, meth, c, Q⟩ := κ
  obtain ⟨hx, hb, hml, hown, hts, hE, hA, hlc, hlk, hR⟩ := C
  intro H locs la hW hS hl
  exact lv_lconst hx hb hd hv (k H locs la hW hS hl)
theorem X_null (C : XB κ D Y A cc own nL R0)  (hd : decode cc pc = .ok (.aconst_null, 1)) (k : X κ D A nL cells slots (pc + 1) (l) (va_rf none :: st) (ad) (g)) : X κ D A nL cells slots (pc) (l) (st) (ad) (g) := by
  obtain ⟨p, lc, e, R, s, m, args, below, meth, c, Q⟩ := κ
  obtain ⟨hx, hb, hml, hown, hts, hE, hA, hlc, hlk, hR⟩ := C
  intro H locs la hW hS hl
  exact lv_null hx hb hd (k H locs la hW hS hl)
theorem X_iload_n (C : XB κ D Y A cc own nL R0) {i : Fin 4} {x : Int32} (hv : l[(i : Nat)]? = some (some (.int x))) (hd : decode cc pc = .ok (.iload_n i, 1)) (k : X κ D A nL cells slots (pc + 1) (l) (.int x :: st) (ad) (g)) : X κ D A nL cells slots (pc) (l) (st) (ad) (g) := by
  obtain ⟨p, lc, e, R, s, m, args, below, meth, c, Q⟩ := κ
  obtain ⟨hx, hb, hml, hown, hts, hE, hA, hlc, hlk, hR⟩ := C
  intro H locs la hW hS hl
  exact lv_iload_n hx hb hd rfl (hl.2.2 _ _ hv) (k H locs la hW hS hl)
theorem X_iload (C : XB κ D Y A cc own nL R0) {i : Nat} {x : Int32} (hv : l[i]? = some (some (.int x))) (hd : decode cc pc = .ok (.iload i, 2)) (k : X κ D A nL cells slots (pc + 2) (l) (.int x :: st) (ad) (g)) : X κ D A nL cells slots (pc) (l) (st) (ad) (g) := by
  obtain ⟨p, lc, e, R, s, m, args, below, meth, c, Q⟩ := κ
  obtain ⟨hx, hb, hml, hown, hts, hE, hA, hlc, hlk, hR⟩ := C
  intro H locs la hW hS hl
  exact lv_iload hx hb hd (hl.2.2 _ _ hv) (k H locs la hW hS hl)
theorem X_aload_n (C : XB κ D Y A cc own nL R0) {i : Fin 4} {x : Nat} (hv : l[(i : Nat)]? = some (some (.ref x))) (hd : decode cc pc = .ok (.aload_n i, 1)) (k : X κ D A nL cells slots (pc + 1) (l) (.ref x :: st) (ad) (g)) : X κ D A nL cells slots (pc) (l) (st) (ad) (g) := by
  obtain ⟨p, lc, e, R, s, m, args, below, meth, c, Q⟩ := κ
  obtain ⟨hx, hb, hml, hown, hts, hE, hA, hlc, hlk, hR⟩ := C
  intro H locs la hW hS hl
  exact lv_aload_n hx hb hd rfl (hl.2.2 _ _ hv) (k H locs la hW hS hl)
theorem X_aload (C : XB κ D Y A cc own nL R0) {i : Nat} {x : Nat} (hv : l[i]? = some (some (.ref x))) (hd : decode cc pc = .ok (.aload i, 2)) (k : X κ D A nL cells slots (pc + 2) (l) (.ref x :: st) (ad) (g)) : X κ D A nL cells slots (pc) (l) (st) (ad) (g) := by
  obtain ⟨p, lc, e, R, s, m, args, below, meth, c, Q⟩ := κ
  obtain ⟨hx, hb, hml, hown, hts, hE, hA, hlc, hlk, hR⟩ := C
  intro H locs la hW hS hl
  exact lv_aload hx hb hd (hl.2.2 _ _ hv) (k H locs la hW hS hl)
theorem X_lload_n (C : XB κ D Y A cc own nL R0) {i : Fin 4} {x : Int64} (hv : l[(i : Nat)]? = some (some (.long x))) (hd : decode cc pc = .ok (.lload_n i, 1)) (k : X κ D A nL cells slots (pc + 1) (l) (.long x :: st) (ad) (g)) : X κ D A nL cells slots (pc) (l) (st) (ad) (g) := by
  obtain ⟨p, lc, e, R, s, m, args, below, meth, c, Q⟩ := κ
  obtain ⟨hx, hb, hml, hown, hts, hE, hA, hlc, hlk, hR⟩ := C
  intro H locs la hW hS hl
  exact lv_lload_n hx hb hd rfl (hl.2.2 _ _ hv) (k H locs la hW hS hl)
theorem X_lload (C : XB κ D Y A cc own nL R0) {i : Nat} {x : Int64} (hv : l[i]? = some (some (.long x))) (hd : decode cc pc = .ok (.lload i, 2)) (k : X κ D A nL cells slots (pc + 2) (l) (.long x :: st) (ad) (g)) : X κ D A nL cells slots (pc) (l) (st) (ad) (g) := by
  obtain ⟨p, lc, e, R, s, m, args, below, meth, c, Q⟩ := κ
  obtain ⟨hx, hb, hml, hown, hts, hE, hA, hlc, hlk, hR⟩ := C
  intro H locs la hW hS hl
  exact lv_lload hx hb hd (hl.2.2 _ _ hv) (k H locs la hW hS hl)
theorem X_fload_n (C : XB κ D Y A cc own nL R0) {i : Fin 4} {x : UInt32} (hv : l[(i : Nat)]? = some (some (.float x))) (hd : decode cc pc = .ok (.fload_n i, 1)) (k : X κ D A nL cells slots (pc + 1) (l) (.float x :: st) (ad) (g)) : X κ D A nL cells slots (pc) (l) (st) (ad) (g) := by
  obtain ⟨p, lc, e, R, s, m, args, below, meth, c, Q⟩ := κ
  obtain ⟨hx, hb, hml, hown, hts, hE, hA, hlc, hlk, hR⟩ := C
  intro H locs la hW hS hl
  exact lv_fload_n hx hb hd rfl (hl.2.2 _ _ hv) (k H locs la hW hS hl)
theorem X_fload (C : XB κ D Y A cc own nL R0) {i : Nat} {x : UInt32} (hv : l[i]? = some (some (.float x))) (hd : decode cc pc = .ok (.fload i, 2)) (k : X κ D A nL cells slots (pc + 2) (l) (.float x :: st) (ad) (g)) : X κ D A nL cells slots (pc) (l) (st) (ad) (g) := by
  obtain ⟨p, lc, e, R, s, m, args, below, meth, c, Q⟩ := κ
  obtain ⟨hx, hb, hml, hown, hts, hE, hA, hlc, hlk, hR⟩ := C
  intro H locs la hW hS hl
  exact lv_fload hx hb hd (hl.2.2 _ _ hv) (k H locs la hW hS hl)
theorem X_dload (C : XB κ D Y A cc own nL R0) {i : Nat} {x : UInt64} (hv : l[i]? = some (some (.double x))) (hd : decode cc pc = .ok (.dload i, 2)) (k : X κ D A nL cells slots (pc + 2) (l) (.double x :: st) (ad) (g)) : X κ D A nL cells slots (pc) (l) (st) (ad) (g) := by
  obtain ⟨p, lc, e, R, s, m, args, below, meth, c, Q⟩ := κ
  obtain ⟨hx, hb, hml, hown, hts, hE, hA, hlc, hlk, hR⟩ := C
  intro H locs la hW hS hl
  exact lv_dload hx hb hd (hl.2.2 _ _ hv) (k H locs la hW hS hl)
theorem X_aloadq_n (C : XB κ D Y A cc own nL R0) {i : Fin 4} {q : Option Nat} (hv : l[(i : Nat)]? = some (some (va_rf q))) (hd : decode cc pc = .ok (.aload_n i, 1)) (k : X κ D A nL cells slots (pc + 1) (l) (va_rf q :: st) (ad) (g)) : X κ D A nL cells slots (pc) (l) (st) (ad) (g) := by
  obtain ⟨p, lc, e, R, s, m, args, below, meth, c, Q⟩ := κ
  obtain ⟨hx, hb, hml, hown, hts, hE, hA, hlc, hlk, hR⟩ := C
  intro H locs la hW hS hl
  cases q with
  | none => exact lv_aload_nN hx hb hd rfl (hl.2.2 _ _ hv) (k H locs la hW hS hl)
  | some x => exact lv_aload_n hx hb hd rfl (hl.2.2 _ _ hv) (k H locs la hW hS hl)
def xas (l : List (Option Value)) : List (Nat × Value) := (List.range l.length).filterMap (fun i => match l[i]? with | some (some v) => some (i, v) | _ => none)
def xnw (l : List (Option Value)) (i : Nat) : Bool := match i with
  | 0 => true
  | j + 1 => match l[j]? with
    | some (some w) => w.category == 1
    | _ => true
theorem xas_of {l : List (Option Value)} {i : Nat} {v : Value} (h : l[i]? = some (some v)) : (i, v) ∈ xas l := by
  refine List.mem_filterMap.mpr ⟨i, List.mem_range.mpr (List.getElem?_eq_some_iff.mp h).1, ?_⟩
  rw [h]
theorem xas_to {l : List (Option Value)} {q : Nat × Value} (h : q ∈ xas l) : l[q.1]? = some (some q.2) := by
  obtain ⟨i, -, hi⟩ := List.mem_filterMap.mp h
  cases hl : l[i]? with
  | none => rw [hl] at hi; cases hi
  | some o =>
    rw [hl] at hi
    cases o with
    | none => cases hi
    | some v => cases hi; exact hl
theorem xlh.has {la : Array Slot} {nL : Nat} {l : List (Option Value)} (h : xlh la nL l) : lv_has la nL (xas l) := ⟨h.1, h.2.1, fun q hq => h.2.2 _ _ (xas_to hq)⟩
theorem xlh.set1 {la : Array Slot} {nL i : Nat} {l : List (Option Value)} {v : Value} (hw : xnw l i = true) (h : lv_has la nL ((i, v) :: (xas l).filter (fun q => !(q.1 == i) && !(q.1 + 1 == i && q.2.category == 2)))) : xlh la nL (l.set i (some v)) := by
  refine ⟨h.1, h.2.1, fun j w hj => ?_⟩
  by_cases e : j = i
  · subst e
    rw [List.getElem?_set] at hj
    simp only [if_true] at hj
    split at hj
    · cases hj
      exact h.2.2 (j, _) List.mem_cons_self
    · cases hj
  · rw [List.getElem?_set_ne (Ne.symm e)] at hj
    refine h.2.2 (j, w) (List.mem_cons_of_mem _ (List.mem_filter.mpr ⟨xas_of hj, ?_⟩))
    by_cases e2 : j + 1 = i
    · subst e2
      simp only [xnw, hj] at hw
      have hc : w.category = 1 := by simpa using hw
      simp [hc]
    · simp [e, e2]
theorem xlh.set2 {la : Array Slot} {nL i : Nat} {l : List (Option Value)} {v : Value} (hw : xnw l i = true) (h : lv_has la nL ((i, v) :: (xas l).filter (fun q => !(q.1 == i) && (!(q.1 == i + 1) && !(q.1 + 1 == i && q.2.category == 2))))) : xlh la nL ((l.set i (some v)).set (i + 1) none) := by
  refine ⟨h.1, h.2.1, fun j w hj => ?_⟩
  by_cases e1 : j = i + 1
  · subst e1
    rw [List.getElem?_set] at hj
    simp only [if_true] at hj
    split at hj
    · cases hj
    · cases hj
  rw [List.getElem?_set_ne (Ne.symm e1)] at hj
  by_cases e : j = i
  · subst e
    rw [List.getElem?_set] at hj
    simp only [if_true] at hj
    split at hj
    · cases hj
      exact h.2.2 (j, _) List.mem_cons_self
    · cases hj
  · rw [List.getElem?_set_ne (Ne.symm e)] at hj
    refine h.2.2 (j, w) (List.mem_cons_of_mem _ (List.mem_filter.mpr ⟨xas_of hj, ?_⟩))
    by_cases e2 : j + 1 = i
    · subst e2
      simp only [xnw, hj] at hw
      have hc : w.category = 1 := by simpa using hw
      simp [hc]
      try omega
    · simp [e, e1, e2]
theorem X_istore_0 (C : XB κ D Y A cc own nL R0) {x : Int32} {a0 : Option Value} {r : List (Option Value)} (hn : 0 < nL) (hw : xnw (a0 :: r) 0 = true) (hd : decode cc pc = .ok (.istore_n 0, 1)) (k : X κ D A nL cells slots (pc + 1) (some (.int x) :: r) (st) (ad) (g)) : X κ D A nL cells slots (pc) (a0 :: r) (.int x :: st) (ad) (g) := by
  obtain ⟨p, lc, e, R, s, m, args, below, meth, c, Q⟩ := κ
  obtain ⟨hx, hb, hml, hown, hts, hE, hA, hlc, hlk, hR⟩ := C
  intro H locs la hW hS hl
  exact lv_istore_n hx hb hd rfl hl.has hn rfl (fun la hl => k H locs la hW hS (xlh.set1 (l := a0 :: r) hw hl))
theorem X_istore_1 (C : XB κ D Y A cc own nL R0) {x : Int32} {a0 a1 : Option Value} {r : List (Option Value)} (hn : 1 < nL) (hw : xnw (a0 :: a1 :: r) 1 = true) (hd : decode cc pc = .ok (.istore_n 1, 1)) (k : X κ D A nL cells slots (pc + 1) (a0 :: some (.int x) :: r) (st) (ad) (g)) : X κ D A nL cells slots (pc) (a0 :: a1 :: r) (.int x :: st) (ad) (g) := by
  obtain ⟨p, lc, e, R, s, m, args, below, meth, c, Q⟩ := κ
  obtain ⟨hx, hb, hml, hown, hts, hE, hA, hlc, hlk, hR⟩ := C
  intro H locs la hW hS hl
  exact lv_istore_n hx hb hd rfl hl.has hn rfl (fun la hl => k H locs la hW hS (xlh.set1 (l := a0 :: a1 :: r) hw hl))
theorem X_istore_2 (C : XB κ D Y A cc own nL R0) {x : Int32} {a0 a1 a2 : Option Value} {r : List (Option Value)} (hn : 2 < nL) (hw : xnw (a0 :: a1 :: a2 :: r) 2 = true) (hd : decode cc pc = .ok (.istore_n 2, 1)) (k : X κ D A nL cells slots (pc + 1) (a0 :: a1 :: some (.int x) :: r) (st) (ad) (g)) : X κ D A nL cells slots (pc) (a0 :: a1 :: a2 :: r) (.int x :: st) (ad) (g) := by
  obtain ⟨p, lc, e, R, s, m, args, below, meth, c, Q⟩ := κ
  obtain ⟨hx, hb, hml, hown, hts, hE, hA, hlc, hlk, hR⟩ := C
  intro H locs la hW hS hl
  exact lv_istore_n hx hb hd rfl hl.has hn rfl (fun la hl => k H locs la hW hS (xlh.set1 (l := a0 :: a1 :: a2 :: r) hw hl))
theorem X_istore_3 (C : XB κ D Y A cc own nL R0) {x : Int32} {a0 a1 a2 a3 : Option Value} {r : List (Option Value)} (hn : 3 < nL) (hw : xnw (a0 :: a1 :: a2 :: a3 :: r) 3 = true) (hd : decode cc pc = .ok (.istore_n 3, 1)) (k : X κ D A nL cells slots (pc + 1) (a0 :: a1 :: a2 :: some (.int x) :: r) (st) (ad) (g)) : X κ D A nL cells slots (pc) (a0 :: a1 :: a2 :: a3 :: r) (.int x :: st) (ad) (g) := by
  obtain ⟨p, lc, e, R, s, m, args, below, meth, c, Q⟩ := κ
  obtain ⟨hx, hb, hml, hown, hts, hE, hA, hlc, hlk, hR⟩ := C
  intro H locs la hW hS hl
  exact lv_istore_n hx hb hd rfl hl.has hn rfl (fun la hl => k H locs la hW hS (xlh.set1 (l := a0 :: a1 :: a2 :: a3 :: r) hw hl))
theorem X_istore_4 (C : XB κ D Y A cc own nL R0) {x : Int32} {a0 a1 a2 a3 a4 : Option Value} {r : List (Option Value)} (hn : 4 < nL) (hw : xnw (a0 :: a1 :: a2 :: a3 :: a4 :: r) 4 = true) (hd : decode cc pc = .ok (.istore 4, 2)) (k : X κ D A nL cells slots (pc + 2) (a0 :: a1 :: a2 :: a3 :: some (.int x) :: r) (st) (ad) (g)) : X κ D A nL cells slots (pc) (a0 :: a1 :: a2 :: a3 :: a4 :: r) (.int x :: st) (ad) (g) := by
  obtain ⟨p, lc, e, R, s, m, args, below, meth, c, Q⟩ := κ
  obtain ⟨hx, hb, hml, hown, hts, hE, hA, hlc, hlk, hR⟩ := C
  intro H locs la hW hS hl
  exact lv_istore hx hb hd hl.has hn rfl (fun la hl => k H locs la hW hS (xlh.set1 (l := a0 :: a1 :: a2 :: a3 :: a4 :: r) hw hl))
theorem X_istore_5 (C : XB κ D Y A cc own nL R0) {x : Int32} {a0 a1 a2 a3 a4 a5 : Option Value} {r : List (Option Value)} (hn : 5 < nL) (hw : xnw (a0 :: a1 :: a2 :: a3 :: a4 :: a5 :: r) 5 = true) (hd : decode cc pc = .ok (.istore 5, 2)) (k : X κ D A nL cells slots (pc + 2) (a0 :: a1 :: a2 :: a3 :: a4 :: some (.int x) :: r) (st) (ad) (g)) : X κ D A nL cells slots (pc) (a0 :: a1 :: a2 :: a3 :: a4 :: a5 :: r) (.int x :: st) (ad) (g) := by
  obtain ⟨p, lc, e, R, s, m, args, below, meth, c, Q⟩ := κ
  obtain ⟨hx, hb, hml, hown, hts, hE, hA, hlc, hlk, hR⟩ := C
  intro H locs la hW hS hl
  exact lv_istore hx hb hd hl.has hn rfl (fun la hl => k H locs la hW hS (xlh.set1 (l := a0 :: a1 :: a2 :: a3 :: a4 :: a5 :: r) hw hl))
theorem X_istore_6 (C : XB κ D Y A cc own nL R0) {x : Int32} {a0 a1 a2 a3 a4 a5 a6 : Option Value} {r : List (Option Value)} (hn : 6 < nL) (hw : xnw (a0 :: a1 :: a2 :: a3 :: a4 :: a5 :: a6 :: r) 6 = true) (hd : decode cc pc = .ok (.istore 6, 2)) (k : X κ D A nL cells slots (pc + 2) (a0 :: a1 :: a2 :: a3 :: a4 :: a5 :: some (.int x) :: r) (st) (ad) (g)) : X κ D A nL cells slots (pc) (a0 :: a1 :: a2 :: a3 :: a4 :: a5 :: a6 :: r) (.int x :: st) (ad) (g) := by
  obtain ⟨p, lc, e, R, s, m, args, below, meth, c, Q⟩ := κ
  obtain ⟨hx, hb, hml, hown, hts, hE, hA, hlc, hlk, hR⟩ := C
  intro H locs la hW hS hl
  exact lv_istore hx hb hd hl.has hn rfl (fun la hl => k H locs la hW hS (xlh.set1 (l := a0 :: a1 :: a2 :: a3 :: a4 :: a5 :: a6 :: r) hw hl))
theorem X_istore_7 (C : XB κ D Y A cc own nL R0) {x : Int32} {a0 a1 a2 a3 a4 a5 a6 a7 : Option Value} {r : List (Option Value)} (hn : 7 < nL) (hw : xnw (a0 :: a1 :: a2 :: a3 :: a4 :: a5 :: a6 :: a7 :: r) 7 = true) (hd : decode cc pc = .ok (.istore 7, 2)) (k : X κ D A nL cells slots (pc + 2) (a0 :: a1 :: a2 :: a3 :: a4 :: a5 :: a6 :: some (.int x) :: r) (st) (ad) (g)) : X κ D A nL cells slots (pc) (a0 :: a1 :: a2 :: a3 :: a4 :: a5 :: a6 :: a7 :: r) (.int x :: st) (ad) (g) := by
  obtain ⟨p, lc, e, R, s, m, args, below, meth, c, Q⟩ := κ
  obtain ⟨hx, hb, hml, hown, hts, hE, hA, hlc, hlk, hR⟩ := C
  intro H locs la hW hS hl
  exact lv_istore hx hb hd hl.has hn rfl (fun la hl => k H locs la hW hS (xlh.set1 (l := a0 :: a1 :: a2 :: a3 :: a4 :: a5 :: a6 :: a7 :: r) hw hl))
theorem X_istore_8 (C : XB κ D Y A cc own nL R0) {x : Int32} {a0 a1 a2 a3 a4 a5 a6 a7 a8 : Option Value} {r : List (Option Value)} (hn : 8 < nL) (hw : xnw (a0 :: a1 :: a2 :: a3 :: a4 :: a5 :: a6 :: a7 :: a8 :: r) 8 = true) (hd : decode cc pc = .ok (.istore 8, 2)) (k : X κ D A nL cells slots (pc + 2) (a0 :: a1 :: a2 :: a3 :: a4 :: a5 :: a6 :: a7 :: some (.int x) :: r) (st) (ad) (g)) : X κ D A nL cells slots (pc) (a0 :: a1 :: a2 :: a3 :: a4 :: a5 :: a6 :: a7 :: a8 :: r) (.int x :: st) (ad) (g) := by
  obtain ⟨p, lc, e, R, s, m, args, below, meth, c, Q⟩ := κ
  obtain ⟨hx, hb, hml, hown, hts, hE, hA, hlc, hlk, hR⟩ := C
  intro H locs la hW hS hl
  exact lv_istore hx hb hd hl.has hn rfl (fun la hl => k H locs la hW hS (xlh.set1 (l := a0 :: a1 :: a2 :: a3 :: a4 :: a5 :: a6 :: a7 :: a8 :: r) hw hl))
theorem X_astore_0 (C : XB κ D Y A cc own nL R0) {x : Nat} {a0 : Option Value} {r : List (Option Value)} (hn : 0 < nL) (hw : xnw (a0 :: r) 0 = true) (hd : decode cc pc = .ok (.astore_n 0, 1)) (k : X κ D A nL cells slots (pc + 1) (some (.ref x) :: r) (st) (ad) (g)) : X κ D A nL cells slots (pc) (a0 :: r) (.ref x :: st) (ad) (g) := by
  obtain ⟨p, lc, e, R, s, m, args, below, meth, c, Q⟩ := κ
  obtain ⟨hx, hb, hml, hown, hts, hE, hA, hlc, hlk, hR⟩ := C
  intro H locs la hW hS hl
  exact lv_astore_n hx hb hd rfl hl.has hn rfl (fun la hl => k H locs la hW hS (xlh.set1 (l := a0 :: r) hw hl))
theorem X_astore_1 (C : XB κ D Y A cc own nL R0) {x : Nat} {a0 a1 : Option Value} {r : List (Option Value)} (hn : 1 < nL) (hw : xnw (a0 :: a1 :: r) 1 = true) (hd : decode cc pc = .ok (.astore_n 1, 1)) (k : X κ D A nL cells slots (pc + 1) (a0 :: some (.ref x) :: r) (st) (ad) (g)) : X κ D A nL cells slots (pc) (a0 :: a1 :: r) (.ref x :: st) (ad) (g) := by
  obtain ⟨p, lc, e, R, s, m, args, below, meth, c, Q⟩ := κ
  obtain ⟨hx, hb, hml, hown, hts, hE, hA, hlc, hlk, hR⟩ := C
  intro H locs la hW hS hl
  exact lv_astore_n hx hb hd rfl hl.has hn rfl (fun la hl => k H locs la hW hS (xlh.set1 (l := a0 :: a1 :: r) hw hl))
theorem X_astore_2 (C : XB κ D Y A cc own nL R0) {x : Nat} {a0 a1 a2 : Option Value} {r : List (Option Value)} (hn : 2 < nL) (hw : xnw (a0 :: a1 :: a2 :: r) 2 = true) (hd : decode cc pc = .ok (.astore_n 2, 1)) (k : X κ D A nL cells slots (pc + 1) (a0 :: a1 :: some (.ref x) :: r) (st) (ad) (g)) : X κ D A nL cells slots (pc) (a0 :: a1 :: a2 :: r) (.ref x :: st) (ad) (g) := by
  obtain ⟨p, lc, e, R, s, m, args, below, meth, c, Q⟩ := κ
  obtain ⟨hx, hb, hml, hown, hts, hE, hA, hlc, hlk, hR⟩ := C
  intro H locs la hW hS hl
  exact lv_astore_n hx hb hd rfl hl.has hn rfl (fun la hl => k H locs la hW hS (xlh.set1 (l := a0 :: a1 :: a2 :: r) hw hl))
theorem X_astore_3 (C : XB κ D Y A cc own nL R0) {x : Nat} {a0 a1 a2 a3 : Option Value} {r : List (Option Value)} (hn : 3 < nL) (hw : xnw (a0 :: a1 :: a2 :: a3 :: r) 3 = true) (hd : decode cc pc = .ok (.astore_n 3, 1)) (k : X κ D A nL cells slots (pc + 1) (a0 :: a1 :: a2 :: some (.ref x) :: r) (st) (ad) (g)) : X κ D A nL cells slots (pc) (a0 :: a1 :: a2 :: a3 :: r) (.ref x :: st) (ad) (g) := by
  obtain ⟨p, lc, e, R, s, m, args, below, meth, c, Q⟩ := κ
  obtain ⟨hx, hb, hml, hown, hts, hE, hA, hlc, hlk, hR⟩ := C
  intro H locs la hW hS hl
  exact lv_astore_n hx hb hd rfl hl.has hn rfl (fun la hl => k H locs la hW hS (xlh.set1 (l := a0 :: a1 :: a2 :: a3 :: r) hw hl))
theorem X_astore_4 (C : XB κ D Y A cc own nL R0) {x : Nat} {a0 a1 a2 a3 a4 : Option Value} {r : List (Option Value)} (hn : 4 < nL) (hw : xnw (a0 :: a1 :: a2 :: a3 :: a4 :: r) 4 = true) (hd : decode cc pc = .ok (.astore 4, 2)) (k : X κ D A nL cells slots (pc + 2) (a0 :: a1 :: a2 :: a3 :: some (.ref x) :: r) (st) (ad) (g)) : X κ D A nL cells slots (pc) (a0 :: a1 :: a2 :: a3 :: a4 :: r) (.ref x :: st) (ad) (g) := by
  obtain ⟨p, lc, e, R, s, m, args, below, meth, c, Q⟩ := κ
  obtain ⟨hx, hb, hml, hown, hts, hE, hA, hlc, hlk, hR⟩ := C
  intro H locs la hW hS hl
  exact lv_astore hx hb hd hl.has hn rfl (fun la hl => k H locs la hW hS (xlh.set1 (l := a0 :: a1 :: a2 :: a3 :: a4 :: r) hw hl))
theorem X_astore_5 (C : XB κ D Y A cc own nL R0) {x : Nat} {a0 a1 a2 a3 a4 a5 : Option Value} {r : List (Option Value)} (hn : 5 < nL) (hw : xnw (a0 :: a1 :: a2 :: a3 :: a4 :: a5 :: r) 5 = true) (hd : decode cc pc = .ok (.astore 5, 2)) (k : X κ D A nL cells slots (pc + 2) (a0 :: a1 :: a2 :: a3 :: a4 :: some (.ref x) :: r) (st) (ad) (g)) : X κ D A nL cells slots (pc) (a0 :: a1 :: a2 :: a3 :: a4 :: a5 :: r) (.ref x :: st) (ad) (g) := by
  obtain ⟨p, lc, e, R, s, m, args, below, meth, c, Q⟩ := κ
  obtain ⟨hx, hb, hml, hown, hts, hE, hA, hlc, hlk, hR⟩ := C
  intro H locs la hW hS hl
  exact lv_astore hx hb hd hl.has hn rfl (fun la hl => k H locs la hW hS (xlh.set1 (l := a0 :: a1 :: a2 :: a3 :: a4 :: a5 :: r) hw hl))
theorem X_astore_6 (C : XB κ D Y A cc own nL R0) {x : Nat} {a0 a1 a2 a3 a4 a5 a6 : Option Value} {r : List (Option Value)} (hn : 6 < nL) (hw : xnw (a0 :: a1 :: a2 :: a3 :: a4 :: a5 :: a6 :: r) 6 = true) (hd : decode cc pc = .ok (.astore 6, 2)) (k : X κ D A nL cells slots (pc + 2) (a0 :: a1 :: a2 :: a3 :: a4 :: a5 :: some (.ref x) :: r) (st) (ad) (g)) : X κ D A nL cells slots (pc) (a0 :: a1 :: a2 :: a3 :: a4 :: a5 :: a6 :: r) (.ref x :: st) (ad) (g) := by
  obtain ⟨p, lc, e, R, s, m, args, below, meth, c, Q⟩ := κ
  obtain ⟨hx, hb, hml, hown, hts, hE, hA, hlc, hlk, hR⟩ := C
  intro H locs la hW hS hl
  exact lv_astore hx hb hd hl.has hn rfl (fun la hl => k H locs la hW hS (xlh.set1 (l := a0 :: a1 :: a2 :: a3 :: a4 :: a5 :: a6 :: r) hw hl))
theorem X_astore_7 (C : XB κ D Y A cc own nL R0) {x : Nat} {a0 a1 a2 a3 a4 a5 a6 a7 : Option Value} {r : List (Option Value)} (hn : 7 < nL) (hw : xnw (a0 :: a1 :: a2 :: a3 :: a4 :: a5 :: a6 :: a7 :: r) 7 = true) (hd : decode cc pc = .ok (.astore 7, 2)) (k : X κ D A nL cells slots (pc + 2) (a0 :: a1 :: a2 :: a3 :: a4 :: a5 :: a6 :: some (.ref x) :: r) (st) (ad) (g)) : X κ D A nL cells slots (pc) (a0 :: a1 :: a2 :: a3 :: a4 :: a5 :: a6 :: a7 :: r) (.ref x :: st) (ad) (g) := by
  obtain ⟨p, lc, e, R, s, m, args, below, meth, c, Q⟩ := κ
  obtain ⟨hx, hb, hml, hown, hts, hE, hA, hlc, hlk, hR⟩ := C
  intro H locs la hW hS hl
  exact lv_astore hx hb hd hl.has hn rfl (fun la hl => k H locs la hW hS (xlh.set1 (l := a0 :: a1 :: a2 :: a3 :: a4 :: a5 :: a6 :: a7 :: r) hw hl))
theorem X_astore_8 (C : XB κ D Y A cc own nL R0) {x : Nat} {a0 a1 a2 a3 a4 a5 a6 a7 a8 : Option Value} {r : List (Option Value)} (hn : 8 < nL) (hw : xnw (a0 :: a1 :: a2 :: a3 :: a4 :: a5 :: a6 :: a7 :: a8 :: r) 8 = true) (hd : decode cc pc = .ok (.astore 8, 2)) (k : X κ D A nL cells slots (pc + 2) (a0 :: a1 :: a2 :: a3 :: a4 :: a5 :: a6 :: a7 :: some (.ref x) :: r) (st) (ad) (g)) : X κ D A nL cells slots (pc) (a0 :: a1 :: a2 :: a3 :: a4 :: a5 :: a6 :: a7 :: a8 :: r) (.ref x :: st) (ad) (g) := by
  obtain ⟨p, lc, e, R, s, m, args, below, meth, c, Q⟩ := κ
  obtain ⟨hx, hb, hml, hown, hts, hE, hA, hlc, hlk, hR⟩ := C
  intro H locs la hW hS hl
  exact lv_astore hx hb hd hl.has hn rfl (fun la hl => k H locs la hW hS (xlh.set1 (l := a0 :: a1 :: a2 :: a3 :: a4 :: a5 :: a6 :: a7 :: a8 :: r) hw hl))
theorem X_fstore_7 (C : XB κ D Y A cc own nL R0) {x : UInt32} {a0 a1 a2 a3 a4 a5 a6 a7 : Option Value} {r : List (Option Value)} (hn : 7 < nL) (hw : xnw (a0 :: a1 :: a2 :: a3 :: a4 :: a5 :: a6 :: a7 :: r) 7 = true) (hd : decode cc pc = .ok (.fstore 7, 2)) (k : X κ D A nL cells slots (pc + 2) (a0 :: a1 :: a2 :: a3 :: a4 :: a5 :: a6 :: some (.float x) :: r) (st) (ad) (g)) : X κ D A nL cells slots (pc) (a0 :: a1 :: a2 :: a3 :: a4 :: a5 :: a6 :: a7 :: r) (.float x :: st) (ad) (g) := by
  obtain ⟨p, lc, e, R, s, m, args, below, meth, c, Q⟩ := κ
  obtain ⟨hx, hb, hml, hown, hts, hE, hA, hlc, hlk, hR⟩ := C
  intro H locs la hW hS hl
  exact lv_fstore hx hb hd hl.has hn rfl (fun la hl => k H locs la hW hS (xlh.set1 (l := a0 :: a1 :: a2 :: a3 :: a4 :: a5 :: a6 :: a7 :: r) hw hl))
theorem X_astoreq_1 (C : XB κ D Y A cc own nL R0) {q : Option Nat} {a0 a1 : Option Value} {r : List (Option Value)} (hn : 1 < nL) (hw : xnw (a0 :: a1 :: r) 1 = true) (hd : decode cc pc = .ok (.astore_n 1, 1)) (k : X κ D A nL cells slots (pc + 1) (a0 :: some (va_rf q) :: r) (st) (ad) (g)) : X κ D A nL cells slots (pc) (a0 :: a1 :: r) (va_rf q :: st) (ad) (g) := by
  obtain ⟨p, lc, e, R, s, m, args, below, meth, c, Q⟩ := κ
  obtain ⟨hx, hb, hml, hown, hts, hE, hA, hlc, hlk, hR⟩ := C
  intro H locs la hW hS hl
  cases q with
  | none => exact lv_astore_nN hx hb hd rfl hl.has hn rfl (fun la hl => k H locs la hW hS (xlh.set1 (l := a0 :: a1 :: r) hw hl))
  | some x => exact lv_astore_n hx hb hd rfl hl.has hn rfl (fun la hl => k H locs la hW hS (xlh.set1 (l := a0 :: a1 :: r) hw hl))
theorem X_astoreq_2 (C : XB κ D Y A cc own nL R0) {q : Option Nat} {a0 a1 a2 : Option Value} {r : List (Option Value)} (hn : 2 < nL) (hw : xnw (a0 :: a1 :: a2 :: r) 2 = true) (hd : decode cc pc = .ok (.astore_n 2, 1)) (k : X κ D A nL cells slots (pc + 1) (a0 :: a1 :: some (va_rf q) :: r) (st) (ad) (g)) : X κ D A nL cells slots (pc) (a0 :: a1 :: a2 :: r) (va_rf q :: st) (ad) (g) := by
  obtain ⟨p, lc, e, R, s, m, args, below, meth, c, Q⟩ := κ
  obtain ⟨hx, hb, hml, hown, hts, hE, hA, hlc, hlk, hR⟩ := C
  intro H locs la hW hS hl
  cases q with
  | none => exact lv_astore_nN hx hb hd rfl hl.has hn rfl (fun la hl => k H locs la hW hS (xlh.set1 (l := a0 :: a1 :: a2 :: r) hw hl))
  | some x => exact lv_astore_n hx hb hd rfl hl.has hn rfl (fun la hl => k H locs la hW hS (xlh.set1 (l := a0 :: a1 :: a2 :: r) hw hl))
theorem X_astoreq_3 (C : XB κ D Y A cc own nL R0) {q : Option Nat} {a0 a1 a2 a3 : Option Value} {r : List (Option Value)} (hn : 3 < nL) (hw : xnw (a0 :: a1 :: a2 :: a3 :: r) 3 = true) (hd : decode cc pc = .ok (.astore_n 3, 1)) (k : X κ D A nL cells slots (pc + 1) (a0 :: a1 :: a2 :: some (va_rf q) :: r) (st) (ad) (g)) : X κ D A nL cells slots (pc) (a0 :: a1 :: a2 :: a3 :: r) (va_rf q :: st) (ad) (g) := by
  obtain ⟨p, lc, e, R, s, m, args, below, meth, c, Q⟩ := κ
  obtain ⟨hx, hb, hml, hown, hts, hE, hA, hlc, hlk, hR⟩ := C
  intro H locs la hW hS hl
  cases q with
  | none => exact lv_astore_nN hx hb hd rfl hl.has hn rfl (fun la hl => k H locs la hW hS (xlh.set1 (l := a0 :: a1 :: a2 :: a3 :: r) hw hl))
  | some x => exact lv_astore_n hx hb hd rfl hl.has hn rfl (fun la hl => k H locs la hW hS (xlh.set1 (l := a0 :: a1 :: a2 :: a3 :: r) hw hl))
theorem X_astoreq_4 (C : XB κ D Y A cc own nL R0) {q : Option Nat} {a0 a1 a2 a3 a4 : Option Value} {r : List (Option Value)} (hn : 4 < nL) (hw : xnw (a0 :: a1 :: a2 :: a3 :: a4 :: r) 4 = true) (hd : decode cc pc = .ok (.astore 4, 2)) (k : X κ D A nL cells slots (pc + 2) (a0 :: a1 :: a2 :: a3 :: some (va_rf q) :: r) (st) (ad) (g)) : X κ D A nL cells slots (pc) (a0 :: a1 :: a2 :: a3 :: a4 :: r) (va_rf q :: st) (ad) (g) := by
  obtain ⟨p, lc, e, R, s, m, args, below, meth, c, Q⟩ := κ
  obtain ⟨hx, hb, hml, hown, hts, hE, hA, hlc, hlk, hR⟩ := C
  intro H locs la hW hS hl
  cases q with
  | none => exact lv_astoreN hx hb hd hl.has hn rfl (fun la hl => k H locs la hW hS (xlh.set1 (l := a0 :: a1 :: a2 :: a3 :: a4 :: r) hw hl))
  | some x => exact lv_astore hx hb hd hl.has hn rfl (fun la hl => k H locs la hW hS (xlh.set1 (l := a0 :: a1 :: a2 :: a3 :: a4 :: r) hw hl))
theorem X_astoreq_5 (C : XB κ D Y A cc own nL R0) {q : Option Nat} {a0 a1 a2 a3 a4 a5 : Option Value} {r : List (Option Value)} (hn : 5 < nL) (hw : xnw (a0 :: a1 :: a2 :: a3 :: a4 :: a5 :: r) 5 = true) (hd : decode cc pc = .ok (.astore 5, 2)) (k : X κ D A nL cells slots (pc + 2) (a0 :: a1 :: a2 :: a3 :: a4 :: some (va_rf q) :: r) (st) (ad) (g)) : X κ D A nL cells slots (pc) (a0 :: a1 :: a2 :: a3 :: a4 :: a5 :: r) (va_rf q :: st) (ad) (g) := by
  obtain ⟨p, lc, e, R, s, m, args, below, meth, c, Q⟩ := κ
  obtain ⟨hx, hb, hml, hown, hts, hE, hA, hlc, hlk, hR⟩ := C
  intro H locs la hW hS hl
  cases q with
  | none => exact lv_astoreN hx hb hd hl.has hn rfl (fun la hl => k H locs la hW hS (xlh.set1 (l := a0 :: a1 :: a2 :: a3 :: a4 :: a5 :: r) hw hl))
  | some x => exact lv_astore hx hb hd hl.has hn rfl (fun la hl => k H locs la hW hS (xlh.set1 (l := a0 :: a1 :: a2 :: a3 :: a4 :: a5 :: r) hw hl))
theorem X_lstore_7 (C : XB κ D Y A cc own nL R0) {x : Int64} {a0 a1 a2 a3 a4 a5 a6 a7 a8 : Option Value} {r : List (Option Value)} (hn : 8 < nL) (hw : xnw (a0 :: a1 :: a2 :: a3 :: a4 :: a5 :: a6 :: a7 :: a8 :: r) 7 = true) (hd : decode cc pc = .ok (.lstore 7, 2)) (k : X κ D A nL cells slots (pc + 2) (a0 :: a1 :: a2 :: a3 :: a4 :: a5 :: a6 :: some (.long x) :: none :: r) (st) (ad) (g)) : X κ D A nL cells slots (pc) (a0 :: a1 :: a2 :: a3 :: a4 :: a5 :: a6 :: a7 :: a8 :: r) (.long x :: st) (ad) (g) := by
  obtain ⟨p, lc, e, R, s, m, args, below, meth, c, Q⟩ := κ
  obtain ⟨hx, hb, hml, hown, hts, hE, hA, hlc, hlk, hR⟩ := C
  intro H locs la hW hS hl
  exact lv_lstore hx hb hd hl.has hn rfl (fun la hl => k H locs la hW hS (xlh.set2 (l := a0 :: a1 :: a2 :: a3 :: a4 :: a5 :: a6 :: a7 :: a8 :: r) hw hl))
theorem X_dstore_7 (C : XB κ D Y A cc own nL R0) {x : UInt64} {a0 a1 a2 a3 a4 a5 a6 a7 a8 : Option Value} {r : List (Option Value)} (hn : 8 < nL) (hw : xnw (a0 :: a1 :: a2 :: a3 :: a4 :: a5 :: a6 :: a7 :: a8 :: r) 7 = true) (hd : decode cc pc = .ok (.dstore 7, 2)) (k : X κ D A nL cells slots (pc + 2) (a0 :: a1 :: a2 :: a3 :: a4 :: a5 :: a6 :: some (.double x) :: none :: r) (st) (ad) (g)) : X κ D A nL cells slots (pc) (a0 :: a1 :: a2 :: a3 :: a4 :: a5 :: a6 :: a7 :: a8 :: r) (.double x :: st) (ad) (g) := by
  obtain ⟨p, lc, e, R, s, m, args, below, meth, c, Q⟩ := κ
  obtain ⟨hx, hb, hml, hown, hts, hE, hA, hlc, hlk, hR⟩ := C
  intro H locs la hW hS hl
  exact lv_dstore hx hb hd hl.has hn rfl (fun la hl => k H locs la hW hS (xlh.set2 (l := a0 :: a1 :: a2 :: a3 :: a4 :: a5 :: a6 :: a7 :: a8 :: r) hw hl))
theorem X_iinc_0 (C : XB κ D Y A cc own nL R0) {n x : Int} {w9 : Nat} {r : List (Option Value)} (hn : 0 < nL) (hw : xnw (some (.int (iI x)) :: r) 0 = true) (hd : decode cc pc = .ok (.iinc 0 n, 3)) (k : X κ D A nL cells slots (pc + 3) (some (.int (iI (x + n))) :: r) (st) (ad) (g)) : X κ D A nL cells slots (pc) (some (.int (iI x)) :: r) (st) (ad) (g) := by
  obtain ⟨p, lc, e, R, s, m, args, below, meth, c, Q⟩ := κ
  obtain ⟨hx, hb, hml, hown, hts, hE, hA, hlc, hlk, hR⟩ := C
  intro H locs la hW hS hl
  have hh := hl.has
  have hm : (0, Value.int (iI x)) ∈ xas (some (.int (iI x)) :: r) := xas_of rfl
  obtain ⟨q, hq⟩ := List.mem_iff_getElem?.mp hm
  exact lv_iinc hx hb hd hh hq (Int32.ofInt_add x n).symm hn rfl (fun la hl => k H locs la hW hS (xlh.set1 (l := some (.int (iI x)) :: r) hw hl))
theorem X_iinc_1 (C : XB κ D Y A cc own nL R0) {n x : Int} {a0 : Option Value} {r : List (Option Value)} (hn : 1 < nL) (hw : xnw (a0 :: some (.int (iI x)) :: r) 1 = true) (hd : decode cc pc = .ok (.iinc 1 n, 3)) (k : X κ D A nL cells slots (pc + 3) (a0 :: some (.int (iI (x + n))) :: r) (st) (ad) (g)) : X κ D A nL cells slots (pc) (a0 :: some (.int (iI x)) :: r) (st) (ad) (g) := by
  obtain ⟨p, lc, e, R, s, m, args, below, meth, c, Q⟩ := κ
  obtain ⟨hx, hb, hml, hown, hts, hE, hA, hlc, hlk, hR⟩ := C
  intro H locs la hW hS hl
  have hh := hl.has
  have hm : (1, Value.int (iI x)) ∈ xas (a0 :: some (.int (iI x)) :: r) := xas_of rfl
  obtain ⟨q, hq⟩ := List.mem_iff_getElem?.mp hm
  exact lv_iinc hx hb hd hh hq (Int32.ofInt_add x n).symm hn rfl (fun la hl => k H locs la hW hS (xlh.set1 (l := a0 :: some (.int (iI x)) :: r) hw hl))
theorem X_iinc_2 (C : XB κ D Y A cc own nL R0) {n x : Int} {a0 a1 : Option Value} {r : List (Option Value)} (hn : 2 < nL) (hw : xnw (a0 :: a1 :: some (.int (iI x)) :: r) 2 = true) (hd : decode cc pc = .ok (.iinc 2 n, 3)) (k : X κ D A nL cells slots (pc + 3) (a0 :: a1 :: some (.int (iI (x + n))) :: r) (st) (ad) (g)) : X κ D A nL cells slots (pc) (a0 :: a1 :: some (.int (iI x)) :: r) (st) (ad) (g) := by
  obtain ⟨p, lc, e, R, s, m, args, below, meth, c, Q⟩ := κ
  obtain ⟨hx, hb, hml, hown, hts, hE, hA, hlc, hlk, hR⟩ := C
  intro H locs la hW hS hl
  have hh := hl.has
  have hm : (2, Value.int (iI x)) ∈ xas (a0 :: a1 :: some (.int (iI x)) :: r) := xas_of rfl
  obtain ⟨q, hq⟩ := List.mem_iff_getElem?.mp hm
  exact lv_iinc hx hb hd hh hq (Int32.ofInt_add x n).symm hn rfl (fun la hl => k H locs la hW hS (xlh.set1 (l := a0 :: a1 :: some (.int (iI x)) :: r) hw hl))
theorem X_iinc_3 (C : XB κ D Y A cc own nL R0) {n x : Int} {a0 a1 a2 : Option Value} {r : List (Option Value)} (hn : 3 < nL) (hw : xnw (a0 :: a1 :: a2 :: some (.int (iI x)) :: r) 3 = true) (hd : decode cc pc = .ok (.iinc 3 n, 3)) (k : X κ D A nL cells slots (pc + 3) (a0 :: a1 :: a2 :: some (.int (iI (x + n))) :: r) (st) (ad) (g)) : X κ D A nL cells slots (pc) (a0 :: a1 :: a2 :: some (.int (iI x)) :: r) (st) (ad) (g) := by
  obtain ⟨p, lc, e, R, s, m, args, below, meth, c, Q⟩ := κ
  obtain ⟨hx, hb, hml, hown, hts, hE, hA, hlc, hlk, hR⟩ := C
  intro H locs la hW hS hl
  have hh := hl.has
  have hm : (3, Value.int (iI x)) ∈ xas (a0 :: a1 :: a2 :: some (.int (iI x)) :: r) := xas_of rfl
  obtain ⟨q, hq⟩ := List.mem_iff_getElem?.mp hm
  exact lv_iinc hx hb hd hh hq (Int32.ofInt_add x n).symm hn rfl (fun la hl => k H locs la hW hS (xlh.set1 (l := a0 :: a1 :: a2 :: some (.int (iI x)) :: r) hw hl))
theorem X_iinc_4 (C : XB κ D Y A cc own nL R0) {n x : Int} {a0 a1 a2 a3 : Option Value} {r : List (Option Value)} (hn : 4 < nL) (hw : xnw (a0 :: a1 :: a2 :: a3 :: some (.int (iI x)) :: r) 4 = true) (hd : decode cc pc = .ok (.iinc 4 n, 3)) (k : X κ D A nL cells slots (pc + 3) (a0 :: a1 :: a2 :: a3 :: some (.int (iI (x + n))) :: r) (st) (ad) (g)) : X κ D A nL cells slots (pc) (a0 :: a1 :: a2 :: a3 :: some (.int (iI x)) :: r) (st) (ad) (g) := by
  obtain ⟨p, lc, e, R, s, m, args, below, meth, c, Q⟩ := κ
  obtain ⟨hx, hb, hml, hown, hts, hE, hA, hlc, hlk, hR⟩ := C
  intro H locs la hW hS hl
  have hh := hl.has
  have hm : (4, Value.int (iI x)) ∈ xas (a0 :: a1 :: a2 :: a3 :: some (.int (iI x)) :: r) := xas_of rfl
  obtain ⟨q, hq⟩ := List.mem_iff_getElem?.mp hm
  exact lv_iinc hx hb hd hh hq (Int32.ofInt_add x n).symm hn rfl (fun la hl => k H locs la hW hS (xlh.set1 (l := a0 :: a1 :: a2 :: a3 :: some (.int (iI x)) :: r) hw hl))
theorem X_iinc_5 (C : XB κ D Y A cc own nL R0) {n x : Int} {a0 a1 a2 a3 a4 : Option Value} {r : List (Option Value)} (hn : 5 < nL) (hw : xnw (a0 :: a1 :: a2 :: a3 :: a4 :: some (.int (iI x)) :: r) 5 = true) (hd : decode cc pc = .ok (.iinc 5 n, 3)) (k : X κ D A nL cells slots (pc + 3) (a0 :: a1 :: a2 :: a3 :: a4 :: some (.int (iI (x + n))) :: r) (st) (ad) (g)) : X κ D A nL cells slots (pc) (a0 :: a1 :: a2 :: a3 :: a4 :: some (.int (iI x)) :: r) (st) (ad) (g) := by
  obtain ⟨p, lc, e, R, s, m, args, below, meth, c, Q⟩ := κ
  obtain ⟨hx, hb, hml, hown, hts, hE, hA, hlc, hlk, hR⟩ := C
  intro H locs la hW hS hl
  have hh := hl.has
  have hm : (5, Value.int (iI x)) ∈ xas (a0 :: a1 :: a2 :: a3 :: a4 :: some (.int (iI x)) :: r) := xas_of rfl
  obtain ⟨q, hq⟩ := List.mem_iff_getElem?.mp hm
  exact lv_iinc hx hb hd hh hq (Int32.ofInt_add x n).symm hn rfl (fun la hl => k H locs la hW hS (xlh.set1 (l := a0 :: a1 :: a2 :: a3 :: a4 :: some (.int (iI x)) :: r) hw hl))
theorem X_iinc_6 (C : XB κ D Y A cc own nL R0) {n x : Int} {a0 a1 a2 a3 a4 a5 : Option Value} {r : List (Option Value)} (hn : 6 < nL) (hw : xnw (a0 :: a1 :: a2 :: a3 :: a4 :: a5 :: some (.int (iI x)) :: r) 6 = true) (hd : decode cc pc = .ok (.iinc 6 n, 3)) (k : X κ D A nL cells slots (pc + 3) (a0 :: a1 :: a2 :: a3 :: a4 :: a5 :: some (.int (iI (x + n))) :: r) (st) (ad) (g)) : X κ D A nL cells slots (pc) (a0 :: a1 :: a2 :: a3 :: a4 :: a5 :: some (.int (iI x)) :: r) (st) (ad) (g) := by
  obtain ⟨p, lc, e, R, s, m, args, below, meth, c, Q⟩ := κ
  obtain ⟨hx, hb, hml, hown, hts, hE, hA, hlc, hlk, hR⟩ := C
  intro H locs la hW hS hl
  have hh := hl.has
  have hm : (6, Value.int (iI x)) ∈ xas (a0 :: a1 :: a2 :: a3 :: a4 :: a5 :: some (.int (iI x)) :: r) := xas_of rfl
  obtain ⟨q, hq⟩ := List.mem_iff_getElem?.mp hm
  exact lv_iinc hx hb hd hh hq (Int32.ofInt_add x n).symm hn rfl (fun la hl => k H locs la hW hS (xlh.set1 (l := a0 :: a1 :: a2 :: a3 :: a4 :: a5 :: some (.int (iI x)) :: r) hw hl))
theorem X_iinc_7 (C : XB κ D Y A cc own nL R0) {n x : Int} {a0 a1 a2 a3 a4 a5 a6 : Option Value} {r : List (Option Value)} (hn : 7 < nL) (hw : xnw (a0 :: a1 :: a2 :: a3 :: a4 :: a5 :: a6 :: some (.int (iI x)) :: r) 7 = true) (hd : decode cc pc = .ok (.iinc 7 n, 3)) (k : X κ D A nL cells slots (pc + 3) (a0 :: a1 :: a2 :: a3 :: a4 :: a5 :: a6 :: some (.int (iI (x + n))) :: r) (st) (ad) (g)) : X κ D A nL cells slots (pc) (a0 :: a1 :: a2 :: a3 :: a4 :: a5 :: a6 :: some (.int (iI x)) :: r) (st) (ad) (g) := by
  obtain ⟨p, lc, e, R, s, m, args, below, meth, c, Q⟩ := κ
  obtain ⟨hx, hb, hml, hown, hts, hE, hA, hlc, hlk, hR⟩ := C
  intro H locs la hW hS hl
  have hh := hl.has
  have hm : (7, Value.int (iI x)) ∈ xas (a0 :: a1 :: a2 :: a3 :: a4 :: a5 :: a6 :: some (.int (iI x)) :: r) := xas_of rfl
  obtain ⟨q, hq⟩ := List.mem_iff_getElem?.mp hm
  exact lv_iinc hx hb hd hh hq (Int32.ofInt_add x n).symm hn rfl (fun la hl => k H locs la hW hS (xlh.set1 (l := a0 :: a1 :: a2 :: a3 :: a4 :: a5 :: a6 :: some (.int (iI x)) :: r) hw hl))
theorem X_iinc_8 (C : XB κ D Y A cc own nL R0) {n x : Int} {a0 a1 a2 a3 a4 a5 a6 a7 : Option Value} {r : List (Option Value)} (hn : 8 < nL) (hw : xnw (a0 :: a1 :: a2 :: a3 :: a4 :: a5 :: a6 :: a7 :: some (.int (iI x)) :: r) 8 = true) (hd : decode cc pc = .ok (.iinc 8 n, 3)) (k : X κ D A nL cells slots (pc + 3) (a0 :: a1 :: a2 :: a3 :: a4 :: a5 :: a6 :: a7 :: some (.int (iI (x + n))) :: r) (st) (ad) (g)) : X κ D A nL cells slots (pc) (a0 :: a1 :: a2 :: a3 :: a4 :: a5 :: a6 :: a7 :: some (.int (iI x)) :: r) (st) (ad) (g) := by
  obtain ⟨p, lc, e, R, s, m, args, below, meth, c, Q⟩ := κ
  obtain ⟨hx, hb, hml, hown, hts, hE, hA, hlc, hlk, hR⟩ := C
  intro H locs la hW hS hl
  have hh := hl.has
  have hm : (8, Value.int (iI x)) ∈ xas (a0 :: a1 :: a2 :: a3 :: a4 :: a5 :: a6 :: a7 :: some (.int (iI x)) :: r) := xas_of rfl
  obtain ⟨q, hq⟩ := List.mem_iff_getElem?.mp hm
  exact lv_iinc hx hb hd hh hq (Int32.ofInt_add x n).symm hn rfl (fun la hl => k H locs la hW hS (xlh.set1 (l := a0 :: a1 :: a2 :: a3 :: a4 :: a5 :: a6 :: a7 :: some (.int (iI x)) :: r) hw hl))
theorem X_iadd (C : XB κ D Y A cc own nL R0) {a b : Int} (hd : decode cc pc = .ok (.iadd, 1)) (k : X κ D A nL cells slots (pc + 1) (l) (.int (iI (a + b)) :: st) (ad) (g)) : X κ D A nL cells slots (pc) (l) (.int (iI b) :: .int (iI a) :: st) (ad) (g) := by
  obtain ⟨p, lc, e, R, s, m, args, below, meth, c, Q⟩ := κ
  obtain ⟨hx, hb, hml, hown, hts, hE, hA, hlc, hlk, hR⟩ := C
  intro H locs la hW hS hl
  exact lv_iadd hx hb hd ((Int32.ofInt_add a b) ▸ k H locs la hW hS hl)
theorem X_isub (C : XB κ D Y A cc own nL R0) {a b : Int} (hd : decode cc pc = .ok (.isub, 1)) (k : X κ D A nL cells slots (pc + 1) (l) (.int (iI (a - b)) :: st) (ad) (g)) : X κ D A nL cells slots (pc) (l) (.int (iI b) :: .int (iI a) :: st) (ad) (g) := by
  obtain ⟨p, lc, e, R, s, m, args, below, meth, c, Q⟩ := κ
  obtain ⟨hx, hb, hml, hown, hts, hE, hA, hlc, hlk, hR⟩ := C
  intro H locs la hW hS hl
  exact lv_isub hx hb hd ((Int32.ofInt_sub a b) ▸ k H locs la hW hS hl)
theorem X_imul (C : XB κ D Y A cc own nL R0) {a b : Int} (hd : decode cc pc = .ok (.imul, 1)) (k : X κ D A nL cells slots (pc + 1) (l) (.int (iI (a * b)) :: st) (ad) (g)) : X κ D A nL cells slots (pc) (l) (.int (iI b) :: .int (iI a) :: st) (ad) (g) := by
  obtain ⟨p, lc, e, R, s, m, args, below, meth, c, Q⟩ := κ
  obtain ⟨hx, hb, hml, hown, hts, hE, hA, hlc, hlk, hR⟩ := C
  intro H locs la hW hS hl
  exact lv_imul hx hb hd ((Int32.ofInt_mul a b) ▸ k H locs la hW hS hl)
theorem X_idiv (C : XB κ D Y A cc own nL R0) {a b : Int} (ha : rg a) (h0 : 0 ≤ a) (hbr : rg b) (hb0 : 0 < b) (hd : decode cc pc = .ok (.idiv, 1)) (k : X κ D A nL cells slots (pc + 1) (l) (.int (iI (a / b)) :: st) (ad) (g)) : X κ D A nL cells slots (pc) (l) (.int (iI b) :: .int (iI a) :: st) (ad) (g) := by
  obtain ⟨p, lc, e, R, s, m, args, below, meth, c, Q⟩ := κ
  obtain ⟨hx, hb, hml, hown, hts, hE, hA, hlc, hlk, hR⟩ := C
  intro H locs la hW hS hl
  exact lv_idiv hx hb hd (fun q => by rw [iI_0, iI_eq hbr rg0] at q; omega) ((iI_div ha h0 hbr hb0) ▸ k H locs la hW hS hl)
theorem X_irem (C : XB κ D Y A cc own nL R0) {a b : Int} (ha : rg a) (h0 : 0 ≤ a) (hbr : rg b) (hb0 : 0 < b) (hd : decode cc pc = .ok (.irem, 1)) (k : X κ D A nL cells slots (pc + 1) (l) (.int (iI (a % b)) :: st) (ad) (g)) : X κ D A nL cells slots (pc) (l) (.int (iI b) :: .int (iI a) :: st) (ad) (g) := by
  obtain ⟨p, lc, e, R, s, m, args, below, meth, c, Q⟩ := κ
  obtain ⟨hx, hb, hml, hown, hts, hE, hA, hlc, hlk, hR⟩ := C
  intro H locs la hW hS hl
  exact lv_irem hx hb hd (fun q => by rw [iI_0, iI_eq hbr rg0] at q; omega) ((iI_rem ha h0 hbr hb0) ▸ k H locs la hW hS hl)
theorem X_i2l (C : XB κ D Y A cc own nL R0) {a : Int} (ha : rg a) (hd : decode cc pc = .ok (.i2l, 1)) (k : X κ D A nL cells slots (pc + 1) (l) (.long (lI a) :: st) (ad) (g)) : X κ D A nL cells slots (pc) (l) (.int (iI a) :: st) (ad) (g) := by
  obtain ⟨p, lc, e, R, s, m, args, below, meth, c, Q⟩ := κ
  obtain ⟨hx, hb, hml, hown, hts, hE, hA, hlc, hlk, hR⟩ := C
  intro H locs la hW hS hl
  exact lv_i2l hx hb hd (iI_l ha) (k H locs la hW hS hl)
theorem X_ladd (C : XB κ D Y A cc own nL R0) {a b : Int} (hd : decode cc pc = .ok (.ladd, 1)) (k : X κ D A nL cells slots (pc + 1) (l) (.long (lI (a + b)) :: st) (ad) (g)) : X κ D A nL cells slots (pc) (l) (.long (lI b) :: .long (lI a) :: st) (ad) (g) := by
  obtain ⟨p, lc, e, R, s, m, args, below, meth, c, Q⟩ := κ
  obtain ⟨hx, hb, hml, hown, hts, hE, hA, hlc, hlk, hR⟩ := C
  intro H locs la hW hS hl
  exact lv_ladd hx hb hd ((Int64.ofInt_add a b) ▸ k H locs la hW hS hl)
theorem X_lmul (C : XB κ D Y A cc own nL R0) {a b : Int} (hd : decode cc pc = .ok (.lmul, 1)) (k : X κ D A nL cells slots (pc + 1) (l) (.long (lI (a * b)) :: st) (ad) (g)) : X κ D A nL cells slots (pc) (l) (.long (lI b) :: .long (lI a) :: st) (ad) (g) := by
  obtain ⟨p, lc, e, R, s, m, args, below, meth, c, Q⟩ := κ
  obtain ⟨hx, hb, hml, hown, hts, hE, hA, hlc, hlk, hR⟩ := C
  intro H locs la hW hS hl
  exact lv_lmul hx hb hd ((Int64.ofInt_mul a b) ▸ k H locs la hW hS hl)
theorem X_lcmp (C : XB κ D Y A cc own nL R0) {a b : Int} (ha : lg a) (hbr : lg b) (hd : decode cc pc = .ok (.lcmp, 1)) (k : X κ D A nL cells slots (pc + 1) (l) (.int (iI (if b < a then 1 else if a = b then 0 else -1)) :: st) (ad) (g)) : X κ D A nL cells slots (pc) (l) (.long (lI b) :: .long (lI a) :: st) (ad) (g) := by
  obtain ⟨p, lc, e, R, s, m, args, below, meth, c, Q⟩ := κ
  obtain ⟨hx, hb, hml, hown, hts, hE, hA, hlc, hlk, hR⟩ := C
  intro H locs la hW hS hl
  exact W.lcmp hx hb hd ((lI_cmp ha hbr) ▸ k H locs la hW hS hl)
theorem X_dup (C : XB κ D Y A cc own nL R0) {v : Value} (hv : v.category = 1) (hd : decode cc pc = .ok (.dup, 1)) (k : X κ D A nL cells slots (pc + 1) (l) (v :: v :: st) (ad) (g)) : X κ D A nL cells slots (pc) (l) (v :: st) (ad) (g) := by
  obtain ⟨p, lc, e, R, s, m, args, below, meth, c, Q⟩ := κ
  obtain ⟨hx, hb, hml, hown, hts, hE, hA, hlc, hlk, hR⟩ := C
  intro H locs la hW hS hl
  exact lv_dup hx hb hd hv (k H locs la hW hS hl)
theorem X_dup2 (C : XB κ D Y A cc own nL R0) {v w : Value} (hv : v.category = 1) (hw : w.category = 1) (hd : decode cc pc = .ok (.dup2, 1)) (k : X κ D A nL cells slots (pc + 1) (l) (v :: w :: v :: w :: st) (ad) (g)) : X κ D A nL cells slots (pc) (l) (v :: w :: st) (ad) (g) := by
  obtain ⟨p, lc, e, R, s, m, args, below, meth, c, Q⟩ := κ
  obtain ⟨hx, hb, hml, hown, hts, hE, hA, hlc, hlk, hR⟩ := C
  intro H locs la hW hS hl
  exact lv_dup2_11 hx hb hd hv hw (k H locs la hW hS hl)
theorem X_iand (C : XB κ D Y A cc own nL R0) {x y : Int32} (hd : decode cc pc = .ok (.iand, 1)) (k : X κ D A nL cells slots (pc + 1) (l) (.int (x &&& y) :: st) (ad) (g)) : X κ D A nL cells slots (pc) (l) (.int y :: .int x :: st) (ad) (g) := by
  obtain ⟨p, lc, e, R, s, m, args, below, meth, c, Q⟩ := κ
  obtain ⟨hx, hb, hml, hown, hts, hE, hA, hlc, hlk, hR⟩ := C
  intro H locs la hW hS hl
  exact lv_iand hx hb hd (k H locs la hW hS hl)
theorem X_i2f (C : XB κ D Y A cc own nL R0) {x : Int32} (hd : decode cc pc = .ok (.i2f, 1)) (k : X κ D A nL cells slots (pc + 1) (l) (.float (FP.i2f x) :: st) (ad) (g)) : X κ D A nL cells slots (pc) (l) (.int x :: st) (ad) (g) := by
  obtain ⟨p, lc, e, R, s, m, args, below, meth, c, Q⟩ := κ
  obtain ⟨hx, hb, hml, hown, hts, hE, hA, hlc, hlk, hR⟩ := C
  intro H locs la hW hS hl
  exact lv_i2f hx hb hd (k H locs la hW hS hl)
theorem X_i2d (C : XB κ D Y A cc own nL R0) {x : Int32} (hd : decode cc pc = .ok (.i2d, 1)) (k : X κ D A nL cells slots (pc + 1) (l) (.double (FP.i2d x) :: st) (ad) (g)) : X κ D A nL cells slots (pc) (l) (.int x :: st) (ad) (g) := by
  obtain ⟨p, lc, e, R, s, m, args, below, meth, c, Q⟩ := κ
  obtain ⟨hx, hb, hml, hown, hts, hE, hA, hlc, hlk, hR⟩ := C
  intro H locs la hW hS hl
  exact lv_i2d hx hb hd (k H locs la hW hS hl)
theorem X_fdiv (C : XB κ D Y A cc own nL R0) {x y : UInt32} (hne : vf_n32 (FP.fdiv x y)) (hd : decode cc pc = .ok (.fdiv, 1)) (k : X κ D A nL cells slots (pc + 1) (l) (.float (FP.fdiv x y) :: st) (ad) (g)) : X κ D A nL cells slots (pc) (l) (.float y :: .float x :: st) (ad) (g) := by
  obtain ⟨p, lc, e, R, s, m, args, below, meth, c, Q⟩ := κ
  obtain ⟨hx, hb, hml, hown, hts, hE, hA, hlc, hlk, hR⟩ := C
  intro H locs la hW hS hl
  exact lv_fdiv hx hb hd hne (k H locs la hW hS hl)
theorem X_ddiv (C : XB κ D Y A cc own nL R0) {x y : UInt64} (hne : vf_n64 (FP.ddiv x y)) (hd : decode cc pc = .ok (.ddiv, 1)) (k : X κ D A nL cells slots (pc + 1) (l) (.double (FP.ddiv x y) :: st) (ad) (g)) : X κ D A nL cells slots (pc) (l) (.double y :: .double x :: st) (ad) (g) := by
  obtain ⟨p, lc, e, R, s, m, args, below, meth, c, Q⟩ := κ
  obtain ⟨hx, hb, hml, hown, hts, hE, hA, hlc, hlk, hR⟩ := C
  intro H locs la hW hS hl
  exact lv_ddiv hx hb hd hne (k H locs la hW hS hl)
theorem X_f2d (C : XB κ D Y A cc own nL R0) {x : UInt32} (hne : vf_n64 (FP.f2d x)) (hd : decode cc pc = .ok (.f2d, 1)) (k : X κ D A nL cells slots (pc + 1) (l) (.double (FP.f2d x) :: st) (ad) (g)) : X κ D A nL cells slots (pc) (l) (.float x :: st) (ad) (g) := by
  obtain ⟨p, lc, e, R, s, m, args, below, meth, c, Q⟩ := κ
  obtain ⟨hx, hb, hml, hown, hts, hE, hA, hlc, hlk, hR⟩ := C
  intro H locs la hW hS hl
  exact lv_f2d hx hb hd hne (k H locs la hW hS hl)
theorem X_fconst0 (C : XB κ D Y A cc own nL R0)  (hd : decode cc pc = .ok (.fconst 0, 1)) (k : X κ D A nL cells slots (pc + 1) (l) (.float FP.fconst0 :: st) (ad) (g)) : X κ D A nL cells slots (pc) (l) (st) (ad) (g) := by
  obtain ⟨p, lc, e, R, s, m, args, below, meth, c, Q⟩ := κ
  obtain ⟨hx, hb, hml, hown, hts, hE, hA, hlc, hlk, hR⟩ := C
  intro H locs la hW hS hl
  exact lv_fconst0 hx hb hd (k H locs la hW hS hl)
theorem X_dconst0 (C : XB κ D Y A cc own nL R0)  (hd : decode cc pc = .ok (.dconst 0, 1)) (k : X κ D A nL cells slots (pc + 1) (l) (.double FP.dconst0 :: st) (ad) (g)) : X κ D A nL cells slots (pc) (l) (st) (ad) (g) := by
  obtain ⟨p, lc, e, R, s, m, args, below, meth, c, Q⟩ := κ
  obtain ⟨hx, hb, hml, hown, hts, hE, hA, hlc, hlk, hR⟩ := C
  intro H locs la hW hS hl
  exact lv_dconst0 hx hb hd (k H locs la hW hS hl)
theorem X_fcmp (C : XB κ D Y A cc own nL R0) {x y : UInt32} {op : CmpOp} (hd : decode cc pc = .ok (.fcmp op, 1)) (k : X κ D A nL cells slots (pc + 1) (l) (.int (Op.cmpValue (FP.fcmp x y) op) :: st) (ad) (g)) : X κ D A nL cells slots (pc) (l) (.float y :: .float x :: st) (ad) (g) := by
  obtain ⟨p, lc, e, R, s, m, args, below, meth, c, Q⟩ := κ
  obtain ⟨hx, hb, hml, hown, hts, hE, hA, hlc, hlk, hR⟩ := C
  intro H locs la hW hS hl
  exact lv_fcmp hx hb hd (k H locs la hW hS hl)
theorem X_dcmp (C : XB κ D Y A cc own nL R0) {x y : UInt64} {op : CmpOp} (hd : decode cc pc = .ok (.dcmp op, 1)) (k : X κ D A nL cells slots (pc + 1) (l) (.int (Op.cmpValue (FP.dcmp x y) op) :: st) (ad) (g)) : X κ D A nL cells slots (pc) (l) (.double y :: .double x :: st) (ad) (g) := by
  obtain ⟨p, lc, e, R, s, m, args, below, meth, c, Q⟩ := κ
  obtain ⟨hx, hb, hml, hown, hts, hE, hA, hlc, hlk, hR⟩ := C
  intro H locs la hW hS hl
  exact lv_dcmp hx hb hd (k H locs la hW hS hl)
theorem X_goto (C : XB κ D Y A cc own nL R0) {off : Int} {tgt : Nat} (hd : decode cc pc = .ok (.goto off, 3)) (ht : (pc : Int) + off = (tgt : Int)) (k : X κ D A nL cells slots (tgt) (l) (st) (ad) (g)) : X κ D A nL cells slots (pc) (l) (st) (ad) (g) := by
  obtain ⟨p, lc, e, R, s, m, args, below, meth, c, Q⟩ := κ
  obtain ⟨hx, hb, hml, hown, hts, hE, hA, hlc, hlk, hR⟩ := C
  intro H locs la hW hS hl
  exact lv_goto hx hb hd ht (k H locs la hW hS hl)
theorem X_icmp_eq (C : XB κ D Y A cc own nL R0) {a b : Int} {off : Int} {tgt : Nat} (hd : decode cc pc = .ok (.if_icmp .eq off, 3)) (ht : (pc : Int) + off = (tgt : Int)) (ha : rg a) (hbr : rg b) (kt : a = b → X κ D A nL cells slots (tgt) (l) (st) (ad) (g)) (kf : ¬ a = b → X κ D A nL cells slots (pc + 3) (l) (st) (ad) (g)) : X κ D A nL cells slots (pc) (l) (.int (iI b) :: .int (iI a) :: st) (ad) (g) := by
  obtain ⟨p, lc, e, R, s, m, args, below, meth, c, Q⟩ := κ
  obtain ⟨hx, hb, hml, hown, hts, hE, hA, hlc, hlk, hR⟩ := C
  intro H locs la hW hS hl
  exact lv_icmp_eq hx hb hd ht (fun q => kt ((iI_eq ha hbr).mp q) H locs la hW hS hl) (fun q => kf (fun z => q ((iI_eq ha hbr).mpr z)) H locs la hW hS hl)
theorem X_if_eq (C : XB κ D Y A cc own nL R0) {a : Int} {off : Int} {tgt : Nat} (hd : decode cc pc = .ok (.ifCond .eq off, 3)) (ht : (pc : Int) + off = (tgt : Int)) (ha : rg a) (kt : a = 0 → X κ D A nL cells slots (tgt) (l) (st) (ad) (g)) (kf : ¬ a = 0 → X κ D A nL cells slots (pc + 3) (l) (st) (ad) (g)) : X κ D A nL cells slots (pc) (l) (.int (iI a) :: st) (ad) (g) := by
  obtain ⟨p, lc, e, R, s, m, args, below, meth, c, Q⟩ := κ
  obtain ⟨hx, hb, hml, hown, hts, hE, hA, hlc, hlk, hR⟩ := C
  intro H locs la hW hS hl
  exact lv_if_eq hx hb hd ht (fun q => kt ((iI_eq ha rg0).mp q) H locs la hW hS hl) (fun q => kf (fun z => q ((iI_eq ha rg0).mpr z)) H locs la hW hS hl)
theorem X_icmp_ne (C : XB κ D Y A cc own nL R0) {a b : Int} {off : Int} {tgt : Nat} (hd : decode cc pc = .ok (.if_icmp .ne off, 3)) (ht : (pc : Int) + off = (tgt : Int)) (ha : rg a) (hbr : rg b) (kt : ¬ a = b → X κ D A nL cells slots (tgt) (l) (st) (ad) (g)) (kf : a = b → X κ D A nL cells slots (pc + 3) (l) (st) (ad) (g)) : X κ D A nL cells slots (pc) (l) (.int (iI b) :: .int (iI a) :: st) (ad) (g) := by
  obtain ⟨p, lc, e, R, s, m, args, below, meth, c, Q⟩ := κ
  obtain ⟨hx, hb, hml, hown, hts, hE, hA, hlc, hlk, hR⟩ := C
  intro H locs la hW hS hl
  exact lv_icmp_ne hx hb hd ht (fun q => kt (fun z => q ((iI_eq ha hbr).mpr z)) H locs la hW hS hl) (fun q => kf ((iI_eq ha hbr).mp q) H locs la hW hS hl)
theorem X_if_ne (C : XB κ D Y A cc own nL R0) {a : Int} {off : Int} {tgt : Nat} (hd : decode cc pc = .ok (.ifCond .ne off, 3)) (ht : (pc : Int) + off = (tgt : Int)) (ha : rg a) (kt : ¬ a = 0 → X κ D A nL cells slots (tgt) (l) (st) (ad) (g)) (kf : a = 0 → X κ D A nL cells slots (pc + 3) (l) (st) (ad) (g)) : X κ D A nL cells slots (pc) (l) (.int (iI a) :: st) (ad) (g) := by
  obtain ⟨p, lc, e, R, s, m, args, below, meth, c, Q⟩ := κ
  obtain ⟨hx, hb, hml, hown, hts, hE, hA, hlc, hlk, hR⟩ := C
  intro H locs la hW hS hl
  exact lv_if_ne hx hb hd ht (fun q => kt (fun z => q ((iI_eq ha rg0).mpr z)) H locs la hW hS hl) (fun q => kf ((iI_eq ha rg0).mp q) H locs la hW hS hl)
theorem X_icmp_lt (C : XB κ D Y A cc own nL R0) {a b : Int} {off : Int} {tgt : Nat} (hd : decode cc pc = .ok (.if_icmp .lt off, 3)) (ht : (pc : Int) + off = (tgt : Int)) (ha : rg a) (hbr : rg b) (kt : a < b → X κ D A nL cells slots (tgt) (l) (st) (ad) (g)) (kf : ¬ a < b → X κ D A nL cells slots (pc + 3) (l) (st) (ad) (g)) : X κ D A nL cells slots (pc) (l) (.int (iI b) :: .int (iI a) :: st) (ad) (g) := by
  obtain ⟨p, lc, e, R, s, m, args, below, meth, c, Q⟩ := κ
  obtain ⟨hx, hb, hml, hown, hts, hE, hA, hlc, hlk, hR⟩ := C
  intro H locs la hW hS hl
  exact lv_icmp_lt hx hb hd ht (fun q => kt ((iI_lt ha hbr).mp q) H locs la hW hS hl) (fun q => kf (fun z => q ((iI_lt ha hbr).mpr z)) H locs la hW hS hl)
theorem X_if_lt (C : XB κ D Y A cc own nL R0) {a : Int} {off : Int} {tgt : Nat} (hd : decode cc pc = .ok (.ifCond .lt off, 3)) (ht : (pc : Int) + off = (tgt : Int)) (ha : rg a) (kt : a < 0 → X κ D A nL cells slots (tgt) (l) (st) (ad) (g)) (kf : ¬ a < 0 → X κ D A nL cells slots (pc + 3) (l) (st) (ad) (g)) : X κ D A nL cells slots (pc) (l) (.int (iI a) :: st) (ad) (g) := by
  obtain ⟨p, lc, e, R, s, m, args, below, meth, c, Q⟩ := κ
  obtain ⟨hx, hb, hml, hown, hts, hE, hA, hlc, hlk, hR⟩ := C
  intro H locs la hW hS hl
  exact lv_if_lt hx hb hd ht (fun q => kt ((iI_lt ha rg0).mp q) H locs la hW hS hl) (fun q => kf (fun z => q ((iI_lt ha rg0).mpr z)) H locs la hW hS hl)
theorem X_icmp_le (C : XB κ D Y A cc own nL R0) {a b : Int} {off : Int} {tgt : Nat} (hd : decode cc pc = .ok (.if_icmp .le off, 3)) (ht : (pc : Int) + off = (tgt : Int)) (ha : rg a) (hbr : rg b) (kt : a ≤ b → X κ D A nL cells slots (tgt) (l) (st) (ad) (g)) (kf : ¬ a ≤ b → X κ D A nL cells slots (pc + 3) (l) (st) (ad) (g)) : X κ D A nL cells slots (pc) (l) (.int (iI b) :: .int (iI a) :: st) (ad) (g) := by
  obtain ⟨p, lc, e, R, s, m, args, below, meth, c, Q⟩ := κ
  obtain ⟨hx, hb, hml, hown, hts, hE, hA, hlc, hlk, hR⟩ := C
  intro H locs la hW hS hl
  exact lv_icmp_le hx hb hd ht (fun q => kt ((iI_le ha hbr).mp q) H locs la hW hS hl) (fun q => kf (fun z => q ((iI_le ha hbr).mpr z)) H locs la hW hS hl)
theorem X_if_le (C : XB κ D Y A cc own nL R0) {a : Int} {off : Int} {tgt : Nat} (hd : decode cc pc = .ok (.ifCond .le off, 3)) (ht : (pc : Int) + off = (tgt : Int)) (ha : rg a) (kt : a ≤ 0 → X κ D A nL cells slots (tgt) (l) (st) (ad) (g)) (kf : ¬ a ≤ 0 → X κ D A nL cells slots (pc + 3) (l) (st) (ad) (g)) : X κ D A nL cells slots (pc) (l) (.int (iI a) :: st) (ad) (g) := by
  obtain ⟨p, lc, e, R, s, m, args, below, meth, c, Q⟩ := κ
  obtain ⟨hx, hb, hml, hown, hts, hE, hA, hlc, hlk, hR⟩ := C
  intro H locs la hW hS hl
  exact lv_if_le hx hb hd ht (fun q => kt ((iI_le ha rg0).mp q) H locs la hW hS hl) (fun q => kf (fun z => q ((iI_le ha rg0).mpr z)) H locs la hW hS hl)
theorem X_icmp_gt (C : XB κ D Y A cc own nL R0) {a b : Int} {off : Int} {tgt : Nat} (hd : decode cc pc = .ok (.if_icmp .gt off, 3)) (ht : (pc : Int) + off = (tgt : Int)) (ha : rg a) (hbr : rg b) (kt : b < a → X κ D A nL cells slots (tgt) (l) (st) (ad) (g)) (kf : ¬ b < a → X κ D A nL cells slots (pc + 3) (l) (st) (ad) (g)) : X κ D A nL cells slots (pc) (l) (.int (iI b) :: .int (iI a) :: st) (ad) (g) := by
  obtain ⟨p, lc, e, R, s, m, args, below, meth, c, Q⟩ := κ
  obtain ⟨hx, hb, hml, hown, hts, hE, hA, hlc, hlk, hR⟩ := C
  intro H locs la hW hS hl
  exact lv_icmp_gt hx hb hd ht (fun q => kt ((iI_lt hbr ha).mp q) H locs la hW hS hl) (fun q => kf (fun z => q ((iI_lt hbr ha).mpr z)) H locs la hW hS hl)
theorem X_if_gt (C : XB κ D Y A cc own nL R0) {a : Int} {off : Int} {tgt : Nat} (hd : decode cc pc = .ok (.ifCond .gt off, 3)) (ht : (pc : Int) + off = (tgt : Int)) (ha : rg a) (kt : 0 < a → X κ D A nL cells slots (tgt) (l) (st) (ad) (g)) (kf : ¬ 0 < a → X κ D A nL cells slots (pc + 3) (l) (st) (ad) (g)) : X κ D A nL cells slots (pc) (l) (.int (iI a) :: st) (ad) (g) := by
  obtain ⟨p, lc, e, R, s, m, args, below, meth, c, Q⟩ := κ
  obtain ⟨hx, hb, hml, hown, hts, hE, hA, hlc, hlk, hR⟩ := C
  intro H locs la hW hS hl
  exact lv_if_gt hx hb hd ht (fun q => kt ((iI_lt rg0 ha).mp q) H locs la hW hS hl) (fun q => kf (fun z => q ((iI_lt rg0 ha).mpr z)) H locs la hW hS hl)
theorem X_icmp_ge (C : XB κ D Y A cc own nL R0) {a b : Int} {off : Int} {tgt : Nat} (hd : decode cc pc = .ok (.if_icmp .ge off, 3)) (ht : (pc : Int) + off = (tgt : Int)) (ha : rg a) (hbr : rg b) (kt : b ≤ a → X κ D A nL cells slots (tgt) (l) (st) (ad) (g)) (kf : ¬ b ≤ a → X κ D A nL cells slots (pc + 3) (l) (st) (ad) (g)) : X κ D A nL cells slots (pc) (l) (.int (iI b) :: .int (iI a) :: st) (ad) (g) := by
  obtain ⟨p, lc, e, R, s, m, args, below, meth, c, Q⟩ := κ
  obtain ⟨hx, hb, hml, hown, hts, hE, hA, hlc, hlk, hR⟩ := C
  intro H locs la hW hS hl
  exact lv_icmp_ge hx hb hd ht (fun q => kt ((iI_le hbr ha).mp q) H locs la hW hS hl) (fun q => kf (fun z => q ((iI_le hbr ha).mpr z)) H locs la hW hS hl)
theorem X_if_ge (C : XB κ D Y A cc own nL R0) {a : Int} {off : Int} {tgt : Nat} (hd : decode cc pc = .ok (.ifCond .ge off, 3)) (ht : (pc : Int) + off = (tgt : Int)) (ha : rg a) (kt : 0 ≤ a → X κ D A nL cells slots (tgt) (l) (st) (ad) (g)) (kf : ¬ 0 ≤ a → X κ D A nL cells slots (pc + 3) (l) (st) (ad) (g)) : X κ D A nL cells slots (pc) (l) (.int (iI a) :: st) (ad) (g) := by
  obtain ⟨p, lc, e, R, s, m, args, below, meth, c, Q⟩ := κ
  obtain ⟨hx, hb, hml, hown, hts, hE, hA, hlc, hlk, hR⟩ := C
  intro H locs la hW hS hl
  exact lv_if_ge hx hb hd ht (fun q => kt ((iI_le rg0 ha).mp q) H locs la hW hS hl) (fun q => kf (fun z => q ((iI_le rg0 ha).mpr z)) H locs la hW hS hl)
theorem X_if_eqB (C : XB κ D Y A cc own nL R0) {b : Prop} {off : Int} {tgt : Nat} (hd : decode cc pc = .ok (.ifCond .eq off, 3)) (ht : (pc : Int) + off = (tgt : Int)) (kt : ¬ b → X κ D A nL cells slots (tgt) (l) (st) (ad) (g)) (kf : b → X κ D A nL cells slots (pc + 3) (l) (st) (ad) (g)) : X κ D A nL cells slots (pc) (l) (.int (iI (bI b)) :: st) (ad) (g) := X_if_eq C hd ht (bI_rg b) (fun q => kt (bI_eq0.mp q)) (fun q => kf (Classical.byContradiction fun z => q (bI_f z)))
theorem X_if_neB (C : XB κ D Y A cc own nL R0) {b : Prop} {off : Int} {tgt : Nat} (hd : decode cc pc = .ok (.ifCond .ne off, 3)) (ht : (pc : Int) + off = (tgt : Int)) (kt : b → X κ D A nL cells slots (tgt) (l) (st) (ad) (g)) (kf : ¬ b → X κ D A nL cells slots (pc + 3) (l) (st) (ad) (g)) : X κ D A nL cells slots (pc) (l) (.int (iI (bI b)) :: st) (ad) (g) := X_if_ne C hd ht (bI_rg b) (fun q => kt (Classical.byContradiction fun z => q (bI_f z))) (fun q => kf (bI_eq0.mp q))
theorem X_ifnonnull (C : XB κ D Y A cc own nL R0) {q : Option Nat} {off : Int} {tgt : Nat} (hd : decode cc pc = .ok (.ifnonnull off, 3)) (ht : (pc : Int) + off = (tgt : Int)) (kt : q ≠ none → X κ D A nL cells slots (tgt) (l) (st) (ad) (g)) (kf : q = none → X κ D A nL cells slots (pc + 3) (l) (st) (ad) (g)) : X κ D A nL cells slots (pc) (l) (va_rf q :: st) (ad) (g) := by
  obtain ⟨p, lc, e, R, s, m, args, below, meth, c, Q⟩ := κ
  obtain ⟨hx, hb, hml, hown, hts, hE, hA, hlc, hlk, hR⟩ := C
  intro H locs la hW hS hl
  cases q with
  | none => exact lv_ifnonnullN hx hb hd (kf rfl H locs la hW hS hl)
  | some x => exact lv_ifnonnull hx hb hd ht (kt (fun z => by cases z) H locs la hW hS hl)
theorem X_ifnull (C : XB κ D Y A cc own nL R0) {q : Option Nat} {off : Int} {tgt : Nat} (hd : decode cc pc = .ok (.ifnull off, 3)) (ht : (pc : Int) + off = (tgt : Int)) (kt : q = none → X κ D A nL cells slots (tgt) (l) (st) (ad) (g)) (kf : q ≠ none → X κ D A nL cells slots (pc + 3) (l) (st) (ad) (g)) : X κ D A nL cells slots (pc) (l) (va_rf q :: st) (ad) (g) := by
  obtain ⟨p, lc, e, R, s, m, args, below, meth, c, Q⟩ := κ
  obtain ⟨hx, hb, hml, hown, hts, hE, hA, hlc, hlk, hR⟩ := C
  intro H locs la hW hS hl
  cases q with
  | none => exact lv_ifnullN hx hb hd ht (kt rfl H locs la hW hS hl)
  | some x => exact lv_ifnull hx hb hd (kf (fun z => by cases z) H locs la hW hS hl)
theorem X_acmp_ne (C : XB κ D Y A cc own nL R0) {k : Nat} {n n2 : Int} {e1 e2 : va_E} (h1 : g k n = some e1) (h2 : g k n2 = some e2) {off : Int} {tgt : Nat} (hd : decode cc pc = .ok (.if_acmp .ne off, 3)) (ht : (pc : Int) + off = (tgt : Int)) (kt : ¬ n = n2 → X κ D A nL cells slots (tgt) (l) (st) (ad) (g)) (kf : n = n2 → X κ D A nL cells slots (pc + 3) (l) (st) (ad) (g)) : X κ D A nL cells slots (pc) (l) (.ref (ad k n2) :: .ref (ad k n) :: st) (ad) (g) := by
  obtain ⟨p, lc, e, R, s, m, args, below, meth, c, Q⟩ := κ
  obtain ⟨hx, hb, hml, hown, hts, hE, hA, hlc, hlk, hR⟩ := C
  intro H locs la hW hS hl
  exact lv_acmp_ne (rx := some (ad k n)) (ry := some (ad k n2)) hx hb hd ht (fun q => kt (fun z => q (by rw [z])) H locs la hW hS hl) (fun q => kf (hW.2 _ _ _ _ _ _ h1 h2 (Option.some.inj q)).2 H locs la hW hS hl)
end XR
