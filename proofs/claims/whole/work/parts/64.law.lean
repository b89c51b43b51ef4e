/-! the law's body: rules -/
def xSc (κ : xK) (A : Nat → Prop) (b L : Nat) (xs : Nat → Int32) : Prop :=
  match κ with
  | (_, _, _, _, s, _, _, _, _, _, _) => va_X b L xs s s.heap ∧ b < s.heap.size ∧ ¬ A b
theorem iI_nat (L : Nat) (h : L ≤ 2147483647) : Int32.ofNat L = iI (L : Int) := by
  unfold iI
  first
    | rfl
    | exact (Int32.ofInt_natCast L).symm
    | exact Int32.toInt_inj.mp (by rw [Int32.toInt_ofNat_of_lt (by omega), Int32.toInt_ofInt_of_le (by omega) (by omega)])
    | simp
theorem and63 (x : Int32) : ∃ w : Int, 0 ≤ w ∧ w ≤ 63 ∧ (x &&& iI 63) = iI w := by
  have h1 : (x &&& iI 63).toBitVec.toNat ≤ 63 := by
    rw [Int32.toBitVec_and, BitVec.toNat_and]
    exact Nat.and_le_right
  have h2 : (x &&& iI 63).toInt = ((x &&& iI 63).toBitVec.toNat : Int) := by
    show (x &&& iI 63).toBitVec.toInt = _
    rw [BitVec.toInt_eq_toNat_of_lt (by omega)]
  exact ⟨(x &&& iI 63).toInt, by omega, by omega, iI_of _⟩
section XL
variable {κ : xK} {D : va_G} {Y : Nat → ClassId} {A : Nat → Prop} {cc : ByteArray} {own : String} {nL : Nat} {R0 : Room} {cells slots pc : Nat} {l : List (Option Value)} {st rest : List Value} {ad : xL} {g : xG}
theorem X_sld (C : XB κ D Y A cc own nL R0) {b L : Nat} {xs : Nat → Int32} (S : xSc κ A b L xs) {z v : Int} (h0 : 0 ≤ z) (h1 : z < L) (hL : L ≤ 2147483647) (hv : (xs z.toNat).toInt = v) (hd : decode cc pc = .ok (.iaload, 1)) (k : X κ D A nL cells slots (pc + 1) l (.int (iI v) :: st) ad g) : X κ D A nL cells slots pc l (.int (iI z) :: .ref b :: st) ad g := by
  obtain ⟨p, lc, e, R, s, m, args, below, meth, c, Q⟩ := κ
  obtain ⟨hx, hb, hml, hown, hts, hE, hA, hlc, hlk, hR⟩ := C
  obtain ⟨s1, s2, s3⟩ := S
  subst hv
  intro H locs la hW hS hl
  have hr : rg z := by constructor <;> omega
  refine va_sld hx hb s1 s2 s3 hS (iI_in h0 h1 hL) hd ?_
  rw [iI_clamp hr]
  rw [← iI_of (xs z.toNat)] at k
  exact k H locs la hW hS hl
theorem X_slen (C : XB κ D Y A cc own nL R0) {b L : Nat} {xs : Nat → Int32} (S : xSc κ A b L xs) (hL : L ≤ 2147483647) (hd : decode cc pc = .ok (.arraylength, 1)) (k : X κ D A nL cells slots (pc + 1) l (.int (iI (L : Int)) :: st) ad g) : X κ D A nL cells slots pc l (.ref b :: st) ad g := by
  obtain ⟨p, lc, e, R, s, m, args, below, meth, c, Q⟩ := κ
  obtain ⟨hx, hb, hml, hown, hts, hE, hA, hlc, hlk, hR⟩ := C
  obtain ⟨s1, s2, s3⟩ := S
  intro H locs la hW hS hl
  refine va_slen hx hb s1 s2 s3 hS hd ?_
  rw [iI_nat L hL]
  exact k H locs la hW hS hl
theorem X_fg9 {a0 a1 a2 a3 a4 a5 a6 a7 a8 : Option Value} (k : X κ D A nL cells slots pc [a0, a1, a2, a3, a4, a5, none, none, none] st ad g) : X κ D A nL cells slots pc [a0, a1, a2, a3, a4, a5, a6, a7, a8] st ad g := by
  obtain ⟨p, lc, e, R, s, m, args, below, meth, c, Q⟩ := κ
  intro H locs la hW hS hl
  refine k H locs la hW hS ⟨hl.1, hl.2.1, fun i v hv => hl.2.2 i v ?_⟩
  rcases i with _ | _ | _ | _ | _ | _ | _ | _ | _ | i
  all_goals first | exact hv | (simp at hv)
theorem X_lend {p : Program} {lc : Launch} {e : Env} {s : State} {m : MethodId} {b : Nat} {below : List Frame} {meth : Method} {c : Code} (C : XB (p, lc, e, room_1, s, m, #[Value.ref b], below, meth, c, lw_Z below #[Value.ref b] s) D Y A cL_law RL 9 room_1) (hAs : ∀ q, A q → s.heap.size ≤ q) (hr : meth.sig.returnType = ret) (hc : cells ≤ 603072) (hs : slots ≤ 7198826) (hd : decode cL_law pc = .ok (.ireturn, 1)) : X (p, lc, e, room_1, s, m, #[Value.ref b], below, meth, c, lw_Z below #[Value.ref b] s) D A 9 cells slots pc l [.int (iI 1)] ad g := by
  obtain ⟨hx, hb, hml, hown, hts, hE, hA, hlc, hlk, hR⟩ := C
  intro H locs la hW hS hl
  have e1 : iI 1 = (1 : Int32) := rfl
  rw [e1]
  refine va_forget (fun q hq => hAs _ (hS.2.2 q hq)) (W.widen hc hs ?_)
  exact lw_ret (d0 := s.drawn) (Drawn.sameBut.refl s.drawn lw_cs) hx hb hr hlk hd
end XL
theorem fsd_c {a b : Int} (h0 : 0 ≤ a) (h1 : a ≤ 18) (h2 : 1 ≤ b) (h3 : b ≤ 18) : Op.cmpValue (FP.dcmp (FP.f2d (FP.fdiv (FP.i2f (iI a)) (FP.i2f (iI b)))) (FP.f2d (FP.fdiv (FP.i2f (iI a)) (FP.i2f (iI b))))) .l = iI 0 := by
  have k : ∀ x : Fin 19, ∀ y : Fin 18, Op.cmpValue (FP.dcmp (FP.f2d (FP.fdiv (FP.i2f (iI ((x : Nat) : Int))) (FP.i2f (iI (((y : Nat) : Int) + 1))))) (FP.f2d (FP.fdiv (FP.i2f (iI ((x : Nat) : Int))) (FP.i2f (iI (((y : Nat) : Int) + 1)))))) .l = iI 0 := by decide +kernel
  have := k ⟨a.toNat, by omega⟩ ⟨(b - 1).toNat, by omega⟩
  simp only [] at this
  rw [show ((a.toNat : Nat) : Int) = a by omega, show (((b - 1).toNat : Nat) : Int) + 1 = b by omega] at this
  exact this
theorem dml_c {a b : Int} (h0 : 0 ≤ a) (h1 : a ≤ 240) (h2 : 1 ≤ b) (h3 : b ≤ 3) : Op.cmpValue (FP.dcmp (FP.ddiv (FP.i2d (iI a)) (FP.i2d (iI b))) (FP.ddiv (FP.i2d (iI a)) (FP.i2d (iI b)))) .l = iI 0 := by
  have k : ∀ x : Fin 241, ∀ y : Fin 3, Op.cmpValue (FP.dcmp (FP.ddiv (FP.i2d (iI ((x : Nat) : Int))) (FP.i2d (iI (((y : Nat) : Int) + 1)))) (FP.ddiv (FP.i2d (iI ((x : Nat) : Int))) (FP.i2d (iI (((y : Nat) : Int) + 1))))) .l = iI 0 := by decide +kernel
  have := k ⟨a.toNat, by omega⟩ ⟨(b - 1).toNat, by omega⟩
  simp only [] at this
  rw [show ((a.toNat : Nat) : Int) = a by omega, show (((b - 1).toNat : Nat) : Int) + 1 = b by omega] at this
  exact this
/-- a number that was not at zero is at one: a truth value out of an int -/
abbrev nz (v : Int) : Int := if v = 0 then 0 else 1
theorem nz_01 (v : Int) : nz v = 0 ∨ nz v = 1 := by unfold nz; split <;> omega
theorem nz_rg (v : Int) : rg (nz v) := by have := nz_01 v; constructor <;> omega
theorem cw_addDocument : xCSW RL 143 yL_addDocument cL_addDocument 3 (some .int) [(0, 8, 11, 13)] 2 := ⟨(gwI 168 (by decide +kernel) rfl), (gwI 169 (by decide +kernel) rfl), (gwI 0 (by decide +kernel) rfl), (gwI 170 (by decide +kernel) rfl), ⟨by decide +kernel, by decide +kernel, by decide +kernel⟩⟩
theorem cw_insert : xCSW RL 152 yL_insert cL_insert 6 (some .int) [(0, 12, 15, 19), (0, 12, 19, 21), (0, 12, 23, 23), (0, 12, 27, 13), (0, 12, 31, 25)] 5 := ⟨(gwI 296 (by decide +kernel) rfl), (gwI 297 (by decide +kernel) rfl), (gwI 0 (by decide +kernel) rfl), (gwI 298 (by decide +kernel) rfl), ⟨by decide +kernel, by decide +kernel, by decide +kernel⟩⟩
theorem cw_delete : xCSW RL 156 yL_delete cL_delete 5 (some .int) [(0, 10, 13, 19), (0, 10, 17, 21), (0, 10, 21, 25)] 4 := ⟨(gwI 448 (by decide +kernel) rfl), (gwI 449 (by decide +kernel) rfl), (gwI 0 (by decide +kernel) rfl), (gwI 450 (by decide +kernel) rfl), ⟨by decide +kernel, by decide +kernel, by decide +kernel⟩⟩
theorem cw_bar : xCSW RL 160 yL_bar cL_bar 6 (some .int) [(0, 12, 15, 19), (0, 12, 19, 21)] 5 := ⟨(gwI 468 (by decide +kernel) rfl), (gwI 469 (by decide +kernel) rfl), (gwI 0 (by decide +kernel) rfl), (gwI 470 (by decide +kernel) rfl), ⟨by decide +kernel, by decide +kernel, by decide +kernel⟩⟩
theorem cw_close : xCSW RL 164 yL_close cL_close 5 (some .int) [(0, 10, 13, 19), (0, 10, 17, 23)] 4 := ⟨(gwI 475 (by decide +kernel) rfl), (gwI 476 (by decide +kernel) rfl), (gwI 0 (by decide +kernel) rfl), (gwI 477 (by decide +kernel) rfl), ⟨by decide +kernel, by decide +kernel, by decide +kernel⟩⟩
theorem cw_length : xCSW RL 167 yL_length cL_length 4 (some .int) [(0, 9, 12, 19)] 3 := ⟨(gwI 483 (by decide +kernel) rfl), (gwI 484 (by decide +kernel) rfl), (gwI 0 (by decide +kernel) rfl), (gwI 485 (by decide +kernel) rfl), ⟨by decide +kernel, by decide +kernel, by decide +kernel⟩⟩
theorem cw_codeAt : xCSW RL 171 yL_codeAt cL_codeAt 5 (some .int) [(0, 10, 13, 19), (0, 10, 17, 21)] 4 := ⟨(gwI 490 (by decide +kernel) rfl), (gwI 491 (by decide +kernel) rfl), (gwI 0 (by decide +kernel) rfl), (gwI 492 (by decide +kernel) rfl), ⟨by decide +kernel, by decide +kernel, by decide +kernel⟩⟩
theorem cw_version : xCSW RL 174 yL_version cL_version 4 (some .int) [(0, 9, 12, 19)] 3 := ⟨(gwI 497 (by decide +kernel) rfl), (gwI 498 (by decide +kernel) rfl), (gwI 0 (by decide +kernel) rfl), (gwI 499 (by decide +kernel) rfl), ⟨by decide +kernel, by decide +kernel, by decide +kernel⟩⟩
theorem cw_comment : xCSW RL 177 yL_comment cL_comment 6 (some .int) [(0, 12, 15, 19), (0, 12, 19, 21), (0, 12, 23, 13)] 5 := ⟨(gwI 504 (by decide +kernel) rfl), (gwI 505 (by decide +kernel) rfl), (gwI 0 (by decide +kernel) rfl), (gwI 506 (by decide +kernel) rfl), ⟨by decide +kernel, by decide +kernel, by decide +kernel⟩⟩
theorem cw_answer : xCSW RL 180 yL_answer cL_answer 4 (some .int) [(0, 9, 12, 19), (0, 9, 15, 13)] 3 := ⟨(gwI 535 (by decide +kernel) rfl), (gwI 536 (by decide +kernel) rfl), (gwI 0 (by decide +kernel) rfl), (gwI 537 (by decide +kernel) rfl), ⟨by decide +kernel, by decide +kernel, by decide +kernel⟩⟩
theorem cw_isOpen : xCSW RL 183 yL_isOpen cL_isOpen 4 (some .int) [(0, 16, 19, 19)] 3 := ⟨(gwI 556 (by decide +kernel) rfl), (gwI 557 (by decide +kernel) rfl), (gwI 0 (by decide +kernel) rfl), (gwI 558 (by decide +kernel) rfl), ⟨by decide +kernel, by decide +kernel, by decide +kernel⟩⟩
theorem cw_spanFrom : xCSW RL 186 yL_spanFrom cL_spanFrom 4 (some .int) [(0, 9, 12, 19), (0, 9, 15, 13)] 3 := ⟨(gwI 563 (by decide +kernel) rfl), (gwI 564 (by decide +kernel) rfl), (gwI 0 (by decide +kernel) rfl), (gwI 565 (by decide +kernel) rfl), ⟨by decide +kernel, by decide +kernel, by decide +kernel⟩⟩
theorem cw_spanTo : xCSW RL 189 yL_spanTo cL_spanTo 4 (some .int) [(0, 9, 12, 19), (0, 9, 15, 13)] 3 := ⟨(gwI 570 (by decide +kernel) rfl), (gwI 571 (by decide +kernel) rfl), (gwI 0 (by decide +kernel) rfl), (gwI 572 (by decide +kernel) rfl), ⟨by decide +kernel, by decide +kernel, by decide +kernel⟩⟩
theorem cw_sign : xCSW RL 192 yL_sign cL_sign 4 (some .int) [(0, 9, 12, 19), (0, 9, 15, 13)] 3 := ⟨(gwI 577 (by decide +kernel) rfl), (gwI 578 (by decide +kernel) rfl), (gwI 0 (by decide +kernel) rfl), (gwI 579 (by decide +kernel) rfl), ⟨by decide +kernel, by decide +kernel, by decide +kernel⟩⟩
theorem cw_signed : xCSW RL 195 yL_signed cL_signed 4 (some .int) [(0, 9, 12, 19), (0, 9, 15, 13)] 3 := ⟨(gwI 602 (by decide +kernel) rfl), (gwI 603 (by decide +kernel) rfl), (gwI 0 (by decide +kernel) rfl), (gwI 604 (by decide +kernel) rfl), ⟨by decide +kernel, by decide +kernel, by decide +kernel⟩⟩
theorem cw_sheets : xCSW RL 198 yL_sheets cL_sheets 4 (some .int) [(0, 9, 12, 19), (0, 9, 15, 13)] 3 := ⟨(gwI 618 (by decide +kernel) rfl), (gwI 619 (by decide +kernel) rfl), (gwI 0 (by decide +kernel) rfl), (gwI 620 (by decide +kernel) rfl), ⟨by decide +kernel, by decide +kernel, by decide +kernel⟩⟩
theorem cw_pageOn : xCSW RL 201 yL_pageOn cL_pageOn 6 (some .int) [(0, 12, 15, 19), (0, 12, 19, 13), (0, 12, 23, 21)] 5 := ⟨(gwI 625 (by decide +kernel) rfl), (gwI 626 (by decide +kernel) rfl), (gwI 0 (by decide +kernel) rfl), (gwI 627 (by decide +kernel) rfl), ⟨by decide +kernel, by decide +kernel, by decide +kernel⟩⟩
theorem cw_shown : xCSW RL 204 yL_shown cL_shown 6 (some .int) [(0, 12, 15, 19), (0, 12, 19, 13), (0, 12, 23, 21)] 5 := ⟨(gwI 638 (by decide +kernel) rfl), (gwI 639 (by decide +kernel) rfl), (gwI 0 (by decide +kernel) rfl), (gwI 640 (by decide +kernel) rfl), ⟨by decide +kernel, by decide +kernel, by decide +kernel⟩⟩
theorem cw_shownByLog : xCSW RL 207 yL_shownByLog cL_shownByLog 6 (some .int) [(0, 12, 15, 19), (0, 12, 19, 13), (0, 12, 23, 21)] 5 := ⟨(gwI 650 (by decide +kernel) rfl), (gwI 651 (by decide +kernel) rfl), (gwI 0 (by decide +kernel) rfl), (gwI 652 (by decide +kernel) rfl), ⟨by decide +kernel, by decide +kernel, by decide +kernel⟩⟩
theorem cw_supply : xCSW RL 210 yL_supply cL_supply 5 (some .int) [(0, 10, 13, 23), (0, 10, 17, 13)] 4 := ⟨(gwI 675 (by decide +kernel) rfl), (gwI 676 (by decide +kernel) rfl), (gwI 0 (by decide +kernel) rfl), (gwI 677 (by decide +kernel) rfl), ⟨by decide +kernel, by decide +kernel, by decide +kernel⟩⟩
theorem cw_order : xCSW RL 221 yL_order cL_order 6 (some .int) [(0, 12, 15, 19), (0, 12, 19, 23), (0, 12, 23, 13), (0, 12, 27, 25)] 5 := ⟨(gwI 685 (by decide +kernel) rfl), (gwI 686 (by decide +kernel) rfl), (gwI 0 (by decide +kernel) rfl), (gwI 687 (by decide +kernel) rfl), ⟨by decide +kernel, by decide +kernel, by decide +kernel⟩⟩
theorem cw_needs : xCSW RL 224 yL_needs cL_needs 4 (some .int) [(0, 9, 12, 19)] 3 := ⟨(gwI 760 (by decide +kernel) rfl), (gwI 761 (by decide +kernel) rfl), (gwI 0 (by decide +kernel) rfl), (gwI 762 (by decide +kernel) rfl), ⟨by decide +kernel, by decide +kernel, by decide +kernel⟩⟩
theorem cw_stateOf : xCSW RL 231 yL_stateOf cL_stateOf 5 (some .int) [(0, 10, 13, 19), (0, 10, 17, 21)] 4 := ⟨(gwI 772 (by decide +kernel) rfl), (gwI 773 (by decide +kernel) rfl), (gwI 0 (by decide +kernel) rfl), (gwI 774 (by decide +kernel) rfl), ⟨by decide +kernel, by decide +kernel, by decide +kernel⟩⟩
theorem cw_isDone : xCSW RL 234 yL_isDone cL_isDone 4 (some .int) [(0, 16, 19, 19)] 3 := ⟨(gwI 779 (by decide +kernel) rfl), (gwI 780 (by decide +kernel) rfl), (gwI 0 (by decide +kernel) rfl), (gwI 781 (by decide +kernel) rfl), ⟨by decide +kernel, by decide +kernel, by decide +kernel⟩⟩
theorem cw_lateBy : xCSW RL 237 yL_lateBy cL_lateBy 4 (some .int) [(0, 9, 12, 19)] 3 := ⟨(gwI 794 (by decide +kernel) rfl), (gwI 795 (by decide +kernel) rfl), (gwI 0 (by decide +kernel) rfl), (gwI 796 (by decide +kernel) rfl), ⟨by decide +kernel, by decide +kernel, by decide +kernel⟩⟩
theorem cw_nextOrder : xCSW RL 240 yL_nextOrder cL_nextOrder 3 (some .int) [(0, 8, 11, 13)] 2 := ⟨(gwI 801 (by decide +kernel) rfl), (gwI 802 (by decide +kernel) rfl), (gwI 0 (by decide +kernel) rfl), (gwI 803 (by decide +kernel) rfl), ⟨by decide +kernel, by decide +kernel, by decide +kernel⟩⟩
theorem cw_nextSheet : xCSW RL 243 yL_nextSheet cL_nextSheet 4 (some .int) [(0, 9, 12, 19), (0, 9, 15, 13)] 3 := ⟨(gwI 813 (by decide +kernel) rfl), (gwI 814 (by decide +kernel) rfl), (gwI 0 (by decide +kernel) rfl), (gwI 815 (by decide +kernel) rfl), ⟨by decide +kernel, by decide +kernel, by decide +kernel⟩⟩
theorem cw_print : xCSW RL 246 yL_print cL_print 5 (some .int) [(0, 10, 13, 19), (0, 10, 17, 21), (0, 10, 21, 13), (0, 10, 25, 25)] 4 := ⟨(gwI 821 (by decide +kernel) rfl), (gwI 822 (by decide +kernel) rfl), (gwI 0 (by decide +kernel) rfl), (gwI 823 (by decide +kernel) rfl), ⟨by decide +kernel, by decide +kernel, by decide +kernel⟩⟩
theorem cw_pass : xCSW RL 253 yL_pass cL_pass 4 (some .int) [(0, 9, 12, 23), (0, 9, 15, 13)] 3 := ⟨(gwI 850 (by decide +kernel) rfl), (gwI 851 (by decide +kernel) rfl), (gwI 0 (by decide +kernel) rfl), (gwI 852 (by decide +kernel) rfl), ⟨by decide +kernel, by decide +kernel, by decide +kernel⟩⟩
theorem cw_plateLength : xCSW RL 260 yL_plateLength cL_plateLength 5 (some .int) [(0, 10, 13, 19), (0, 10, 17, 21), (0, 10, 21, 13)] 4 := ⟨(gwI 871 (by decide +kernel) rfl), (gwI 872 (by decide +kernel) rfl), (gwI 0 (by decide +kernel) rfl), (gwI 873 (by decide +kernel) rfl), ⟨by decide +kernel, by decide +kernel, by decide +kernel⟩⟩
theorem cw_plateAt : xCSW RL 263 yL_plateAt cL_plateAt 6 (some .int) [(0, 12, 15, 19), (0, 12, 19, 21), (0, 12, 23, 13)] 5 := ⟨(gwI 883 (by decide +kernel) rfl), (gwI 884 (by decide +kernel) rfl), (gwI 0 (by decide +kernel) rfl), (gwI 885 (by decide +kernel) rfl), ⟨by decide +kernel, by decide +kernel, by decide +kernel⟩⟩
theorem cw_platesFor : xCSW RL 266 yL_platesFor cL_platesFor 4 (some .int) [(0, 9, 12, 19)] 3 := ⟨(gwI 890 (by decide +kernel) rfl), (gwI 891 (by decide +kernel) rfl), (gwI 0 (by decide +kernel) rfl), (gwI 892 (by decide +kernel) rfl), ⟨by decide +kernel, by decide +kernel, by decide +kernel⟩⟩
theorem cw_wasted : xCSW RL 269 yL_wasted cL_wasted 4 (some .int) [(0, 9, 12, 19)] 3 := ⟨(gwI 897 (by decide +kernel) rfl), (gwI 898 (by decide +kernel) rfl), (gwI 0 (by decide +kernel) rfl), (gwI 899 (by decide +kernel) rfl), ⟨by decide +kernel, by decide +kernel, by decide +kernel⟩⟩
theorem cw_cost : xCSW RL 272 yL_cost cL_cost 4 (some .int) [(0, 8, 11, 19)] 3 := ⟨(gwI 904 (by decide +kernel) rfl), (gwI 905 (by decide +kernel) rfl), (gwI 0 (by decide +kernel) rfl), (gwI 906 (by decide +kernel) rfl), ⟨by decide +kernel, by decide +kernel, by decide +kernel⟩⟩
theorem cw_goodShare : xCSW RL 275 yL_goodShare cL_goodShare 3 (some .int) [(0, 8, 11, 133)] 2 := ⟨(gwI 913 (by decide +kernel) rfl), (gwI 914 (by decide +kernel) rfl), (gwI 0 (by decide +kernel) rfl), (gwI 915 (by decide +kernel) rfl), ⟨by decide +kernel, by decide +kernel, by decide +kernel⟩⟩
theorem cw_meanLength : xCSW RL 279 yL_meanLength cL_meanLength 3 (some .int) [(0, 7, 10, 133)] 2 := ⟨(gwI 937 (by decide +kernel) rfl), (gwI 938 (by decide +kernel) rfl), (gwI 0 (by decide +kernel) rfl), (gwI 939 (by decide +kernel) rfl), ⟨by decide +kernel, by decide +kernel, by decide +kernel⟩⟩
