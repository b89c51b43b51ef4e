/-! what stands at the law's entry -/
theorem tbP {ws : List Cond} (ps : List Nat) (hp : ws = ps.filterMap (fun i => tables_1[i]?)) : ∀ w ∈ ws, w ∈ tables_1 := by
  intro w hw
  rw [hp] at hw
  obtain ⟨i, -, hi⟩ := List.mem_filterMap.mp hw
  exact List.mem_of_getElem? hi
theorem flP {ws : List Cond} (ps : List Nat) (hp : ws = ps.filterMap (fun i => (flatC (Jvm.Cond.and given_1 narrow_1))[i]?)) : ∀ w ∈ ws, w ∈ flatC (Jvm.Cond.and given_1 narrow_1) := by
  intro w hw
  rw [hp] at hw
  obtain ⟨i, -, hi⟩ := List.mem_filterMap.mp hw
  exact List.mem_of_getElem? hi
theorem mk_arr {args : Array Value} {s : State} {ty : FieldType} (h : (Cond.arrayClass ty).before args s = true) : ∃ cA : ClassId, ArrOfT s cA ty ∧ s.vm.findClass ("[" ++ ty.toString) = some cA := by
  obtain ⟨c, k, comp, h1, h2, h3⟩ := Cond.arrayClass_spec h
  exact ⟨c, fun n z => ⟨(fun k h => by cases h), k, h2, comp, h3⟩, h1⟩
theorem mk_ao {args : Array Value} {s : State} {Cn : String} (h : (Cond.arrayOver (.object Cn)).before args s = true) : ∃ cA : ClassId, ArrOfT s cA (.object Cn) ∧ va_RA s cA (.object Cn) := by
  obtain ⟨comp, c, k, h1, h2, h3, h4, h5⟩ := Cond.arrayOver_spec h
  exact ⟨c, fun n z => ⟨(fun k h => by cases h), k, h3, comp, h4⟩, k, comp, h3, h4, h1, h5⟩
theorem mk_str {args : Array Value} {s : State} {own tx : String} {k : Nat} (h1 : (Cond.stringRef own k tx).before args s = true) (h2 : (Cond.exactly (.string own k) "java/lang/String").before args s = true) : ∃ a : Nat, vk_R own k tx a s := by
  obtain ⟨a, c, cell, kk, h, -⟩ := Cond.exactly_spec h2
  exact ⟨a, vk_R.of h1 h⟩
theorem tb_str : ∀ w ∈ xStrs.map (fun x => Cond.stringRef x.1 x.2.1 x.2.2), w ∈ tables_1 := tbP [221, 343, 362, 380, 387, 421, 482, 511, 512, 550, 551, 584, 585, 586, 617, 635, 636, 648, 682, 684, 692, 694, 771, 812, 820, 828, 833, 857, 858, 882, 935, 944] (by decide +kernel)
theorem tb_cast : ∀ w ∈ xCasts.map (fun x => Cond.castable x.1 x.2), w ∈ tables_1 := tbP [178, 315, 336, 355, 373, 414, 928, 1326, 1327, 1328, 1329, 1330, 1331, 1332, 1333, 1334, 1335, 1336, 1337, 1338, 1339, 1340, 1341, 1342, 1343, 1344] (by decide +kernel)
theorem tb_nest : ∀ w ∈ xNests.map (fun x => Cond.fieldLinkNest x.1 x.2.1 x.2.2.1 x.2.2.2.1 x.2.2.2.2.1 x.2.2.2.2.2), w ∈ tables_1 := tbP [67, 70, 261, 262, 270, 273, 275, 277, 278, 280, 519, 521, 523, 525, 709, 710, 712, 714, 716, 729, 731, 732, 734, 736, 738, 739, 741, 742] (by decide +kernel)
theorem tb_decl : ∀ w ∈ xDecls.map Cond.declares, w ∈ tables_1 := tbP [179, 180, 181, 182, 183, 184, 316, 317] (by decide +kernel)
theorem fl_str : ∀ w ∈ xStrs.map (fun x => Cond.exactly (.string x.1 x.2.1) "java/lang/String"), w ∈ flatC (Jvm.Cond.and given_1 narrow_1) := flP [95, 120, 140, 157, 173, 203, 225, 253, 269, 293, 312, 339, 359, 380, 406, 435, 452, 472, 489, 517, 549, 601, 635, 652, 675, 705, 753, 794, 833, 864, 895, 918] (by decide +kernel)
theorem fl_not : ∀ w ∈ xNots.map (fun x => Cond.not (.castable x.1 x.2)), w ∈ flatC (Jvm.Cond.and given_1 narrow_1) := flP [13, 43, 58, 73, 88, 25, 40, 54, 69, 84, 29, 14, 59, 74, 89, 30, 15, 44, 75, 90, 31, 16, 45, 60, 91, 35, 20, 49, 64, 79] (by decide +kernel)
theorem fl_ref : ∀ w ∈ [Cond.isRef (.static Bundle.tN "UNASSIGNED_STACK" Bundle.steD), Cond.isRef (.static Bundle.tN "SUPPRESSED_SENTINEL" Bundle.listD)], w ∈ flatC (Jvm.Cond.and given_1 narrow_1) := flP [4, 5] (by decide +kernel)
theorem lw_K {args : Array Value} {s : State} (hts : ∀ w ∈ lw_tbl, w.before args s = true) : ∃ (D : va_G) (Y : Nat → ClassId), va_K D vwCl (xTys Y) s := by
  have ht : ∀ (i : Nat) (w : Cond), tables_1[i]? = some w → w.before args s = true := fun i w h => hts w (List.mem_append_right _ (List.mem_of_getElem? h))
  have hgw : ∀ w ∈ gw, w.before args s = true := fun w hw => hts w (List.mem_filter.mp hw).1
  obtain ⟨c0, i0, k0⟩ := u_known (C := RJ0) (T := TJ0) (N := 2) (n := 4) hgw (gwP [320, 322] (by decide +kernel) (by decide +kernel)) (ht 319 _ (by decide +kernel))
  obtain ⟨c1, i1, k1⟩ := u_known (C := RJx00060) (T := TJx00060) (N := 6) (n := 6) hgw (gwP [308, 309, 310, 311, 312, 313] (by decide +kernel) (by decide +kernel)) (ht 301 _ (by decide +kernel))
  obtain ⟨c2, i2, k2⟩ := u_known (C := RX0) (T := TX0) (N := 4) (n := 4) hgw (gwP [526, 528, 530, 532] (by decide +kernel) (by decide +kernel)) (ht 513 _ (by decide +kernel))
  obtain ⟨c3, i3, k3⟩ := u_known (C := RX1) (T := TX1) (N := 7) (n := 7) hgw (gwP [281, 283, 285, 287, 289, 291, 293] (by decide +kernel) (by decide +kernel)) (ht 248 _ (by decide +kernel))
  obtain ⟨c4, i4, k4⟩ := u_known (C := RX3) (T := TX3) (N := 5) (n := 5) hgw (gwP [48, 50, 52, 54, 56] (by decide +kernel) (by decide +kernel)) (ht 38 _ (by decide +kernel))
  obtain ⟨c5, i5, k5⟩ := u_known (C := RX4) (T := TX4) (N := 8) (n := 8) hgw (gwP [743, 745, 747, 749, 751, 753, 755, 757] (by decide +kernel) (by decide +kernel)) (ht 695 _ (by decide +kernel))
  obtain ⟨c6, i6, k6⟩ := u_known (C := RX5) (T := TX5) (N := 5) (n := 5) hgw (gwP [73, 75, 77, 79, 81] (by decide +kernel) (by decide +kernel)) (ht 61 _ (by decide +kernel))
  obtain ⟨c7, i7, k7⟩ := u_known (C := RX6) (T := TX6) (N := 5) (n := 5) hgw (gwP [717, 719, 721, 723, 725] (by decide +kernel) (by decide +kernel)) (ht 702 _ (by decide +kernel))
  obtain ⟨c8, i8, k8⟩ := u_known (C := RX7) (T := TX7) (N := 2) (n := 2) hgw (gwP [263, 265] (by decide +kernel) (by decide +kernel)) (ht 254 _ (by decide +kernel))
  obtain ⟨c9, i9, k9⟩ := u_known (C := RX8) (T := TX8) (N := 11) (n := 11) hgw (gwP [95, 97, 99, 101, 103, 105, 107, 109, 111, 113, 115] (by decide +kernel) (by decide +kernel)) (ht 24 _ (by decide +kernel))
  obtain ⟨c10, i10, k10⟩ := u_known (C := RX9) (T := TX9) (N := 32) (n := 32) hgw (gwP [983, 985, 987, 989, 991, 993, 995, 997, 999, 1001, 1003, 1005, 1007, 1009, 1011, 1013, 1015, 1017, 1019, 1021, 1023, 1025, 1027, 1029, 1031, 1033, 1035, 1037, 1039, 1041, 1043, 1045] (by decide +kernel) (by decide +kernel)) (ht 946 _ (by decide +kernel))
  obtain ⟨a0, q0, r0⟩ := mk_arr (ht 59 (.arrayClass .int) (by decide +kernel))
  obtain ⟨a1, q1, r1⟩ := mk_arr (ht 1048 (.arrayClass .boolean) (by decide +kernel))
  obtain ⟨a2, q2, r2⟩ := mk_arr (ht 1323 (.arrayClass .long) (by decide +kernel))
  obtain ⟨a3, q3, r3⟩ := mk_arr (ht 1324 (.arrayClass .double) (by decide +kernel))
  obtain ⟨a4, q4, r4⟩ := mk_ao (ht 32 (.arrayOver (.object RX1)) (by decide +kernel))
  obtain ⟨a5, q5, r5⟩ := mk_ao (ht 34 (.arrayOver (.object RX0)) (by decide +kernel))
  obtain ⟨a6, q6, r6⟩ := mk_ao (ht 36 (.arrayOver (.object RX4)) (by decide +kernel))
  obtain ⟨a7, q7, r7⟩ := mk_ao (ht 701 (.arrayOver (.object RX6)) (by decide +kernel))
  refine ⟨(fun c => match c with | 0 => c0 | 1 => c1 | 2 => c2 | 3 => c3 | 4 => c4 | 5 => c5 | 6 => c6 | 7 => c7 | 8 => c8 | 9 => c9 | 10 => c10 | _ => c0, fun c => match c with | 0 => i0 | 1 => i1 | 2 => i2 | 3 => i3 | 4 => i4 | 5 => i5 | 6 => i6 | 7 => i7 | 8 => i8 | 9 => i9 | 10 => i10 | _ => i0), fun k => match k with | 0 => a0 | 1 => a1 | 2 => a2 | 3 => a3 | 4 => a4 | 5 => a5 | 6 => a6 | 7 => a7 | _ => a0, fun c q hq => ?_, fun k q hq => ?_⟩
  · rcases c with _ | _ | _ | _ | _ | _ | _ | _ | _ | _ | _ | c
    · obtain rfl : (RJ0, TJ0, 2) = q := Option.some.inj hq
      exact k0
    · obtain rfl : (RJx00060, TJx00060, 6) = q := Option.some.inj hq
      exact k1
    · obtain rfl : (RX0, TX0, 4) = q := Option.some.inj hq
      exact k2
    · obtain rfl : (RX1, TX1, 7) = q := Option.some.inj hq
      exact k3
    · obtain rfl : (RX3, TX3, 5) = q := Option.some.inj hq
      exact k4
    · obtain rfl : (RX4, TX4, 8) = q := Option.some.inj hq
      exact k5
    · obtain rfl : (RX5, TX5, 5) = q := Option.some.inj hq
      exact k6
    · obtain rfl : (RX6, TX6, 5) = q := Option.some.inj hq
      exact k7
    · obtain rfl : (RX7, TX7, 2) = q := Option.some.inj hq
      exact k8
    · obtain rfl : (RX8, TX8, 11) = q := Option.some.inj hq
      exact k9
    · obtain rfl : (RX9, TX9, 32) = q := Option.some.inj hq
      exact k10
    · exact absurd (show (none : Option vw_C) = some q from hq) (fun h => by cases h)
  · rcases k with _ | _ | _ | _ | _ | _ | _ | _ | k
    · obtain rfl : (a0, (.int : FieldType)) = q := Option.some.inj hq
      exact ⟨q0, r0⟩
    · obtain rfl : (a1, (.boolean : FieldType)) = q := Option.some.inj hq
      exact ⟨q1, r1⟩
    · obtain rfl : (a2, (.long : FieldType)) = q := Option.some.inj hq
      exact ⟨q2, r2⟩
    · obtain rfl : (a3, (.double : FieldType)) = q := Option.some.inj hq
      exact ⟨q3, r3⟩
    · obtain rfl : (a4, (.object RX1 : FieldType)) = q := Option.some.inj hq
      exact ⟨q4, r4⟩
    · obtain rfl : (a5, (.object RX0 : FieldType)) = q := Option.some.inj hq
      exact ⟨q5, r5⟩
    · obtain rfl : (a6, (.object RX4 : FieldType)) = q := Option.some.inj hq
      exact ⟨q6, r6⟩
    · obtain rfl : (a7, (.object RX6 : FieldType)) = q := Option.some.inj hq
      exact ⟨q7, r7⟩
    · exact absurd (show (none : Option (ClassId × FieldType)) = some q from hq) (fun h => by cases h)
theorem lw_E {args : Array Value} {s : State} {D : va_G} {Y : Nat → ClassId} (hK : va_K D vwCl (xTys Y) s) (hts : ∀ w ∈ lw_tbl, w.before args s = true) (hgv : (Jvm.Cond.and given_1 narrow_1).before args s = true) : xGE D Y (fun q => s.heap.size ≤ q) s := by
  have ht : ∀ w ∈ tables_1, w.before args s = true := fun w h => hts w (List.mem_append_right _ h)
  have hf := flat_of_before _ hgv
  have hA : ∀ a : Nat, a < s.heap.size → ¬ s.heap.size ≤ a := fun a h1 h2 => absurd h1 (Nat.not_lt.mpr h2)
  refine ⟨hK, ?_, ?_, fun x hx => ?_, fun x hx => ?_, fun x hx => ?_, fun x hx => ?_, ?_, ?_, ?_, ?_⟩
  · exact vx_Zqof (ht _ (List.mem_of_getElem? (i := 203) (by decide +kernel))) (ht _ (List.mem_of_getElem? (i := 5) (by decide +kernel))) (hf _ (fl_ref _ List.mem_cons_self)) hA
  · exact vx_Zqof (ht _ (List.mem_of_getElem? (i := 205) (by decide +kernel))) (ht _ (List.mem_of_getElem? (i := 5) (by decide +kernel))) (hf _ (fl_ref _ (List.mem_cons_of_mem _ List.mem_cons_self))) hA
  · exact mk_str (ht _ (tb_str _ (List.mem_map.mpr ⟨x, hx, rfl⟩))) (hf _ (fl_str _ (List.mem_map.mpr ⟨x, hx, rfl⟩)))
  · exact va_Nw.of rfl (ht _ (tb_cast _ (List.mem_map.mpr ⟨x, hx, rfl⟩)))
  · exact va_Nw.of rfl (ht _ (tb_nest _ (List.mem_map.mpr ⟨x, hx, rfl⟩)))
  · exact va_Nw.of rfl (ht _ (tb_decl _ (List.mem_map.mpr ⟨x, hx, rfl⟩)))
  · exact va_AO.of (ht _ (List.mem_of_getElem? (i := 32) (by decide +kernel)))
  · exact va_AO.of (ht _ (List.mem_of_getElem? (i := 34) (by decide +kernel)))
  · exact va_AO.of (ht _ (List.mem_of_getElem? (i := 36) (by decide +kernel)))
  · exact va_AO.of (ht _ (List.mem_of_getElem? (i := 701) (by decide +kernel)))
theorem lw_N {args : Array Value} {s : State} (hgv : (Jvm.Cond.and given_1 narrow_1).before args s = true) : xGN s := by
  have hf := flat_of_before _ hgv
  intro x hx
  exact va_Nc.of (hf _ (fl_not _ (List.mem_map.mpr ⟨x, hx, rfl⟩)))
