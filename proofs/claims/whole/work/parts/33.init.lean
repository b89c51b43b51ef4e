set_option maxRecDepth 100000 in
set_option maxHeartbeats 4000000 in
theorem c_X8_init {lc : Launch} (hlc : lc.stackTraces = false) {D : va_G} {Y : Nat → ClassId} {A : Nat → Prop} {g : xG} {ad : xL}  (hg : g 0 (0) = some (.inr (9, [.null, .int (iI 0), .null, .int (iI 0), .null, .int (iI 0), .null, .null, .int (iI 0), .int (iI 0), .int (iI 0)]))) (hf1_0 : g 1 (0) = none) (hf2_1 : g 2 (0) = none) (hf3_2 : g 3 (0) = none) (hf4_3 : g 4 (0) = none) (hf5_4 : g 5 (0) = none) (hf6_5 : g 6 (0) = none) (hf7_6 : g 7 (0) = none) (hf8_7 : g 8 (0) = none) (hf9_8 : g 9 (0) = none) (hf10_9 : g 10 (0) = none) : Ct lc yX8_init cX8_init 1 none (rmL 1 10 2107) D Y A ad g [.ref (ad 0 (0))] (fun r ad2 g2 => r = none ∧ (∀ k n9, ¬ (1 ≤ k ∧ k ≤ 10 ∧ n9 = 0) → ad2 k n9 = ad k n9) ∧ g2 = xup (xup (xup (xup (xup (xup (xup (xup (xup (xup (xup (g) 1 (0) (.inl (Y 4, 3, .inr (.inr (.inr (.inr (fun _ => none))))))) 2 (0) (.inl (Y 5, 8, .inr (.inr (.inr (.inr (fun _ => none))))))) 3 (0) (.inl (Y 6, 6, .inr (.inr (.inr (.inr (fun _ => none))))))) 5 (0) (.inl (Y 0, 512, .inl (fun _ => iI 0)))) 6 (0) (.inl (Y 0, 512, .inl (fun _ => iI 0)))) 7 (0) (.inl (Y 0, 512, .inl (fun _ => iI 0)))) 8 (0) (.inl (Y 0, 512, .inl (fun _ => iI 0)))) 4 (0) (.inr (4, [.ref (ad2 5 (0)), .ref (ad2 6 (0)), .ref (ad2 7 (0)), .ref (ad2 8 (0)), .int (iI 0)]))) 10 (0) (.inl (Y 0, 32, .inl (fun _ => iI 0)))) 9 (0) (.inr (6, [.null, .int (iI 0), .int (iI 0), .int (iI 0), .ref (ad2 10 (0))]))) 0 (0) (.inr (9, [.ref (ad2 1 (0)), .int (iI 0), .ref (ad2 2 (0)), .int (iI 0), .ref (ad2 3 (0)), .int (iI 0), .ref (ad2 4 (0)), .ref (ad2 9 (0)), .int (iI 0), .int (iI 0), .int (iI 0)]))) pF := by
  refine Ct_of hlc (by decide +kernel) rfl rfl (own := RX8) (nm := "<init>") (l0 := [some (.ref (ad 0 (0)))]) rfl (Nat.le_of_ble_eq_true rfl) (fun κ C M => ?_)
  refine X_aload_n C rfl dX8_init_0 ?_
  refine X_objInit C oi_X8_3 oi_2 oi_3 (by decide) (by decide) dX8_init_1 ?_
  refine X_aload_n C rfl dX8_init_4 ?_
  refine X_iconst C dX8_init_5 ?_
  refine X_mkA C (k := 1) (n := 0) (N := 3) (t := 4) (by repeat (first | exact xup_s | assumption | rw [xup_n (by omega)])) na_X8_9 (fun U h => h.2.2.2.2.2.2.2.1) rfl rfl (by decide) (by decide) (by decide) dX8_init_6 (fun a1 o1 => ?_)
  try rw [← o1 0 (0) (by omega)]
  refine X_putF C M (k := 0) (n := 0) (fs := [.null, .int (iI 0), .null, .int (iI 0), .null, .int (iI 0), .null, .null, .int (iI 0), .int (iI 0), .int (iI 0)]) (by repeat (first | exact xup_s | assumption | rw [xup_n (by omega)])) ff_X8_11 rfl rfl (Nat.le_of_ble_eq_true rfl) dX8_init_9 ?_
  refine X_aload_n C rfl dX8_init_12 ?_
  refine X_bipush C ⟨by decide, by decide⟩ dX8_init_13 ?_
  refine X_mkA C (k := 2) (n := 0) (N := 8) (t := 5) (by repeat (first | exact xup_s | assumption | rw [xup_n (by omega)])) na_X8_15 (fun U h => h.2.2.2.2.2.2.2.2.1) rfl rfl (by decide) (by decide) (by decide) dX8_init_15 (fun a2 o2 => ?_)
  try rw [← o2 0 (0) (by omega)]
  try rw [← o2 1 (0) (by omega)]
  refine X_putF C M (k := 0) (n := 0) (fs := [.ref (a2 1 (0)), .int (iI 0), .null, .int (iI 0), .null, .int (iI 0), .null, .null, .int (iI 0), .int (iI 0), .int (iI 0)]) (by repeat (first | exact xup_s | assumption | rw [xup_n (by omega)])) ff_X8_17 rfl rfl (Nat.le_of_ble_eq_true rfl) dX8_init_18 ?_
  refine X_aload_n C rfl dX8_init_21 ?_
  refine X_bipush C ⟨by decide, by decide⟩ dX8_init_22 ?_
  refine X_mkA C (k := 3) (n := 0) (N := 6) (t := 6) (by repeat (first | exact xup_s | assumption | rw [xup_n (by omega)])) na_X8_21 (fun U h => h.2.2.2.2.2.2.2.2.2.1) rfl rfl (by decide) (by decide) (by decide) dX8_init_24 (fun a3 o3 => ?_)
  try rw [← o3 0 (0) (by omega)]
  try rw [← o3 1 (0) (by omega)]
  try rw [← o3 2 (0) (by omega)]
  refine X_putF C M (k := 0) (n := 0) (fs := [.ref (a3 1 (0)), .int (iI 0), .ref (a3 2 (0)), .int (iI 0), .null, .int (iI 0), .null, .null, .int (iI 0), .int (iI 0), .int (iI 0)]) (by repeat (first | exact xup_s | assumption | rw [xup_n (by omega)])) ff_X8_23 rfl rfl (Nat.le_of_ble_eq_true rfl) dX8_init_27 ?_
  refine X_aload_n C rfl dX8_init_30 ?_
  refine X_mkO C (k := 4) (n := 0) (fs := [.null, .null, .null, .null, .int (iI 0)]) (by repeat (first | exact xup_s | assumption | rw [xup_n (by omega)])) xcl_X3 nw_X8_27 (fun j hj => match j, hj with | 0, _ => rfl | 1, _ => rfl | 2, _ => rfl | 3, _ => rfl | 4, _ => rfl | (j + 5), h => absurd h (by omega)) (by decide) (by decide) dX8_init_31 (fun a4 o4 => ?_)
  try rw [← o4 0 (0) (by omega)]
  try rw [← o4 1 (0) (by omega)]
  try rw [← o4 2 (0) (by omega)]
  try rw [← o4 3 (0) (by omega)]
  refine X_dup C rfl dX8_init_34 ?_
  refine X_callIg C (c_X3_init C.hlc (by repeat (first | exact xup_s | assumption | rw [xup_n (by omega)])) (by repeat (first | exact xup_s | assumption | rw [xup_n (by omega)])) (by repeat (first | exact xup_s | assumption | rw [xup_n (by omega)])) (by repeat (first | exact xup_s | assumption | rw [xup_n (by omega)])) (by repeat (first | exact xup_s | assumption | rw [xup_n (by omega)]))) ci_X8_29 rfl rfl rfl rfl dX8_init_35 (fun r9 a5 g9 hp => ?_)
  obtain ⟨rfl, o5, rfl⟩ := hp
  try rw [← o5 0 (0) (by omega)]
  try rw [← o5 1 (0) (by omega)]
  try rw [← o5 2 (0) (by omega)]
  try rw [← o5 3 (0) (by omega)]
  try rw [← o5 4 (0) (by omega)]
  refine X_putF C M (k := 0) (n := 0) (fs := [.ref (a5 1 (0)), .int (iI 0), .ref (a5 2 (0)), .int (iI 0), .ref (a5 3 (0)), .int (iI 0), .null, .null, .int (iI 0), .int (iI 0), .int (iI 0)]) (by repeat (first | exact xup_s | assumption | rw [xup_n (by omega)])) ff_X8_30 rfl rfl (Nat.le_of_ble_eq_true rfl) dX8_init_38 ?_
  refine X_aload_n C rfl dX8_init_41 ?_
  refine X_mkO C (k := 9) (n := 0) (fs := [.null, .int (iI 0), .int (iI 0), .int (iI 0), .null]) (by repeat (first | exact xup_s | assumption | rw [xup_n (by omega)])) xcl_X5 nw_X8_34 (fun j hj => match j, hj with | 0, _ => rfl | 1, _ => rfl | 2, _ => rfl | 3, _ => rfl | 4, _ => rfl | (j + 5), h => absurd h (by omega)) (by decide) (by decide) dX8_init_42 (fun a6 o6 => ?_)
  try rw [← o6 0 (0) (by omega)]
  try rw [← o6 1 (0) (by omega)]
  try rw [← o6 2 (0) (by omega)]
  try rw [← o6 3 (0) (by omega)]
  try rw [← o6 4 (0) (by omega)]
  try rw [← o6 5 (0) (by omega)]
  try rw [← o6 6 (0) (by omega)]
  try rw [← o6 7 (0) (by omega)]
  try rw [← o6 8 (0) (by omega)]
  refine X_dup C rfl dX8_init_45 ?_
  refine X_callIg C (c_X5_init C.hlc (by repeat (first | exact xup_s | assumption | rw [xup_n (by omega)])) (by repeat (first | exact xup_s | assumption | rw [xup_n (by omega)]))) ci_X8_36 rfl rfl rfl rfl dX8_init_46 (fun r9 a7 g9 hp => ?_)
  obtain ⟨rfl, o7, rfl⟩ := hp
  try rw [← o7 0 (0) (by omega)]
  try rw [← o7 1 (0) (by omega)]
  try rw [← o7 2 (0) (by omega)]
  try rw [← o7 3 (0) (by omega)]
  try rw [← o7 4 (0) (by omega)]
  try rw [← o7 5 (0) (by omega)]
  try rw [← o7 6 (0) (by omega)]
  try rw [← o7 7 (0) (by omega)]
  try rw [← o7 8 (0) (by omega)]
  try rw [← o7 9 (0) (by omega)]
  refine X_putF C M (k := 0) (n := 0) (fs := [.ref (a7 1 (0)), .int (iI 0), .ref (a7 2 (0)), .int (iI 0), .ref (a7 3 (0)), .int (iI 0), .ref (a7 4 (0)), .null, .int (iI 0), .int (iI 0), .int (iI 0)]) (by repeat (first | exact xup_s | assumption | rw [xup_n (by omega)])) ff_X8_37 rfl rfl (Nat.le_of_ble_eq_true rfl) dX8_init_49 ?_
  refine X_return C M (by decide) (by decide) dX8_init_52 ⟨rfl, (by intro k n9 h9; rw [o7 k n9 (by omega)]; rw [o6 k n9 (by omega)]; rw [o5 k n9 (by omega)]; rw [o4 k n9 (by omega)]; rw [o3 k n9 (by omega)]; rw [o2 k n9 (by omega)]; rw [o1 k n9 (by omega)]), ?_⟩
  funext k n9
  by_cases c0 : k = 1 ∧ n9 = 0
  · rw [c0.1, c0.2]
    simp only [xup_s, xup_n (show ¬ ((1 : Nat) = 2 ∧ (0 : Int) = 0) by omega), xup_n (show ¬ ((1 : Nat) = 3 ∧ (0 : Int) = 0) by omega), xup_n (show ¬ ((1 : Nat) = 4 ∧ (0 : Int) = 0) by omega), xup_n (show ¬ ((1 : Nat) = 5 ∧ (0 : Int) = 0) by omega), xup_n (show ¬ ((1 : Nat) = 6 ∧ (0 : Int) = 0) by omega), xup_n (show ¬ ((1 : Nat) = 7 ∧ (0 : Int) = 0) by omega), xup_n (show ¬ ((1 : Nat) = 8 ∧ (0 : Int) = 0) by omega), xup_n (show ¬ ((1 : Nat) = 9 ∧ (0 : Int) = 0) by omega), xup_n (show ¬ ((1 : Nat) = 10 ∧ (0 : Int) = 0) by omega), xup_n (show ¬ ((1 : Nat) = 0 ∧ (0 : Int) = 0) by omega)]
    try rfl
  by_cases c1 : k = 2 ∧ n9 = 0
  · rw [c1.1, c1.2]
    simp only [xup_s, xup_n (show ¬ ((2 : Nat) = 1 ∧ (0 : Int) = 0) by omega), xup_n (show ¬ ((2 : Nat) = 3 ∧ (0 : Int) = 0) by omega), xup_n (show ¬ ((2 : Nat) = 4 ∧ (0 : Int) = 0) by omega), xup_n (show ¬ ((2 : Nat) = 5 ∧ (0 : Int) = 0) by omega), xup_n (show ¬ ((2 : Nat) = 6 ∧ (0 : Int) = 0) by omega), xup_n (show ¬ ((2 : Nat) = 7 ∧ (0 : Int) = 0) by omega), xup_n (show ¬ ((2 : Nat) = 8 ∧ (0 : Int) = 0) by omega), xup_n (show ¬ ((2 : Nat) = 9 ∧ (0 : Int) = 0) by omega), xup_n (show ¬ ((2 : Nat) = 10 ∧ (0 : Int) = 0) by omega), xup_n (show ¬ ((2 : Nat) = 0 ∧ (0 : Int) = 0) by omega)]
    try rfl
  by_cases c2 : k = 3 ∧ n9 = 0
  · rw [c2.1, c2.2]
    simp only [xup_s, xup_n (show ¬ ((3 : Nat) = 1 ∧ (0 : Int) = 0) by omega), xup_n (show ¬ ((3 : Nat) = 2 ∧ (0 : Int) = 0) by omega), xup_n (show ¬ ((3 : Nat) = 4 ∧ (0 : Int) = 0) by omega), xup_n (show ¬ ((3 : Nat) = 5 ∧ (0 : Int) = 0) by omega), xup_n (show ¬ ((3 : Nat) = 6 ∧ (0 : Int) = 0) by omega), xup_n (show ¬ ((3 : Nat) = 7 ∧ (0 : Int) = 0) by omega), xup_n (show ¬ ((3 : Nat) = 8 ∧ (0 : Int) = 0) by omega), xup_n (show ¬ ((3 : Nat) = 9 ∧ (0 : Int) = 0) by omega), xup_n (show ¬ ((3 : Nat) = 10 ∧ (0 : Int) = 0) by omega), xup_n (show ¬ ((3 : Nat) = 0 ∧ (0 : Int) = 0) by omega)]
    try rfl
  by_cases c3 : k = 4 ∧ n9 = 0
  · rw [c3.1, c3.2]
    simp only [xup_s, xup_n (show ¬ ((4 : Nat) = 1 ∧ (0 : Int) = 0) by omega), xup_n (show ¬ ((4 : Nat) = 2 ∧ (0 : Int) = 0) by omega), xup_n (show ¬ ((4 : Nat) = 3 ∧ (0 : Int) = 0) by omega), xup_n (show ¬ ((4 : Nat) = 5 ∧ (0 : Int) = 0) by omega), xup_n (show ¬ ((4 : Nat) = 6 ∧ (0 : Int) = 0) by omega), xup_n (show ¬ ((4 : Nat) = 7 ∧ (0 : Int) = 0) by omega), xup_n (show ¬ ((4 : Nat) = 8 ∧ (0 : Int) = 0) by omega), xup_n (show ¬ ((4 : Nat) = 9 ∧ (0 : Int) = 0) by omega), xup_n (show ¬ ((4 : Nat) = 10 ∧ (0 : Int) = 0) by omega), xup_n (show ¬ ((4 : Nat) = 0 ∧ (0 : Int) = 0) by omega)]
    try rfl
  by_cases c4 : k = 5 ∧ n9 = 0
  · rw [c4.1, c4.2]
    simp only [xup_s, xup_n (show ¬ ((5 : Nat) = 1 ∧ (0 : Int) = 0) by omega), xup_n (show ¬ ((5 : Nat) = 2 ∧ (0 : Int) = 0) by omega), xup_n (show ¬ ((5 : Nat) = 3 ∧ (0 : Int) = 0) by omega), xup_n (show ¬ ((5 : Nat) = 4 ∧ (0 : Int) = 0) by omega), xup_n (show ¬ ((5 : Nat) = 6 ∧ (0 : Int) = 0) by omega), xup_n (show ¬ ((5 : Nat) = 7 ∧ (0 : Int) = 0) by omega), xup_n (show ¬ ((5 : Nat) = 8 ∧ (0 : Int) = 0) by omega), xup_n (show ¬ ((5 : Nat) = 9 ∧ (0 : Int) = 0) by omega), xup_n (show ¬ ((5 : Nat) = 10 ∧ (0 : Int) = 0) by omega), xup_n (show ¬ ((5 : Nat) = 0 ∧ (0 : Int) = 0) by omega)]
    try rfl
  by_cases c5 : k = 6 ∧ n9 = 0
  · rw [c5.1, c5.2]
    simp only [xup_s, xup_n (show ¬ ((6 : Nat) = 1 ∧ (0 : Int) = 0) by omega), xup_n (show ¬ ((6 : Nat) = 2 ∧ (0 : Int) = 0) by omega), xup_n (show ¬ ((6 : Nat) = 3 ∧ (0 : Int) = 0) by omega), xup_n (show ¬ ((6 : Nat) = 4 ∧ (0 : Int) = 0) by omega), xup_n (show ¬ ((6 : Nat) = 5 ∧ (0 : Int) = 0) by omega), xup_n (show ¬ ((6 : Nat) = 7 ∧ (0 : Int) = 0) by omega), xup_n (show ¬ ((6 : Nat) = 8 ∧ (0 : Int) = 0) by omega), xup_n (show ¬ ((6 : Nat) = 9 ∧ (0 : Int) = 0) by omega), xup_n (show ¬ ((6 : Nat) = 10 ∧ (0 : Int) = 0) by omega), xup_n (show ¬ ((6 : Nat) = 0 ∧ (0 : Int) = 0) by omega)]
    try rfl
  by_cases c6 : k = 7 ∧ n9 = 0
  · rw [c6.1, c6.2]
    simp only [xup_s, xup_n (show ¬ ((7 : Nat) = 1 ∧ (0 : Int) = 0) by omega), xup_n (show ¬ ((7 : Nat) = 2 ∧ (0 : Int) = 0) by omega), xup_n (show ¬ ((7 : Nat) = 3 ∧ (0 : Int) = 0) by omega), xup_n (show ¬ ((7 : Nat) = 4 ∧ (0 : Int) = 0) by omega), xup_n (show ¬ ((7 : Nat) = 5 ∧ (0 : Int) = 0) by omega), xup_n (show ¬ ((7 : Nat) = 6 ∧ (0 : Int) = 0) by omega), xup_n (show ¬ ((7 : Nat) = 8 ∧ (0 : Int) = 0) by omega), xup_n (show ¬ ((7 : Nat) = 9 ∧ (0 : Int) = 0) by omega), xup_n (show ¬ ((7 : Nat) = 10 ∧ (0 : Int) = 0) by omega), xup_n (show ¬ ((7 : Nat) = 0 ∧ (0 : Int) = 0) by omega)]
    try rfl
  by_cases c7 : k = 8 ∧ n9 = 0
  · rw [c7.1, c7.2]
    simp only [xup_s, xup_n (show ¬ ((8 : Nat) = 1 ∧ (0 : Int) = 0) by omega), xup_n (show ¬ ((8 : Nat) = 2 ∧ (0 : Int) = 0) by omega), xup_n (show ¬ ((8 : Nat) = 3 ∧ (0 : Int) = 0) by omega), xup_n (show ¬ ((8 : Nat) = 4 ∧ (0 : Int) = 0) by omega), xup_n (show ¬ ((8 : Nat) = 5 ∧ (0 : Int) = 0) by omega), xup_n (show ¬ ((8 : Nat) = 6 ∧ (0 : Int) = 0) by omega), xup_n (show ¬ ((8 : Nat) = 7 ∧ (0 : Int) = 0) by omega), xup_n (show ¬ ((8 : Nat) = 9 ∧ (0 : Int) = 0) by omega), xup_n (show ¬ ((8 : Nat) = 10 ∧ (0 : Int) = 0) by omega), xup_n (show ¬ ((8 : Nat) = 0 ∧ (0 : Int) = 0) by omega)]
    try rfl
  by_cases c8 : k = 9 ∧ n9 = 0
  · rw [c8.1, c8.2]
    simp only [xup_s, xup_n (show ¬ ((9 : Nat) = 1 ∧ (0 : Int) = 0) by omega), xup_n (show ¬ ((9 : Nat) = 2 ∧ (0 : Int) = 0) by omega), xup_n (show ¬ ((9 : Nat) = 3 ∧ (0 : Int) = 0) by omega), xup_n (show ¬ ((9 : Nat) = 4 ∧ (0 : Int) = 0) by omega), xup_n (show ¬ ((9 : Nat) = 5 ∧ (0 : Int) = 0) by omega), xup_n (show ¬ ((9 : Nat) = 6 ∧ (0 : Int) = 0) by omega), xup_n (show ¬ ((9 : Nat) = 7 ∧ (0 : Int) = 0) by omega), xup_n (show ¬ ((9 : Nat) = 8 ∧ (0 : Int) = 0) by omega), xup_n (show ¬ ((9 : Nat) = 10 ∧ (0 : Int) = 0) by omega), xup_n (show ¬ ((9 : Nat) = 0 ∧ (0 : Int) = 0) by omega)]
    try rfl
  by_cases c9 : k = 10 ∧ n9 = 0
  · rw [c9.1, c9.2]
    simp only [xup_s, xup_n (show ¬ ((10 : Nat) = 1 ∧ (0 : Int) = 0) by omega), xup_n (show ¬ ((10 : Nat) = 2 ∧ (0 : Int) = 0) by omega), xup_n (show ¬ ((10 : Nat) = 3 ∧ (0 : Int) = 0) by omega), xup_n (show ¬ ((10 : Nat) = 4 ∧ (0 : Int) = 0) by omega), xup_n (show ¬ ((10 : Nat) = 5 ∧ (0 : Int) = 0) by omega), xup_n (show ¬ ((10 : Nat) = 6 ∧ (0 : Int) = 0) by omega), xup_n (show ¬ ((10 : Nat) = 7 ∧ (0 : Int) = 0) by omega), xup_n (show ¬ ((10 : Nat) = 8 ∧ (0 : Int) = 0) by omega), xup_n (show ¬ ((10 : Nat) = 9 ∧ (0 : Int) = 0) by omega), xup_n (show ¬ ((10 : Nat) = 0 ∧ (0 : Int) = 0) by omega)]
    try rfl
  by_cases c10 : k = 0 ∧ n9 = 0
  · rw [c10.1, c10.2]
    simp only [xup_s, xup_n (show ¬ ((0 : Nat) = 1 ∧ (0 : Int) = 0) by omega), xup_n (show ¬ ((0 : Nat) = 2 ∧ (0 : Int) = 0) by omega), xup_n (show ¬ ((0 : Nat) = 3 ∧ (0 : Int) = 0) by omega), xup_n (show ¬ ((0 : Nat) = 4 ∧ (0 : Int) = 0) by omega), xup_n (show ¬ ((0 : Nat) = 5 ∧ (0 : Int) = 0) by omega), xup_n (show ¬ ((0 : Nat) = 6 ∧ (0 : Int) = 0) by omega), xup_n (show ¬ ((0 : Nat) = 7 ∧ (0 : Int) = 0) by omega), xup_n (show ¬ ((0 : Nat) = 8 ∧ (0 : Int) = 0) by omega), xup_n (show ¬ ((0 : Nat) = 9 ∧ (0 : Int) = 0) by omega), xup_n (show ¬ ((0 : Nat) = 10 ∧ (0 : Int) = 0) by omega)]
    try rfl
  simp only [xup_n c0, xup_n c1, xup_n c2, xup_n c3, xup_n c4, xup_n c5, xup_n c6, xup_n c7, xup_n c8, xup_n c9, xup_n c10]
  try rfl
set_option maxRecDepth 100000 in
set_option maxHeartbeats 4000000 in
theorem c_X9_init {lc : Launch} (hlc : lc.stackTraces = false) {D : va_G} {Y : Nat → ClassId} {A : Nat → Prop} {g : xG} {ad : xL}  (hg : g 20 (0) = some (.inr (10, [.null, .null, .null, .null, .null, .null, .null, .int (iI 0), .null, .null, .null, .null, .int (iI 0), .null, .null, .null, .null, .null, .int (iI 0), .null, .null, .null, .null, .int (iI 0), .int (iI 0), .int (iI 0), .int (iI 0), .int (iI 0), .int (iI 0), .null, .int (iI 0), .int (iI 0)]))) (hf21_0 : g 21 (0) = none) (hf22_1 : g 22 (0) = none) (hf23_2 : g 23 (0) = none) (hf24_3 : g 24 (0) = none) (hf25_4 : g 25 (0) = none) (hf26_5 : g 26 (0) = none) (hf27_6 : g 27 (0) = none) (hf28_7 : g 28 (0) = none) (hf29_8 : g 29 (0) = none) (hf30_9 : g 30 (0) = none) (hf31_10 : g 31 (0) = none) (hf32_11 : g 32 (0) = none) (hf33_12 : g 33 (0) = none) (hf34_13 : g 34 (0) = none) (hf35_14 : g 35 (0) = none) (hf36_15 : g 36 (0) = none) (hf37_16 : g 37 (0) = none) (hf38_17 : g 38 (0) = none) (hf39_18 : g 39 (0) = none) (hf40_19 : g 40 (0) = none) (hf41_20 : g 41 (0) = none) : Ct lc yX9_init cX9_init 1 none (rmL 0 21 1777) D Y A ad g [.ref (ad 20 (0))] (fun r ad2 g2 => r = none ∧ (∀ k n9, ¬ (21 ≤ k ∧ k ≤ 41 ∧ n9 = 0) → ad2 k n9 = ad k n9) ∧ g2 = xup (xup (xup (xup (xup (xup (xup (xup (xup (xup (xup (xup (xup (xup (xup (xup (xup (xup (xup (xup (xup (xup (g) 21 (0) (.inl (Y 0, 240, .inl (fun _ => iI 0)))) 22 (0) (.inl (Y 0, 3, .inl (fun _ => iI 0)))) 23 (0) (.inl (Y 0, 3, .inl (fun _ => iI 0)))) 24 (0) (.inl (Y 0, 3, .inl (fun _ => iI 0)))) 25 (0) (.inl (Y 0, 240, .inl (fun _ => iI 0)))) 26 (0) (.inl (Y 0, 3, .inl (fun _ => iI 0)))) 27 (0) (.inl (Y 0, 3, .inl (fun _ => iI 0)))) 28 (0) (.inl (Y 0, 8, .inl (fun _ => iI 0)))) 29 (0) (.inl (Y 0, 8, .inl (fun _ => iI 0)))) 30 (0) (.inl (Y 0, 8, .inl (fun _ => iI 0)))) 31 (0) (.inl (Y 1, 8, .inl (fun _ => iI 0)))) 32 (0) (.inl (Y 0, 6, .inl (fun _ => iI 0)))) 33 (0) (.inl (Y 0, 6, .inl (fun _ => iI 0)))) 34 (0) (.inl (Y 0, 6, .inl (fun _ => iI 0)))) 35 (0) (.inl (Y 0, 6, .inl (fun _ => iI 0)))) 36 (0) (.inl (Y 0, 6, .inl (fun _ => iI 0)))) 37 (0) (.inl (Y 0, 18, .inl (fun _ => iI 0)))) 38 (0) (.inl (Y 0, 18, .inl (fun _ => iI 0)))) 39 (0) (.inl (Y 0, 576, .inl (fun _ => iI 0)))) 40 (0) (.inl (Y 0, 576, .inl (fun _ => iI 0)))) 41 (0) (.inl (Y 0, 32, .inl (fun _ => iI 0)))) 20 (0) (.inr (10, [.ref (ad2 21 (0)), .ref (ad2 22 (0)), .ref (ad2 23 (0)), .ref (ad2 24 (0)), .ref (ad2 25 (0)), .ref (ad2 26 (0)), .ref (ad2 27 (0)), .int (iI 0), .ref (ad2 28 (0)), .ref (ad2 29 (0)), .ref (ad2 30 (0)), .ref (ad2 31 (0)), .int (iI 0), .ref (ad2 32 (0)), .ref (ad2 33 (0)), .ref (ad2 34 (0)), .ref (ad2 35 (0)), .ref (ad2 36 (0)), .int (iI 0), .ref (ad2 37 (0)), .ref (ad2 38 (0)), .ref (ad2 39 (0)), .ref (ad2 40 (0)), .int (iI 0), .int (iI 0), .int (iI (-1)), .int (iI 0), .int (iI 0), .int (iI 0), .ref (ad2 41 (0)), .int (iI 0), .int (iI 0)]))) pF := by
  refine Ct_of hlc (by decide +kernel) rfl rfl (own := RX9) (nm := "<init>") (l0 := [some (.ref (ad 20 (0)))]) rfl (Nat.le_of_ble_eq_true rfl) (fun κ C M => ?_)
  refine X_aload_n C rfl dX9_init_0 ?_
  refine X_objInit C oi_X9_1 oi_2 oi_3 (by decide) (by decide) dX9_init_1 ?_
  refine X_aload_n C rfl dX9_init_4 ?_
  refine X_sipush C ⟨by decide, by decide⟩ dX9_init_5 ?_
  refine X_mkI C (k := 21) (n := 0) (N := 240) (by repeat (first | exact xup_s | assumption | rw [xup_n (by omega)])) rfl (by decide) (by decide) (by decide) dX9_init_8 (fun a1 o1 => ?_)
  try rw [← o1 20 (0) (by omega)]
  refine X_putF C M (k := 20) (n := 0) (fs := [.null, .null, .null, .null, .null, .null, .null, .int (iI 0), .null, .null, .null, .null, .int (iI 0), .null, .null, .null, .null, .null, .int (iI 0), .null, .null, .null, .null, .int (iI 0), .int (iI 0), .int (iI 0), .int (iI 0), .int (iI 0), .int (iI 0), .null, .int (iI 0), .int (iI 0)]) (by repeat (first | exact xup_s | assumption | rw [xup_n (by omega)])) ff_X9_7 rfl rfl (Nat.le_of_ble_eq_true rfl) dX9_init_10 ?_
  refine X_aload_n C rfl dX9_init_13 ?_
  refine X_iconst C dX9_init_14 ?_
  refine X_mkI C (k := 22) (n := 0) (N := 3) (by repeat (first | exact xup_s | assumption | rw [xup_n (by omega)])) rfl (by decide) (by decide) (by decide) dX9_init_15 (fun a2 o2 => ?_)
  try rw [← o2 20 (0) (by omega)]
  try rw [← o2 21 (0) (by omega)]
  refine X_putF C M (k := 20) (n := 0) (fs := [.ref (a2 21 (0)), .null, .null, .null, .null, .null, .null, .int (iI 0), .null, .null, .null, .null, .int (iI 0), .null, .null, .null, .null, .null, .int (iI 0), .null, .null, .null, .null, .int (iI 0), .int (iI 0), .int (iI 0), .int (iI 0), .int (iI 0), .int (iI 0), .null, .int (iI 0), .int (iI 0)]) (by repeat (first | exact xup_s | assumption | rw [xup_n (by omega)])) ff_X9_13 rfl rfl (Nat.le_of_ble_eq_true rfl) dX9_init_17 ?_
  refine X_aload_n C rfl dX9_init_20 ?_
  refine X_iconst C dX9_init_21 ?_
  refine X_mkI C (k := 23) (n := 0) (N := 3) (by repeat (first | exact xup_s | assumption | rw [xup_n (by omega)])) rfl (by decide) (by decide) (by decide) dX9_init_22 (fun a3 o3 => ?_)
  try rw [← o3 20 (0) (by omega)]
  try rw [← o3 21 (0) (by omega)]
  try rw [← o3 22 (0) (by omega)]
  refine X_putF C M (k := 20) (n := 0) (fs := [.ref (a3 21 (0)), .ref (a3 22 (0)), .null, .null, .null, .null, .null, .int (iI 0), .null, .null, .null, .null, .int (iI 0), .null, .null, .null, .null, .null, .int (iI 0), .null, .null, .null, .null, .int (iI 0), .int (iI 0), .int (iI 0), .int (iI 0), .int (iI 0), .int (iI 0), .null, .int (iI 0), .int (iI 0)]) (by repeat (first | exact xup_s | assumption | rw [xup_n (by omega)])) ff_X9_16 rfl rfl (Nat.le_of_ble_eq_true rfl) dX9_init_24 ?_
  refine X_aload_n C rfl dX9_init_27 ?_
  refine X_iconst C dX9_init_28 ?_
  refine X_mkI C (k := 24) (n := 0) (N := 3) (by repeat (first | exact xup_s | assumption | rw [xup_n (by omega)])) rfl (by decide) (by decide) (by decide) dX9_init_29 (fun a4 o4 => ?_)
  try rw [← o4 20 (0) (by omega)]
  try rw [← o4 21 (0) (by omega)]
  try rw [← o4 22 (0) (by omega)]
  try rw [← o4 23 (0) (by omega)]
  refine X_putF C M (k := 20) (n := 0) (fs := [.ref (a4 21 (0)), .ref (a4 22 (0)), .ref (a4 23 (0)), .null, .null, .null, .null, .int (iI 0), .null, .null, .null, .null, .int (iI 0), .null, .null, .null, .null, .null, .int (iI 0), .null, .null, .null, .null, .int (iI 0), .int (iI 0), .int (iI 0), .int (iI 0), .int (iI 0), .int (iI 0), .null, .int (iI 0), .int (iI 0)]) (by repeat (first | exact xup_s | assumption | rw [xup_n (by omega)])) ff_X9_19 rfl rfl (Nat.le_of_ble_eq_true rfl) dX9_init_31 ?_
  refine X_aload_n C rfl dX9_init_34 ?_
  refine X_sipush C ⟨by decide, by decide⟩ dX9_init_35 ?_
  refine X_mkI C (k := 25) (n := 0) (N := 240) (by repeat (first | exact xup_s | assumption | rw [xup_n (by omega)])) rfl (by decide) (by decide) (by decide) dX9_init_38 (fun a5 o5 => ?_)
  try rw [← o5 20 (0) (by omega)]
  try rw [← o5 21 (0) (by omega)]
  try rw [← o5 22 (0) (by omega)]
  try rw [← o5 23 (0) (by omega)]
  try rw [← o5 24 (0) (by omega)]
  refine X_putF C M (k := 20) (n := 0) (fs := [.ref (a5 21 (0)), .ref (a5 22 (0)), .ref (a5 23 (0)), .ref (a5 24 (0)), .null, .null, .null, .int (iI 0), .null, .null, .null, .null, .int (iI 0), .null, .null, .null, .null, .null, .int (iI 0), .null, .null, .null, .null, .int (iI 0), .int (iI 0), .int (iI 0), .int (iI 0), .int (iI 0), .int (iI 0), .null, .int (iI 0), .int (iI 0)]) (by repeat (first | exact xup_s | assumption | rw [xup_n (by omega)])) ff_X9_22 rfl rfl (Nat.le_of_ble_eq_true rfl) dX9_init_40 ?_
  refine X_aload_n C rfl dX9_init_43 ?_
  refine X_iconst C dX9_init_44 ?_
  refine X_mkI C (k := 26) (n := 0) (N := 3) (by repeat (first | exact xup_s | assumption | rw [xup_n (by omega)])) rfl (by decide) (by decide) (by decide) dX9_init_45 (fun a6 o6 => ?_)
  try rw [← o6 20 (0) (by omega)]
  try rw [← o6 21 (0) (by omega)]
  try rw [← o6 22 (0) (by omega)]
  try rw [← o6 23 (0) (by omega)]
  try rw [← o6 24 (0) (by omega)]
  try rw [← o6 25 (0) (by omega)]
  refine X_putF C M (k := 20) (n := 0) (fs := [.ref (a6 21 (0)), .ref (a6 22 (0)), .ref (a6 23 (0)), .ref (a6 24 (0)), .ref (a6 25 (0)), .null, .null, .int (iI 0), .null, .null, .null, .null, .int (iI 0), .null, .null, .null, .null, .null, .int (iI 0), .null, .null, .null, .null, .int (iI 0), .int (iI 0), .int (iI 0), .int (iI 0), .int (iI 0), .int (iI 0), .null, .int (iI 0), .int (iI 0)]) (by repeat (first | exact xup_s | assumption | rw [xup_n (by omega)])) ff_X9_25 rfl rfl (Nat.le_of_ble_eq_true rfl) dX9_init_47 ?_
  refine X_aload_n C rfl dX9_init_50 ?_
  refine X_iconst C dX9_init_51 ?_
  refine X_mkI C (k := 27) (n := 0) (N := 3) (by repeat (first | exact xup_s | assumption | rw [xup_n (by omega)])) rfl (by decide) (by decide) (by decide) dX9_init_52 (fun a7 o7 => ?_)
  try rw [← o7 20 (0) (by omega)]
  try rw [← o7 21 (0) (by omega)]
  try rw [← o7 22 (0) (by omega)]
  try rw [← o7 23 (0) (by omega)]
  try rw [← o7 24 (0) (by omega)]
  try rw [← o7 25 (0) (by omega)]
  try rw [← o7 26 (0) (by omega)]
  refine X_putF C M (k := 20) (n := 0) (fs := [.ref (a7 21 (0)), .ref (a7 22 (0)), .ref (a7 23 (0)), .ref (a7 24 (0)), .ref (a7 25 (0)), .ref (a7 26 (0)), .null, .int (iI 0), .null, .null, .null, .null, .int (iI 0), .null, .null, .null, .null, .null, .int (iI 0), .null, .null, .null, .null, .int (iI 0), .int (iI 0), .int (iI 0), .int (iI 0), .int (iI 0), .int (iI 0), .null, .int (iI 0), .int (iI 0)]) (by repeat (first | exact xup_s | assumption | rw [xup_n (by omega)])) ff_X9_28 rfl rfl (Nat.le_of_ble_eq_true rfl) dX9_init_54 ?_
  refine X_aload_n C rfl dX9_init_57 ?_
  refine X_bipush C ⟨by decide, by decide⟩ dX9_init_58 ?_
  refine X_mkI C (k := 28) (n := 0) (N := 8) (by repeat (first | exact xup_s | assumption | rw [xup_n (by omega)])) rfl (by decide) (by decide) (by decide) dX9_init_60 (fun a8 o8 => ?_)
  try rw [← o8 20 (0) (by omega)]
  try rw [← o8 21 (0) (by omega)]
  try rw [← o8 22 (0) (by omega)]
  try rw [← o8 23 (0) (by omega)]
  try rw [← o8 24 (0) (by omega)]
  try rw [← o8 25 (0) (by omega)]
  try rw [← o8 26 (0) (by omega)]
  try rw [← o8 27 (0) (by omega)]
  refine X_putF C M (k := 20) (n := 0) (fs := [.ref (a8 21 (0)), .ref (a8 22 (0)), .ref (a8 23 (0)), .ref (a8 24 (0)), .ref (a8 25 (0)), .ref (a8 26 (0)), .ref (a8 27 (0)), .int (iI 0), .null, .null, .null, .null, .int (iI 0), .null, .null, .null, .null, .null, .int (iI 0), .null, .null, .null, .null, .int (iI 0), .int (iI 0), .int (iI 0), .int (iI 0), .int (iI 0), .int (iI 0), .null, .int (iI 0), .int (iI 0)]) (by repeat (first | exact xup_s | assumption | rw [xup_n (by omega)])) ff_X9_31 rfl rfl (Nat.le_of_ble_eq_true rfl) dX9_init_62 ?_
  refine X_aload_n C rfl dX9_init_65 ?_
  refine X_bipush C ⟨by decide, by decide⟩ dX9_init_66 ?_
  refine X_mkI C (k := 29) (n := 0) (N := 8) (by repeat (first | exact xup_s | assumption | rw [xup_n (by omega)])) rfl (by decide) (by decide) (by decide) dX9_init_68 (fun a9 o9 => ?_)
  try rw [← o9 20 (0) (by omega)]
  try rw [← o9 21 (0) (by omega)]
  try rw [← o9 22 (0) (by omega)]
  try rw [← o9 23 (0) (by omega)]
  try rw [← o9 24 (0) (by omega)]
  try rw [← o9 25 (0) (by omega)]
  try rw [← o9 26 (0) (by omega)]
  try rw [← o9 27 (0) (by omega)]
  try rw [← o9 28 (0) (by omega)]
  refine X_putF C M (k := 20) (n := 0) (fs := [.ref (a9 21 (0)), .ref (a9 22 (0)), .ref (a9 23 (0)), .ref (a9 24 (0)), .ref (a9 25 (0)), .ref (a9 26 (0)), .ref (a9 27 (0)), .int (iI 0), .ref (a9 28 (0)), .null, .null, .null, .int (iI 0), .null, .null, .null, .null, .null, .int (iI 0), .null, .null, .null, .null, .int (iI 0), .int (iI 0), .int (iI 0), .int (iI 0), .int (iI 0), .int (iI 0), .null, .int (iI 0), .int (iI 0)]) (by repeat (first | exact xup_s | assumption | rw [xup_n (by omega)])) ff_X9_34 rfl rfl (Nat.le_of_ble_eq_true rfl) dX9_init_70 ?_
  refine X_aload_n C rfl dX9_init_73 ?_
  refine X_bipush C ⟨by decide, by decide⟩ dX9_init_74 ?_
  refine X_mkI C (k := 30) (n := 0) (N := 8) (by repeat (first | exact xup_s | assumption | rw [xup_n (by omega)])) rfl (by decide) (by decide) (by decide) dX9_init_76 (fun a10 o10 => ?_)
  try rw [← o10 20 (0) (by omega)]
  try rw [← o10 21 (0) (by omega)]
  try rw [← o10 22 (0) (by omega)]
  try rw [← o10 23 (0) (by omega)]
  try rw [← o10 24 (0) (by omega)]
  try rw [← o10 25 (0) (by omega)]
  try rw [← o10 26 (0) (by omega)]
  try rw [← o10 27 (0) (by omega)]
  try rw [← o10 28 (0) (by omega)]
  try rw [← o10 29 (0) (by omega)]
  refine X_putF C M (k := 20) (n := 0) (fs := [.ref (a10 21 (0)), .ref (a10 22 (0)), .ref (a10 23 (0)), .ref (a10 24 (0)), .ref (a10 25 (0)), .ref (a10 26 (0)), .ref (a10 27 (0)), .int (iI 0), .ref (a10 28 (0)), .ref (a10 29 (0)), .null, .null, .int (iI 0), .null, .null, .null, .null, .null, .int (iI 0), .null, .null, .null, .null, .int (iI 0), .int (iI 0), .int (iI 0), .int (iI 0), .int (iI 0), .int (iI 0), .null, .int (iI 0), .int (iI 0)]) (by repeat (first | exact xup_s | assumption | rw [xup_n (by omega)])) ff_X9_37 rfl rfl (Nat.le_of_ble_eq_true rfl) dX9_init_78 ?_
  refine X_aload_n C rfl dX9_init_81 ?_
  refine X_bipush C ⟨by decide, by decide⟩ dX9_init_82 ?_
  refine X_mkZ C (k := 31) (n := 0) (N := 8) (by repeat (first | exact xup_s | assumption | rw [xup_n (by omega)])) rfl (by decide) (by decide) (by decide) dX9_init_84 (fun a11 o11 => ?_)
  try rw [← o11 20 (0) (by omega)]
  try rw [← o11 21 (0) (by omega)]
  try rw [← o11 22 (0) (by omega)]
  try rw [← o11 23 (0) (by omega)]
  try rw [← o11 24 (0) (by omega)]
  try rw [← o11 25 (0) (by omega)]
  try rw [← o11 26 (0) (by omega)]
  try rw [← o11 27 (0) (by omega)]
  try rw [← o11 28 (0) (by omega)]
  try rw [← o11 29 (0) (by omega)]
  try rw [← o11 30 (0) (by omega)]
  refine X_putF C M (k := 20) (n := 0) (fs := [.ref (a11 21 (0)), .ref (a11 22 (0)), .ref (a11 23 (0)), .ref (a11 24 (0)), .ref (a11 25 (0)), .ref (a11 26 (0)), .ref (a11 27 (0)), .int (iI 0), .ref (a11 28 (0)), .ref (a11 29 (0)), .ref (a11 30 (0)), .null, .int (iI 0), .null, .null, .null, .null, .null, .int (iI 0), .null, .null, .null, .null, .int (iI 0), .int (iI 0), .int (iI 0), .int (iI 0), .int (iI 0), .int (iI 0), .null, .int (iI 0), .int (iI 0)]) (by repeat (first | exact xup_s | assumption | rw [xup_n (by omega)])) ff_X9_40 rfl rfl (Nat.le_of_ble_eq_true rfl) dX9_init_86 ?_
  refine X_aload_n C rfl dX9_init_89 ?_
  refine X_bipush C ⟨by decide, by decide⟩ dX9_init_90 ?_
  refine X_mkI C (k := 32) (n := 0) (N := 6) (by repeat (first | exact xup_s | assumption | rw [xup_n (by omega)])) rfl (by decide) (by decide) (by decide) dX9_init_92 (fun a12 o12 => ?_)
  try rw [← o12 20 (0) (by omega)]
  try rw [← o12 21 (0) (by omega)]
  try rw [← o12 22 (0) (by omega)]
  try rw [← o12 23 (0) (by omega)]
  try rw [← o12 24 (0) (by omega)]
  try rw [← o12 25 (0) (by omega)]
  try rw [← o12 26 (0) (by omega)]
  try rw [← o12 27 (0) (by omega)]
  try rw [← o12 28 (0) (by omega)]
  try rw [← o12 29 (0) (by omega)]
  try rw [← o12 30 (0) (by omega)]
  try rw [← o12 31 (0) (by omega)]
  refine X_putF C M (k := 20) (n := 0) (fs := [.ref (a12 21 (0)), .ref (a12 22 (0)), .ref (a12 23 (0)), .ref (a12 24 (0)), .ref (a12 25 (0)), .ref (a12 26 (0)), .ref (a12 27 (0)), .int (iI 0), .ref (a12 28 (0)), .ref (a12 29 (0)), .ref (a12 30 (0)), .ref (a12 31 (0)), .int (iI 0), .null, .null, .null, .null, .null, .int (iI 0), .null, .null, .null, .null, .int (iI 0), .int (iI 0), .int (iI 0), .int (iI 0), .int (iI 0), .int (iI 0), .null, .int (iI 0), .int (iI 0)]) (by repeat (first | exact xup_s | assumption | rw [xup_n (by omega)])) ff_X9_44 rfl rfl (Nat.le_of_ble_eq_true rfl) dX9_init_94 ?_
  refine X_aload_n C rfl dX9_init_97 ?_
  refine X_bipush C ⟨by decide, by decide⟩ dX9_init_98 ?_
  refine X_mkI C (k := 33) (n := 0) (N := 6) (by repeat (first | exact xup_s | assumption | rw [xup_n (by omega)])) rfl (by decide) (by decide) (by decide) dX9_init_100 (fun a13 o13 => ?_)
  try rw [← o13 20 (0) (by omega)]
  try rw [← o13 21 (0) (by omega)]
  try rw [← o13 22 (0) (by omega)]
  try rw [← o13 23 (0) (by omega)]
  try rw [← o13 24 (0) (by omega)]
  try rw [← o13 25 (0) (by omega)]
  try rw [← o13 26 (0) (by omega)]
  try rw [← o13 27 (0) (by omega)]
  try rw [← o13 28 (0) (by omega)]
  try rw [← o13 29 (0) (by omega)]
  try rw [← o13 30 (0) (by omega)]
  try rw [← o13 31 (0) (by omega)]
  try rw [← o13 32 (0) (by omega)]
  refine X_putF C M (k := 20) (n := 0) (fs := [.ref (a13 21 (0)), .ref (a13 22 (0)), .ref (a13 23 (0)), .ref (a13 24 (0)), .ref (a13 25 (0)), .ref (a13 26 (0)), .ref (a13 27 (0)), .int (iI 0), .ref (a13 28 (0)), .ref (a13 29 (0)), .ref (a13 30 (0)), .ref (a13 31 (0)), .int (iI 0), .ref (a13 32 (0)), .null, .null, .null, .null, .int (iI 0), .null, .null, .null, .null, .int (iI 0), .int (iI 0), .int (iI 0), .int (iI 0), .int (iI 0), .int (iI 0), .null, .int (iI 0), .int (iI 0)]) (by repeat (first | exact xup_s | assumption | rw [xup_n (by omega)])) ff_X9_47 rfl rfl (Nat.le_of_ble_eq_true rfl) dX9_init_102 ?_
  refine X_aload_n C rfl dX9_init_105 ?_
  refine X_bipush C ⟨by decide, by decide⟩ dX9_init_106 ?_
  refine X_mkI C (k := 34) (n := 0) (N := 6) (by repeat (first | exact xup_s | assumption | rw [xup_n (by omega)])) rfl (by decide) (by decide) (by decide) dX9_init_108 (fun a14 o14 => ?_)
  try rw [← o14 20 (0) (by omega)]
  try rw [← o14 21 (0) (by omega)]
  try rw [← o14 22 (0) (by omega)]
  try rw [← o14 23 (0) (by omega)]
  try rw [← o14 24 (0) (by omega)]
  try rw [← o14 25 (0) (by omega)]
  try rw [← o14 26 (0) (by omega)]
  try rw [← o14 27 (0) (by omega)]
  try rw [← o14 28 (0) (by omega)]
  try rw [← o14 29 (0) (by omega)]
  try rw [← o14 30 (0) (by omega)]
  try rw [← o14 31 (0) (by omega)]
  try rw [← o14 32 (0) (by omega)]
  try rw [← o14 33 (0) (by omega)]
  refine X_putF C M (k := 20) (n := 0) (fs := [.ref (a14 21 (0)), .ref (a14 22 (0)), .ref (a14 23 (0)), .ref (a14 24 (0)), .ref (a14 25 (0)), .ref (a14 26 (0)), .ref (a14 27 (0)), .int (iI 0), .ref (a14 28 (0)), .ref (a14 29 (0)), .ref (a14 30 (0)), .ref (a14 31 (0)), .int (iI 0), .ref (a14 32 (0)), .ref (a14 33 (0)), .null, .null, .null, .int (iI 0), .null, .null, .null, .null, .int (iI 0), .int (iI 0), .int (iI 0), .int (iI 0), .int (iI 0), .int (iI 0), .null, .int (iI 0), .int (iI 0)]) (by repeat (first | exact xup_s | assumption | rw [xup_n (by omega)])) ff_X9_50 rfl rfl (Nat.le_of_ble_eq_true rfl) dX9_init_110 ?_
  refine X_aload_n C rfl dX9_init_113 ?_
  refine X_bipush C ⟨by decide, by decide⟩ dX9_init_114 ?_
  refine X_mkI C (k := 35) (n := 0) (N := 6) (by repeat (first | exact xup_s | assumption | rw [xup_n (by omega)])) rfl (by decide) (by decide) (by decide) dX9_init_116 (fun a15 o15 => ?_)
  try rw [← o15 20 (0) (by omega)]
  try rw [← o15 21 (0) (by omega)]
  try rw [← o15 22 (0) (by omega)]
  try rw [← o15 23 (0) (by omega)]
  try rw [← o15 24 (0) (by omega)]
  try rw [← o15 25 (0) (by omega)]
  try rw [← o15 26 (0) (by omega)]
  try rw [← o15 27 (0) (by omega)]
  try rw [← o15 28 (0) (by omega)]
  try rw [← o15 29 (0) (by omega)]
  try rw [← o15 30 (0) (by omega)]
  try rw [← o15 31 (0) (by omega)]
  try rw [← o15 32 (0) (by omega)]
  try rw [← o15 33 (0) (by omega)]
  try rw [← o15 34 (0) (by omega)]
  refine X_putF C M (k := 20) (n := 0) (fs := [.ref (a15 21 (0)), .ref (a15 22 (0)), .ref (a15 23 (0)), .ref (a15 24 (0)), .ref (a15 25 (0)), .ref (a15 26 (0)), .ref (a15 27 (0)), .int (iI 0), .ref (a15 28 (0)), .ref (a15 29 (0)), .ref (a15 30 (0)), .ref (a15 31 (0)), .int (iI 0), .ref (a15 32 (0)), .ref (a15 33 (0)), .ref (a15 34 (0)), .null, .null, .int (iI 0), .null, .null, .null, .null, .int (iI 0), .int (iI 0), .int (iI 0), .int (iI 0), .int (iI 0), .int (iI 0), .null, .int (iI 0), .int (iI 0)]) (by repeat (first | exact xup_s | assumption | rw [xup_n (by omega)])) ff_X9_53 rfl rfl (Nat.le_of_ble_eq_true rfl) dX9_init_118 ?_
  refine X_aload_n C rfl dX9_init_121 ?_
  refine X_bipush C ⟨by decide, by decide⟩ dX9_init_122 ?_
  refine X_mkI C (k := 36) (n := 0) (N := 6) (by repeat (first | exact xup_s | assumption | rw [xup_n (by omega)])) rfl (by decide) (by decide) (by decide) dX9_init_124 (fun a16 o16 => ?_)
  try rw [← o16 20 (0) (by omega)]
  try rw [← o16 21 (0) (by omega)]
  try rw [← o16 22 (0) (by omega)]
  try rw [← o16 23 (0) (by omega)]
  try rw [← o16 24 (0) (by omega)]
  try rw [← o16 25 (0) (by omega)]
  try rw [← o16 26 (0) (by omega)]
  try rw [← o16 27 (0) (by omega)]
  try rw [← o16 28 (0) (by omega)]
  try rw [← o16 29 (0) (by omega)]
  try rw [← o16 30 (0) (by omega)]
  try rw [← o16 31 (0) (by omega)]
  try rw [← o16 32 (0) (by omega)]
  try rw [← o16 33 (0) (by omega)]
  try rw [← o16 34 (0) (by omega)]
  try rw [← o16 35 (0) (by omega)]
  refine X_putF C M (k := 20) (n := 0) (fs := [.ref (a16 21 (0)), .ref (a16 22 (0)), .ref (a16 23 (0)), .ref (a16 24 (0)), .ref (a16 25 (0)), .ref (a16 26 (0)), .ref (a16 27 (0)), .int (iI 0), .ref (a16 28 (0)), .ref (a16 29 (0)), .ref (a16 30 (0)), .ref (a16 31 (0)), .int (iI 0), .ref (a16 32 (0)), .ref (a16 33 (0)), .ref (a16 34 (0)), .ref (a16 35 (0)), .null, .int (iI 0), .null, .null, .null, .null, .int (iI 0), .int (iI 0), .int (iI 0), .int (iI 0), .int (iI 0), .int (iI 0), .null, .int (iI 0), .int (iI 0)]) (by repeat (first | exact xup_s | assumption | rw [xup_n (by omega)])) ff_X9_56 rfl rfl (Nat.le_of_ble_eq_true rfl) dX9_init_126 ?_
  refine X_aload_n C rfl dX9_init_129 ?_
  refine X_bipush C ⟨by decide, by decide⟩ dX9_init_130 ?_
  refine X_mkI C (k := 37) (n := 0) (N := 18) (by repeat (first | exact xup_s | assumption | rw [xup_n (by omega)])) rfl (by decide) (by decide) (by decide) dX9_init_132 (fun a17 o17 => ?_)
  try rw [← o17 20 (0) (by omega)]
  try rw [← o17 21 (0) (by omega)]
  try rw [← o17 22 (0) (by omega)]
  try rw [← o17 23 (0) (by omega)]
  try rw [← o17 24 (0) (by omega)]
  try rw [← o17 25 (0) (by omega)]
  try rw [← o17 26 (0) (by omega)]
  try rw [← o17 27 (0) (by omega)]
  try rw [← o17 28 (0) (by omega)]
  try rw [← o17 29 (0) (by omega)]
  try rw [← o17 30 (0) (by omega)]
  try rw [← o17 31 (0) (by omega)]
  try rw [← o17 32 (0) (by omega)]
  try rw [← o17 33 (0) (by omega)]
  try rw [← o17 34 (0) (by omega)]
  try rw [← o17 35 (0) (by omega)]
  try rw [← o17 36 (0) (by omega)]
  refine X_putF C M (k := 20) (n := 0) (fs := [.ref (a17 21 (0)), .ref (a17 22 (0)), .ref (a17 23 (0)), .ref (a17 24 (0)), .ref (a17 25 (0)), .ref (a17 26 (0)), .ref (a17 27 (0)), .int (iI 0), .ref (a17 28 (0)), .ref (a17 29 (0)), .ref (a17 30 (0)), .ref (a17 31 (0)), .int (iI 0), .ref (a17 32 (0)), .ref (a17 33 (0)), .ref (a17 34 (0)), .ref (a17 35 (0)), .ref (a17 36 (0)), .int (iI 0), .null, .null, .null, .null, .int (iI 0), .int (iI 0), .int (iI 0), .int (iI 0), .int (iI 0), .int (iI 0), .null, .int (iI 0), .int (iI 0)]) (by repeat (first | exact xup_s | assumption | rw [xup_n (by omega)])) ff_X9_59 rfl rfl (Nat.le_of_ble_eq_true rfl) dX9_init_134 ?_
  refine X_aload_n C rfl dX9_init_137 ?_
  refine X_bipush C ⟨by decide, by decide⟩ dX9_init_138 ?_
  refine X_mkI C (k := 38) (n := 0) (N := 18) (by repeat (first | exact xup_s | assumption | rw [xup_n (by omega)])) rfl (by decide) (by decide) (by decide) dX9_init_140 (fun a18 o18 => ?_)
  try rw [← o18 20 (0) (by omega)]
  try rw [← o18 21 (0) (by omega)]
  try rw [← o18 22 (0) (by omega)]
  try rw [← o18 23 (0) (by omega)]
  try rw [← o18 24 (0) (by omega)]
  try rw [← o18 25 (0) (by omega)]
  try rw [← o18 26 (0) (by omega)]
  try rw [← o18 27 (0) (by omega)]
  try rw [← o18 28 (0) (by omega)]
  try rw [← o18 29 (0) (by omega)]
  try rw [← o18 30 (0) (by omega)]
  try rw [← o18 31 (0) (by omega)]
  try rw [← o18 32 (0) (by omega)]
  try rw [← o18 33 (0) (by omega)]
  try rw [← o18 34 (0) (by omega)]
  try rw [← o18 35 (0) (by omega)]
  try rw [← o18 36 (0) (by omega)]
  try rw [← o18 37 (0) (by omega)]
  refine X_putF C M (k := 20) (n := 0) (fs := [.ref (a18 21 (0)), .ref (a18 22 (0)), .ref (a18 23 (0)), .ref (a18 24 (0)), .ref (a18 25 (0)), .ref (a18 26 (0)), .ref (a18 27 (0)), .int (iI 0), .ref (a18 28 (0)), .ref (a18 29 (0)), .ref (a18 30 (0)), .ref (a18 31 (0)), .int (iI 0), .ref (a18 32 (0)), .ref (a18 33 (0)), .ref (a18 34 (0)), .ref (a18 35 (0)), .ref (a18 36 (0)), .int (iI 0), .ref (a18 37 (0)), .null, .null, .null, .int (iI 0), .int (iI 0), .int (iI 0), .int (iI 0), .int (iI 0), .int (iI 0), .null, .int (iI 0), .int (iI 0)]) (by repeat (first | exact xup_s | assumption | rw [xup_n (by omega)])) ff_X9_62 rfl rfl (Nat.le_of_ble_eq_true rfl) dX9_init_142 ?_
  refine X_aload_n C rfl dX9_init_145 ?_
  refine X_sipush C ⟨by decide, by decide⟩ dX9_init_146 ?_
  refine X_mkI C (k := 39) (n := 0) (N := 576) (by repeat (first | exact xup_s | assumption | rw [xup_n (by omega)])) rfl (by decide) (by decide) (by decide) dX9_init_149 (fun a19 o19 => ?_)
  try rw [← o19 20 (0) (by omega)]
  try rw [← o19 21 (0) (by omega)]
  try rw [← o19 22 (0) (by omega)]
  try rw [← o19 23 (0) (by omega)]
  try rw [← o19 24 (0) (by omega)]
  try rw [← o19 25 (0) (by omega)]
  try rw [← o19 26 (0) (by omega)]
  try rw [← o19 27 (0) (by omega)]
  try rw [← o19 28 (0) (by omega)]
  try rw [← o19 29 (0) (by omega)]
  try rw [← o19 30 (0) (by omega)]
  try rw [← o19 31 (0) (by omega)]
  try rw [← o19 32 (0) (by omega)]
  try rw [← o19 33 (0) (by omega)]
  try rw [← o19 34 (0) (by omega)]
  try rw [← o19 35 (0) (by omega)]
  try rw [← o19 36 (0) (by omega)]
  try rw [← o19 37 (0) (by omega)]
  try rw [← o19 38 (0) (by omega)]
  refine X_putF C M (k := 20) (n := 0) (fs := [.ref (a19 21 (0)), .ref (a19 22 (0)), .ref (a19 23 (0)), .ref (a19 24 (0)), .ref (a19 25 (0)), .ref (a19 26 (0)), .ref (a19 27 (0)), .int (iI 0), .ref (a19 28 (0)), .ref (a19 29 (0)), .ref (a19 30 (0)), .ref (a19 31 (0)), .int (iI 0), .ref (a19 32 (0)), .ref (a19 33 (0)), .ref (a19 34 (0)), .ref (a19 35 (0)), .ref (a19 36 (0)), .int (iI 0), .ref (a19 37 (0)), .ref (a19 38 (0)), .null, .null, .int (iI 0), .int (iI 0), .int (iI 0), .int (iI 0), .int (iI 0), .int (iI 0), .null, .int (iI 0), .int (iI 0)]) (by repeat (first | exact xup_s | assumption | rw [xup_n (by omega)])) ff_X9_65 rfl rfl (Nat.le_of_ble_eq_true rfl) dX9_init_151 ?_
  refine X_aload_n C rfl dX9_init_154 ?_
  refine X_sipush C ⟨by decide, by decide⟩ dX9_init_155 ?_
  refine X_mkI C (k := 40) (n := 0) (N := 576) (by repeat (first | exact xup_s | assumption | rw [xup_n (by omega)])) rfl (by decide) (by decide) (by decide) dX9_init_158 (fun a20 o20 => ?_)
  try rw [← o20 20 (0) (by omega)]
  try rw [← o20 21 (0) (by omega)]
  try rw [← o20 22 (0) (by omega)]
  try rw [← o20 23 (0) (by omega)]
  try rw [← o20 24 (0) (by omega)]
  try rw [← o20 25 (0) (by omega)]
  try rw [← o20 26 (0) (by omega)]
  try rw [← o20 27 (0) (by omega)]
  try rw [← o20 28 (0) (by omega)]
  try rw [← o20 29 (0) (by omega)]
  try rw [← o20 30 (0) (by omega)]
  try rw [← o20 31 (0) (by omega)]
  try rw [← o20 32 (0) (by omega)]
  try rw [← o20 33 (0) (by omega)]
  try rw [← o20 34 (0) (by omega)]
  try rw [← o20 35 (0) (by omega)]
  try rw [← o20 36 (0) (by omega)]
  try rw [← o20 37 (0) (by omega)]
  try rw [← o20 38 (0) (by omega)]
  try rw [← o20 39 (0) (by omega)]
  refine X_putF C M (k := 20) (n := 0) (fs := [.ref (a20 21 (0)), .ref (a20 22 (0)), .ref (a20 23 (0)), .ref (a20 24 (0)), .ref (a20 25 (0)), .ref (a20 26 (0)), .ref (a20 27 (0)), .int (iI 0), .ref (a20 28 (0)), .ref (a20 29 (0)), .ref (a20 30 (0)), .ref (a20 31 (0)), .int (iI 0), .ref (a20 32 (0)), .ref (a20 33 (0)), .ref (a20 34 (0)), .ref (a20 35 (0)), .ref (a20 36 (0)), .int (iI 0), .ref (a20 37 (0)), .ref (a20 38 (0)), .ref (a20 39 (0)), .null, .int (iI 0), .int (iI 0), .int (iI 0), .int (iI 0), .int (iI 0), .int (iI 0), .null, .int (iI 0), .int (iI 0)]) (by repeat (first | exact xup_s | assumption | rw [xup_n (by omega)])) ff_X9_68 rfl rfl (Nat.le_of_ble_eq_true rfl) dX9_init_160 ?_
  refine X_aload_n C rfl dX9_init_163 ?_
  refine X_iconst C dX9_init_164 ?_
  refine X_put C (k := 20) (n := 0) (fs := [.ref (a20 21 (0)), .ref (a20 22 (0)), .ref (a20 23 (0)), .ref (a20 24 (0)), .ref (a20 25 (0)), .ref (a20 26 (0)), .ref (a20 27 (0)), .int (iI 0), .ref (a20 28 (0)), .ref (a20 29 (0)), .ref (a20 30 (0)), .ref (a20 31 (0)), .int (iI 0), .ref (a20 32 (0)), .ref (a20 33 (0)), .ref (a20 34 (0)), .ref (a20 35 (0)), .ref (a20 36 (0)), .int (iI 0), .ref (a20 37 (0)), .ref (a20 38 (0)), .ref (a20 39 (0)), .ref (a20 40 (0)), .int (iI 0), .int (iI 0), .int (iI 0), .int (iI 0), .int (iI 0), .int (iI 0), .null, .int (iI 0), .int (iI 0)]) (by repeat (first | exact xup_s | assumption | rw [xup_n (by omega)])) fw_X9_71 rfl rfl (Nat.le_of_ble_eq_true rfl) dX9_init_165 ?_
  refine X_aload_n C rfl dX9_init_168 ?_
  refine X_bipush C ⟨by decide, by decide⟩ dX9_init_169 ?_
  refine X_mkI C (k := 41) (n := 0) (N := 32) (by repeat (first | exact xup_s | assumption | rw [xup_n (by omega)])) rfl (by decide) (by decide) (by decide) dX9_init_171 (fun a21 o21 => ?_)
  try rw [← o21 20 (0) (by omega)]
  try rw [← o21 21 (0) (by omega)]
  try rw [← o21 22 (0) (by omega)]
  try rw [← o21 23 (0) (by omega)]
  try rw [← o21 24 (0) (by omega)]
  try rw [← o21 25 (0) (by omega)]
  try rw [← o21 26 (0) (by omega)]
  try rw [← o21 27 (0) (by omega)]
  try rw [← o21 28 (0) (by omega)]
  try rw [← o21 29 (0) (by omega)]
  try rw [← o21 30 (0) (by omega)]
  try rw [← o21 31 (0) (by omega)]
  try rw [← o21 32 (0) (by omega)]
  try rw [← o21 33 (0) (by omega)]
  try rw [← o21 34 (0) (by omega)]
  try rw [← o21 35 (0) (by omega)]
  try rw [← o21 36 (0) (by omega)]
  try rw [← o21 37 (0) (by omega)]
  try rw [← o21 38 (0) (by omega)]
  try rw [← o21 39 (0) (by omega)]
  try rw [← o21 40 (0) (by omega)]
  refine X_putF C M (k := 20) (n := 0) (fs := [.ref (a21 21 (0)), .ref (a21 22 (0)), .ref (a21 23 (0)), .ref (a21 24 (0)), .ref (a21 25 (0)), .ref (a21 26 (0)), .ref (a21 27 (0)), .int (iI 0), .ref (a21 28 (0)), .ref (a21 29 (0)), .ref (a21 30 (0)), .ref (a21 31 (0)), .int (iI 0), .ref (a21 32 (0)), .ref (a21 33 (0)), .ref (a21 34 (0)), .ref (a21 35 (0)), .ref (a21 36 (0)), .int (iI 0), .ref (a21 37 (0)), .ref (a21 38 (0)), .ref (a21 39 (0)), .ref (a21 40 (0)), .int (iI 0), .int (iI 0), .int (iI (-1)), .int (iI 0), .int (iI 0), .int (iI 0), .null, .int (iI 0), .int (iI 0)]) (by repeat (first | exact xup_s | assumption | rw [xup_n (by omega)])) ff_X9_75 rfl rfl (Nat.le_of_ble_eq_true rfl) dX9_init_173 ?_
  refine X_return C M (by decide) (by decide) dX9_init_176 ⟨rfl, (by intro k n9 h9; rw [o21 k n9 (by omega)]; rw [o20 k n9 (by omega)]; rw [o19 k n9 (by omega)]; rw [o18 k n9 (by omega)]; rw [o17 k n9 (by omega)]; rw [o16 k n9 (by omega)]; rw [o15 k n9 (by omega)]; rw [o14 k n9 (by omega)]; rw [o13 k n9 (by omega)]; rw [o12 k n9 (by omega)]; rw [o11 k n9 (by omega)]; rw [o10 k n9 (by omega)]; rw [o9 k n9 (by omega)]; rw [o8 k n9 (by omega)]; rw [o7 k n9 (by omega)]; rw [o6 k n9 (by omega)]; rw [o5 k n9 (by omega)]; rw [o4 k n9 (by omega)]; rw [o3 k n9 (by omega)]; rw [o2 k n9 (by omega)]; rw [o1 k n9 (by omega)]), ?_⟩
  funext k n9
  by_cases c0 : k = 21 ∧ n9 = 0
  · rw [c0.1, c0.2]
    simp only [xup_s, xup_n (show ¬ ((21 : Nat) = 22 ∧ (0 : Int) = 0) by omega), xup_n (show ¬ ((21 : Nat) = 23 ∧ (0 : Int) = 0) by omega), xup_n (show ¬ ((21 : Nat) = 24 ∧ (0 : Int) = 0) by omega), xup_n (show ¬ ((21 : Nat) = 25 ∧ (0 : Int) = 0) by omega), xup_n (show ¬ ((21 : Nat) = 26 ∧ (0 : Int) = 0) by omega), xup_n (show ¬ ((21 : Nat) = 27 ∧ (0 : Int) = 0) by omega), xup_n (show ¬ ((21 : Nat) = 28 ∧ (0 : Int) = 0) by omega), xup_n (show ¬ ((21 : Nat) = 29 ∧ (0 : Int) = 0) by omega), xup_n (show ¬ ((21 : Nat) = 30 ∧ (0 : Int) = 0) by omega), xup_n (show ¬ ((21 : Nat) = 31 ∧ (0 : Int) = 0) by omega), xup_n (show ¬ ((21 : Nat) = 32 ∧ (0 : Int) = 0) by omega), xup_n (show ¬ ((21 : Nat) = 33 ∧ (0 : Int) = 0) by omega), xup_n (show ¬ ((21 : Nat) = 34 ∧ (0 : Int) = 0) by omega), xup_n (show ¬ ((21 : Nat) = 35 ∧ (0 : Int) = 0) by omega), xup_n (show ¬ ((21 : Nat) = 36 ∧ (0 : Int) = 0) by omega), xup_n (show ¬ ((21 : Nat) = 37 ∧ (0 : Int) = 0) by omega), xup_n (show ¬ ((21 : Nat) = 38 ∧ (0 : Int) = 0) by omega), xup_n (show ¬ ((21 : Nat) = 39 ∧ (0 : Int) = 0) by omega), xup_n (show ¬ ((21 : Nat) = 40 ∧ (0 : Int) = 0) by omega), xup_n (show ¬ ((21 : Nat) = 41 ∧ (0 : Int) = 0) by omega), xup_n (show ¬ ((21 : Nat) = 20 ∧ (0 : Int) = 0) by omega)]
    try rfl
  by_cases c1 : k = 22 ∧ n9 = 0
  · rw [c1.1, c1.2]
    simp only [xup_s, xup_n (show ¬ ((22 : Nat) = 21 ∧ (0 : Int) = 0) by omega), xup_n (show ¬ ((22 : Nat) = 23 ∧ (0 : Int) = 0) by omega), xup_n (show ¬ ((22 : Nat) = 24 ∧ (0 : Int) = 0) by omega), xup_n (show ¬ ((22 : Nat) = 25 ∧ (0 : Int) = 0) by omega), xup_n (show ¬ ((22 : Nat) = 26 ∧ (0 : Int) = 0) by omega), xup_n (show ¬ ((22 : Nat) = 27 ∧ (0 : Int) = 0) by omega), xup_n (show ¬ ((22 : Nat) = 28 ∧ (0 : Int) = 0) by omega), xup_n (show ¬ ((22 : Nat) = 29 ∧ (0 : Int) = 0) by omega), xup_n (show ¬ ((22 : Nat) = 30 ∧ (0 : Int) = 0) by omega), xup_n (show ¬ ((22 : Nat) = 31 ∧ (0 : Int) = 0) by omega), xup_n (show ¬ ((22 : Nat) = 32 ∧ (0 : Int) = 0) by omega), xup_n (show ¬ ((22 : Nat) = 33 ∧ (0 : Int) = 0) by omega), xup_n (show ¬ ((22 : Nat) = 34 ∧ (0 : Int) = 0) by omega), xup_n (show ¬ ((22 : Nat) = 35 ∧ (0 : Int) = 0) by omega), xup_n (show ¬ ((22 : Nat) = 36 ∧ (0 : Int) = 0) by omega), xup_n (show ¬ ((22 : Nat) = 37 ∧ (0 : Int) = 0) by omega), xup_n (show ¬ ((22 : Nat) = 38 ∧ (0 : Int) = 0) by omega), xup_n (show ¬ ((22 : Nat) = 39 ∧ (0 : Int) = 0) by omega), xup_n (show ¬ ((22 : Nat) = 40 ∧ (0 : Int) = 0) by omega), xup_n (show ¬ ((22 : Nat) = 41 ∧ (0 : Int) = 0) by omega), xup_n (show ¬ ((22 : Nat) = 20 ∧ (0 : Int) = 0) by omega)]
    try rfl
  by_cases c2 : k = 23 ∧ n9 = 0
  · rw [c2.1, c2.2]
    simp only [xup_s, xup_n (show ¬ ((23 : Nat) = 21 ∧ (0 : Int) = 0) by omega), xup_n (show ¬ ((23 : Nat) = 22 ∧ (0 : Int) = 0) by omega), xup_n (show ¬ ((23 : Nat) = 24 ∧ (0 : Int) = 0) by omega), xup_n (show ¬ ((23 : Nat) = 25 ∧ (0 : Int) = 0) by omega), xup_n (show ¬ ((23 : Nat) = 26 ∧ (0 : Int) = 0) by omega), xup_n (show ¬ ((23 : Nat) = 27 ∧ (0 : Int) = 0) by omega), xup_n (show ¬ ((23 : Nat) = 28 ∧ (0 : Int) = 0) by omega), xup_n (show ¬ ((23 : Nat) = 29 ∧ (0 : Int) = 0) by omega), xup_n (show ¬ ((23 : Nat) = 30 ∧ (0 : Int) = 0) by omega), xup_n (show ¬ ((23 : Nat) = 31 ∧ (0 : Int) = 0) by omega), xup_n (show ¬ ((23 : Nat) = 32 ∧ (0 : Int) = 0) by omega), xup_n (show ¬ ((23 : Nat) = 33 ∧ (0 : Int) = 0) by omega), xup_n (show ¬ ((23 : Nat) = 34 ∧ (0 : Int) = 0) by omega), xup_n (show ¬ ((23 : Nat) = 35 ∧ (0 : Int) = 0) by omega), xup_n (show ¬ ((23 : Nat) = 36 ∧ (0 : Int) = 0) by omega), xup_n (show ¬ ((23 : Nat) = 37 ∧ (0 : Int) = 0) by omega), xup_n (show ¬ ((23 : Nat) = 38 ∧ (0 : Int) = 0) by omega), xup_n (show ¬ ((23 : Nat) = 39 ∧ (0 : Int) = 0) by omega), xup_n (show ¬ ((23 : Nat) = 40 ∧ (0 : Int) = 0) by omega), xup_n (show ¬ ((23 : Nat) = 41 ∧ (0 : Int) = 0) by omega), xup_n (show ¬ ((23 : Nat) = 20 ∧ (0 : Int) = 0) by omega)]
    try rfl
  by_cases c3 : k = 24 ∧ n9 = 0
  · rw [c3.1, c3.2]
    simp only [xup_s, xup_n (show ¬ ((24 : Nat) = 21 ∧ (0 : Int) = 0) by omega), xup_n (show ¬ ((24 : Nat) = 22 ∧ (0 : Int) = 0) by omega), xup_n (show ¬ ((24 : Nat) = 23 ∧ (0 : Int) = 0) by omega), xup_n (show ¬ ((24 : Nat) = 25 ∧ (0 : Int) = 0) by omega), xup_n (show ¬ ((24 : Nat) = 26 ∧ (0 : Int) = 0) by omega), xup_n (show ¬ ((24 : Nat) = 27 ∧ (0 : Int) = 0) by omega), xup_n (show ¬ ((24 : Nat) = 28 ∧ (0 : Int) = 0) by omega), xup_n (show ¬ ((24 : Nat) = 29 ∧ (0 : Int) = 0) by omega), xup_n (show ¬ ((24 : Nat) = 30 ∧ (0 : Int) = 0) by omega), xup_n (show ¬ ((24 : Nat) = 31 ∧ (0 : Int) = 0) by omega), xup_n (show ¬ ((24 : Nat) = 32 ∧ (0 : Int) = 0) by omega), xup_n (show ¬ ((24 : Nat) = 33 ∧ (0 : Int) = 0) by omega), xup_n (show ¬ ((24 : Nat) = 34 ∧ (0 : Int) = 0) by omega), xup_n (show ¬ ((24 : Nat) = 35 ∧ (0 : Int) = 0) by omega), xup_n (show ¬ ((24 : Nat) = 36 ∧ (0 : Int) = 0) by omega), xup_n (show ¬ ((24 : Nat) = 37 ∧ (0 : Int) = 0) by omega), xup_n (show ¬ ((24 : Nat) = 38 ∧ (0 : Int) = 0) by omega), xup_n (show ¬ ((24 : Nat) = 39 ∧ (0 : Int) = 0) by omega), xup_n (show ¬ ((24 : Nat) = 40 ∧ (0 : Int) = 0) by omega), xup_n (show ¬ ((24 : Nat) = 41 ∧ (0 : Int) = 0) by omega), xup_n (show ¬ ((24 : Nat) = 20 ∧ (0 : Int) = 0) by omega)]
    try rfl
  by_cases c4 : k = 25 ∧ n9 = 0
  · rw [c4.1, c4.2]
    simp only [xup_s, xup_n (show ¬ ((25 : Nat) = 21 ∧ (0 : Int) = 0) by omega), xup_n (show ¬ ((25 : Nat) = 22 ∧ (0 : Int) = 0) by omega), xup_n (show ¬ ((25 : Nat) = 23 ∧ (0 : Int) = 0) by omega), xup_n (show ¬ ((25 : Nat) = 24 ∧ (0 : Int) = 0) by omega), xup_n (show ¬ ((25 : Nat) = 26 ∧ (0 : Int) = 0) by omega), xup_n (show ¬ ((25 : Nat) = 27 ∧ (0 : Int) = 0) by omega), xup_n (show ¬ ((25 : Nat) = 28 ∧ (0 : Int) = 0) by omega), xup_n (show ¬ ((25 : Nat) = 29 ∧ (0 : Int) = 0) by omega), xup_n (show ¬ ((25 : Nat) = 30 ∧ (0 : Int) = 0) by omega), xup_n (show ¬ ((25 : Nat) = 31 ∧ (0 : Int) = 0) by omega), xup_n (show ¬ ((25 : Nat) = 32 ∧ (0 : Int) = 0) by omega), xup_n (show ¬ ((25 : Nat) = 33 ∧ (0 : Int) = 0) by omega), xup_n (show ¬ ((25 : Nat) = 34 ∧ (0 : Int) = 0) by omega), xup_n (show ¬ ((25 : Nat) = 35 ∧ (0 : Int) = 0) by omega), xup_n (show ¬ ((25 : Nat) = 36 ∧ (0 : Int) = 0) by omega), xup_n (show ¬ ((25 : Nat) = 37 ∧ (0 : Int) = 0) by omega), xup_n (show ¬ ((25 : Nat) = 38 ∧ (0 : Int) = 0) by omega), xup_n (show ¬ ((25 : Nat) = 39 ∧ (0 : Int) = 0) by omega), xup_n (show ¬ ((25 : Nat) = 40 ∧ (0 : Int) = 0) by omega), xup_n (show ¬ ((25 : Nat) = 41 ∧ (0 : Int) = 0) by omega), xup_n (show ¬ ((25 : Nat) = 20 ∧ (0 : Int) = 0) by omega)]
    try rfl
  by_cases c5 : k = 26 ∧ n9 = 0
  · rw [c5.1, c5.2]
    simp only [xup_s, xup_n (show ¬ ((26 : Nat) = 21 ∧ (0 : Int) = 0) by omega), xup_n (show ¬ ((26 : Nat) = 22 ∧ (0 : Int) = 0) by omega), xup_n (show ¬ ((26 : Nat) = 23 ∧ (0 : Int) = 0) by omega), xup_n (show ¬ ((26 : Nat) = 24 ∧ (0 : Int) = 0) by omega), xup_n (show ¬ ((26 : Nat) = 25 ∧ (0 : Int) = 0) by omega), xup_n (show ¬ ((26 : Nat) = 27 ∧ (0 : Int) = 0) by omega), xup_n (show ¬ ((26 : Nat) = 28 ∧ (0 : Int) = 0) by omega), xup_n (show ¬ ((26 : Nat) = 29 ∧ (0 : Int) = 0) by omega), xup_n (show ¬ ((26 : Nat) = 30 ∧ (0 : Int) = 0) by omega), xup_n (show ¬ ((26 : Nat) = 31 ∧ (0 : Int) = 0) by omega), xup_n (show ¬ ((26 : Nat) = 32 ∧ (0 : Int) = 0) by omega), xup_n (show ¬ ((26 : Nat) = 33 ∧ (0 : Int) = 0) by omega), xup_n (show ¬ ((26 : Nat) = 34 ∧ (0 : Int) = 0) by omega), xup_n (show ¬ ((26 : Nat) = 35 ∧ (0 : Int) = 0) by omega), xup_n (show ¬ ((26 : Nat) = 36 ∧ (0 : Int) = 0) by omega), xup_n (show ¬ ((26 : Nat) = 37 ∧ (0 : Int) = 0) by omega), xup_n (show ¬ ((26 : Nat) = 38 ∧ (0 : Int) = 0) by omega), xup_n (show ¬ ((26 : Nat) = 39 ∧ (0 : Int) = 0) by omega), xup_n (show ¬ ((26 : Nat) = 40 ∧ (0 : Int) = 0) by omega), xup_n (show ¬ ((26 : Nat) = 41 ∧ (0 : Int) = 0) by omega), xup_n (show ¬ ((26 : Nat) = 20 ∧ (0 : Int) = 0) by omega)]
    try rfl
  by_cases c6 : k = 27 ∧ n9 = 0
  · rw [c6.1, c6.2]
    simp only [xup_s, xup_n (show ¬ ((27 : Nat) = 21 ∧ (0 : Int) = 0) by omega), xup_n (show ¬ ((27 : Nat) = 22 ∧ (0 : Int) = 0) by omega), xup_n (show ¬ ((27 : Nat) = 23 ∧ (0 : Int) = 0) by omega), xup_n (show ¬ ((27 : Nat) = 24 ∧ (0 : Int) = 0) by omega), xup_n (show ¬ ((27 : Nat) = 25 ∧ (0 : Int) = 0) by omega), xup_n (show ¬ ((27 : Nat) = 26 ∧ (0 : Int) = 0) by omega), xup_n (show ¬ ((27 : Nat) = 28 ∧ (0 : Int) = 0) by omega), xup_n (show ¬ ((27 : Nat) = 29 ∧ (0 : Int) = 0) by omega), xup_n (show ¬ ((27 : Nat) = 30 ∧ (0 : Int) = 0) by omega), xup_n (show ¬ ((27 : Nat) = 31 ∧ (0 : Int) = 0) by omega), xup_n (show ¬ ((27 : Nat) = 32 ∧ (0 : Int) = 0) by omega), xup_n (show ¬ ((27 : Nat) = 33 ∧ (0 : Int) = 0) by omega), xup_n (show ¬ ((27 : Nat) = 34 ∧ (0 : Int) = 0) by omega), xup_n (show ¬ ((27 : Nat) = 35 ∧ (0 : Int) = 0) by omega), xup_n (show ¬ ((27 : Nat) = 36 ∧ (0 : Int) = 0) by omega), xup_n (show ¬ ((27 : Nat) = 37 ∧ (0 : Int) = 0) by omega), xup_n (show ¬ ((27 : Nat) = 38 ∧ (0 : Int) = 0) by omega), xup_n (show ¬ ((27 : Nat) = 39 ∧ (0 : Int) = 0) by omega), xup_n (show ¬ ((27 : Nat) = 40 ∧ (0 : Int) = 0) by omega), xup_n (show ¬ ((27 : Nat) = 41 ∧ (0 : Int) = 0) by omega), xup_n (show ¬ ((27 : Nat) = 20 ∧ (0 : Int) = 0) by omega)]
    try rfl
  by_cases c7 : k = 28 ∧ n9 = 0
  · rw [c7.1, c7.2]
    simp only [xup_s, xup_n (show ¬ ((28 : Nat) = 21 ∧ (0 : Int) = 0) by omega), xup_n (show ¬ ((28 : Nat) = 22 ∧ (0 : Int) = 0) by omega), xup_n (show ¬ ((28 : Nat) = 23 ∧ (0 : Int) = 0) by omega), xup_n (show ¬ ((28 : Nat) = 24 ∧ (0 : Int) = 0) by omega), xup_n (show ¬ ((28 : Nat) = 25 ∧ (0 : Int) = 0) by omega), xup_n (show ¬ ((28 : Nat) = 26 ∧ (0 : Int) = 0) by omega), xup_n (show ¬ ((28 : Nat) = 27 ∧ (0 : Int) = 0) by omega), xup_n (show ¬ ((28 : Nat) = 29 ∧ (0 : Int) = 0) by omega), xup_n (show ¬ ((28 : Nat) = 30 ∧ (0 : Int) = 0) by omega), xup_n (show ¬ ((28 : Nat) = 31 ∧ (0 : Int) = 0) by omega), xup_n (show ¬ ((28 : Nat) = 32 ∧ (0 : Int) = 0) by omega), xup_n (show ¬ ((28 : Nat) = 33 ∧ (0 : Int) = 0) by omega), xup_n (show ¬ ((28 : Nat) = 34 ∧ (0 : Int) = 0) by omega), xup_n (show ¬ ((28 : Nat) = 35 ∧ (0 : Int) = 0) by omega), xup_n (show ¬ ((28 : Nat) = 36 ∧ (0 : Int) = 0) by omega), xup_n (show ¬ ((28 : Nat) = 37 ∧ (0 : Int) = 0) by omega), xup_n (show ¬ ((28 : Nat) = 38 ∧ (0 : Int) = 0) by omega), xup_n (show ¬ ((28 : Nat) = 39 ∧ (0 : Int) = 0) by omega), xup_n (show ¬ ((28 : Nat) = 40 ∧ (0 : Int) = 0) by omega), xup_n (show ¬ ((28 : Nat) = 41 ∧ (0 : Int) = 0) by omega), xup_n (show ¬ ((28 : Nat) = 20 ∧ (0 : Int) = 0) by omega)]
    try rfl
  by_cases c8 : k = 29 ∧ n9 = 0
  · rw [c8.1, c8.2]
    simp only [xup_s, xup_n (show ¬ ((29 : Nat) = 21 ∧ (0 : Int) = 0) by omega), xup_n (show ¬ ((29 : Nat) = 22 ∧ (0 : Int) = 0) by omega), xup_n (show ¬ ((29 : Nat) = 23 ∧ (0 : Int) = 0) by omega), xup_n (show ¬ ((29 : Nat) = 24 ∧ (0 : Int) = 0) by omega), xup_n (show ¬ ((29 : Nat) = 25 ∧ (0 : Int) = 0) by omega), xup_n (show ¬ ((29 : Nat) = 26 ∧ (0 : Int) = 0) by omega), xup_n (show ¬ ((29 : Nat) = 27 ∧ (0 : Int) = 0) by omega), xup_n (show ¬ ((29 : Nat) = 28 ∧ (0 : Int) = 0) by omega), xup_n (show ¬ ((29 : Nat) = 30 ∧ (0 : Int) = 0) by omega), xup_n (show ¬ ((29 : Nat) = 31 ∧ (0 : Int) = 0) by omega), xup_n (show ¬ ((29 : Nat) = 32 ∧ (0 : Int) = 0) by omega), xup_n (show ¬ ((29 : Nat) = 33 ∧ (0 : Int) = 0) by omega), xup_n (show ¬ ((29 : Nat) = 34 ∧ (0 : Int) = 0) by omega), xup_n (show ¬ ((29 : Nat) = 35 ∧ (0 : Int) = 0) by omega), xup_n (show ¬ ((29 : Nat) = 36 ∧ (0 : Int) = 0) by omega), xup_n (show ¬ ((29 : Nat) = 37 ∧ (0 : Int) = 0) by omega), xup_n (show ¬ ((29 : Nat) = 38 ∧ (0 : Int) = 0) by omega), xup_n (show ¬ ((29 : Nat) = 39 ∧ (0 : Int) = 0) by omega), xup_n (show ¬ ((29 : Nat) = 40 ∧ (0 : Int) = 0) by omega), xup_n (show ¬ ((29 : Nat) = 41 ∧ (0 : Int) = 0) by omega), xup_n (show ¬ ((29 : Nat) = 20 ∧ (0 : Int) = 0) by omega)]
    try rfl
  by_cases c9 : k = 30 ∧ n9 = 0
  · rw [c9.1, c9.2]
    simp only [xup_s, xup_n (show ¬ ((30 : Nat) = 21 ∧ (0 : Int) = 0) by omega), xup_n (show ¬ ((30 : Nat) = 22 ∧ (0 : Int) = 0) by omega), xup_n (show ¬ ((30 : Nat) = 23 ∧ (0 : Int) = 0) by omega), xup_n (show ¬ ((30 : Nat) = 24 ∧ (0 : Int) = 0) by omega), xup_n (show ¬ ((30 : Nat) = 25 ∧ (0 : Int) = 0) by omega), xup_n (show ¬ ((30 : Nat) = 26 ∧ (0 : Int) = 0) by omega), xup_n (show ¬ ((30 : Nat) = 27 ∧ (0 : Int) = 0) by omega), xup_n (show ¬ ((30 : Nat) = 28 ∧ (0 : Int) = 0) by omega), xup_n (show ¬ ((30 : Nat) = 29 ∧ (0 : Int) = 0) by omega), xup_n (show ¬ ((30 : Nat) = 31 ∧ (0 : Int) = 0) by omega), xup_n (show ¬ ((30 : Nat) = 32 ∧ (0 : Int) = 0) by omega), xup_n (show ¬ ((30 : Nat) = 33 ∧ (0 : Int) = 0) by omega), xup_n (show ¬ ((30 : Nat) = 34 ∧ (0 : Int) = 0) by omega), xup_n (show ¬ ((30 : Nat) = 35 ∧ (0 : Int) = 0) by omega), xup_n (show ¬ ((30 : Nat) = 36 ∧ (0 : Int) = 0) by omega), xup_n (show ¬ ((30 : Nat) = 37 ∧ (0 : Int) = 0) by omega), xup_n (show ¬ ((30 : Nat) = 38 ∧ (0 : Int) = 0) by omega), xup_n (show ¬ ((30 : Nat) = 39 ∧ (0 : Int) = 0) by omega), xup_n (show ¬ ((30 : Nat) = 40 ∧ (0 : Int) = 0) by omega), xup_n (show ¬ ((30 : Nat) = 41 ∧ (0 : Int) = 0) by omega), xup_n (show ¬ ((30 : Nat) = 20 ∧ (0 : Int) = 0) by omega)]
    try rfl
  by_cases c10 : k = 31 ∧ n9 = 0
  · rw [c10.1, c10.2]
    simp only [xup_s, xup_n (show ¬ ((31 : Nat) = 21 ∧ (0 : Int) = 0) by omega), xup_n (show ¬ ((31 : Nat) = 22 ∧ (0 : Int) = 0) by omega), xup_n (show ¬ ((31 : Nat) = 23 ∧ (0 : Int) = 0) by omega), xup_n (show ¬ ((31 : Nat) = 24 ∧ (0 : Int) = 0) by omega), xup_n (show ¬ ((31 : Nat) = 25 ∧ (0 : Int) = 0) by omega), xup_n (show ¬ ((31 : Nat) = 26 ∧ (0 : Int) = 0) by omega), xup_n (show ¬ ((31 : Nat) = 27 ∧ (0 : Int) = 0) by omega), xup_n (show ¬ ((31 : Nat) = 28 ∧ (0 : Int) = 0) by omega), xup_n (show ¬ ((31 : Nat) = 29 ∧ (0 : Int) = 0) by omega), xup_n (show ¬ ((31 : Nat) = 30 ∧ (0 : Int) = 0) by omega), xup_n (show ¬ ((31 : Nat) = 32 ∧ (0 : Int) = 0) by omega), xup_n (show ¬ ((31 : Nat) = 33 ∧ (0 : Int) = 0) by omega), xup_n (show ¬ ((31 : Nat) = 34 ∧ (0 : Int) = 0) by omega), xup_n (show ¬ ((31 : Nat) = 35 ∧ (0 : Int) = 0) by omega), xup_n (show ¬ ((31 : Nat) = 36 ∧ (0 : Int) = 0) by omega), xup_n (show ¬ ((31 : Nat) = 37 ∧ (0 : Int) = 0) by omega), xup_n (show ¬ ((31 : Nat) = 38 ∧ (0 : Int) = 0) by omega), xup_n (show ¬ ((31 : Nat) = 39 ∧ (0 : Int) = 0) by omega), xup_n (show ¬ ((31 : Nat) = 40 ∧ (0 : Int) = 0) by omega), xup_n (show ¬ ((31 : Nat) = 41 ∧ (0 : Int) = 0) by omega), xup_n (show ¬ ((31 : Nat) = 20 ∧ (0 : Int) = 0) by omega)]
    try rfl
  by_cases c11 : k = 32 ∧ n9 = 0
  · rw [c11.1, c11.2]
    simp only [xup_s, xup_n (show ¬ ((32 : Nat) = 21 ∧ (0 : Int) = 0) by omega), xup_n (show ¬ ((32 : Nat) = 22 ∧ (0 : Int) = 0) by omega), xup_n (show ¬ ((32 : Nat) = 23 ∧ (0 : Int) = 0) by omega), xup_n (show ¬ ((32 : Nat) = 24 ∧ (0 : Int) = 0) by omega), xup_n (show ¬ ((32 : Nat) = 25 ∧ (0 : Int) = 0) by omega), xup_n (show ¬ ((32 : Nat) = 26 ∧ (0 : Int) = 0) by omega), xup_n (show ¬ ((32 : Nat) = 27 ∧ (0 : Int) = 0) by omega), xup_n (show ¬ ((32 : Nat) = 28 ∧ (0 : Int) = 0) by omega), xup_n (show ¬ ((32 : Nat) = 29 ∧ (0 : Int) = 0) by omega), xup_n (show ¬ ((32 : Nat) = 30 ∧ (0 : Int) = 0) by omega), xup_n (show ¬ ((32 : Nat) = 31 ∧ (0 : Int) = 0) by omega), xup_n (show ¬ ((32 : Nat) = 33 ∧ (0 : Int) = 0) by omega), xup_n (show ¬ ((32 : Nat) = 34 ∧ (0 : Int) = 0) by omega), xup_n (show ¬ ((32 : Nat) = 35 ∧ (0 : Int) = 0) by omega), xup_n (show ¬ ((32 : Nat) = 36 ∧ (0 : Int) = 0) by omega), xup_n (show ¬ ((32 : Nat) = 37 ∧ (0 : Int) = 0) by omega), xup_n (show ¬ ((32 : Nat) = 38 ∧ (0 : Int) = 0) by omega), xup_n (show ¬ ((32 : Nat) = 39 ∧ (0 : Int) = 0) by omega), xup_n (show ¬ ((32 : Nat) = 40 ∧ (0 : Int) = 0) by omega), xup_n (show ¬ ((32 : Nat) = 41 ∧ (0 : Int) = 0) by omega), xup_n (show ¬ ((32 : Nat) = 20 ∧ (0 : Int) = 0) by omega)]
    try rfl
  by_cases c12 : k = 33 ∧ n9 = 0
  · rw [c12.1, c12.2]
    simp only [xup_s, xup_n (show ¬ ((33 : Nat) = 21 ∧ (0 : Int) = 0) by omega), xup_n (show ¬ ((33 : Nat) = 22 ∧ (0 : Int) = 0) by omega), xup_n (show ¬ ((33 : Nat) = 23 ∧ (0 : Int) = 0) by omega), xup_n (show ¬ ((33 : Nat) = 24 ∧ (0 : Int) = 0) by omega), xup_n (show ¬ ((33 : Nat) = 25 ∧ (0 : Int) = 0) by omega), xup_n (show ¬ ((33 : Nat) = 26 ∧ (0 : Int) = 0) by omega), xup_n (show ¬ ((33 : Nat) = 27 ∧ (0 : Int) = 0) by omega), xup_n (show ¬ ((33 : Nat) = 28 ∧ (0 : Int) = 0) by omega), xup_n (show ¬ ((33 : Nat) = 29 ∧ (0 : Int) = 0) by omega), xup_n (show ¬ ((33 : Nat) = 30 ∧ (0 : Int) = 0) by omega), xup_n (show ¬ ((33 : Nat) = 31 ∧ (0 : Int) = 0) by omega), xup_n (show ¬ ((33 : Nat) = 32 ∧ (0 : Int) = 0) by omega), xup_n (show ¬ ((33 : Nat) = 34 ∧ (0 : Int) = 0) by omega), xup_n (show ¬ ((33 : Nat) = 35 ∧ (0 : Int) = 0) by omega), xup_n (show ¬ ((33 : Nat) = 36 ∧ (0 : Int) = 0) by omega), xup_n (show ¬ ((33 : Nat) = 37 ∧ (0 : Int) = 0) by omega), xup_n (show ¬ ((33 : Nat) = 38 ∧ (0 : Int) = 0) by omega), xup_n (show ¬ ((33 : Nat) = 39 ∧ (0 : Int) = 0) by omega), xup_n (show ¬ ((33 : Nat) = 40 ∧ (0 : Int) = 0) by omega), xup_n (show ¬ ((33 : Nat) = 41 ∧ (0 : Int) = 0) by omega), xup_n (show ¬ ((33 : Nat) = 20 ∧ (0 : Int) = 0) by omega)]
    try rfl
  by_cases c13 : k = 34 ∧ n9 = 0
  · rw [c13.1, c13.2]
    simp only [xup_s, xup_n (show ¬ ((34 : Nat) = 21 ∧ (0 : Int) = 0) by omega), xup_n (show ¬ ((34 : Nat) = 22 ∧ (0 : Int) = 0) by omega), xup_n (show ¬ ((34 : Nat) = 23 ∧ (0 : Int) = 0) by omega), xup_n (show ¬ ((34 : Nat) = 24 ∧ (0 : Int) = 0) by omega), xup_n (show ¬ ((34 : Nat) = 25 ∧ (0 : Int) = 0) by omega), xup_n (show ¬ ((34 : Nat) = 26 ∧ (0 : Int) = 0) by omega), xup_n (show ¬ ((34 : Nat) = 27 ∧ (0 : Int) = 0) by omega), xup_n (show ¬ ((34 : Nat) = 28 ∧ (0 : Int) = 0) by omega), xup_n (show ¬ ((34 : Nat) = 29 ∧ (0 : Int) = 0) by omega), xup_n (show ¬ ((34 : Nat) = 30 ∧ (0 : Int) = 0) by omega), xup_n (show ¬ ((34 : Nat) = 31 ∧ (0 : Int) = 0) by omega), xup_n (show ¬ ((34 : Nat) = 32 ∧ (0 : Int) = 0) by omega), xup_n (show ¬ ((34 : Nat) = 33 ∧ (0 : Int) = 0) by omega), xup_n (show ¬ ((34 : Nat) = 35 ∧ (0 : Int) = 0) by omega), xup_n (show ¬ ((34 : Nat) = 36 ∧ (0 : Int) = 0) by omega), xup_n (show ¬ ((34 : Nat) = 37 ∧ (0 : Int) = 0) by omega), xup_n (show ¬ ((34 : Nat) = 38 ∧ (0 : Int) = 0) by omega), xup_n (show ¬ ((34 : Nat) = 39 ∧ (0 : Int) = 0) by omega), xup_n (show ¬ ((34 : Nat) = 40 ∧ (0 : Int) = 0) by omega), xup_n (show ¬ ((34 : Nat) = 41 ∧ (0 : Int) = 0) by omega), xup_n (show ¬ ((34 : Nat) = 20 ∧ (0 : Int) = 0) by omega)]
    try rfl
  by_cases c14 : k = 35 ∧ n9 = 0
  · rw [c14.1, c14.2]
    simp only [xup_s, xup_n (show ¬ ((35 : Nat) = 21 ∧ (0 : Int) = 0) by omega), xup_n (show ¬ ((35 : Nat) = 22 ∧ (0 : Int) = 0) by omega), xup_n (show ¬ ((35 : Nat) = 23 ∧ (0 : Int) = 0) by omega), xup_n (show ¬ ((35 : Nat) = 24 ∧ (0 : Int) = 0) by omega), xup_n (show ¬ ((35 : Nat) = 25 ∧ (0 : Int) = 0) by omega), xup_n (show ¬ ((35 : Nat) = 26 ∧ (0 : Int) = 0) by omega), xup_n (show ¬ ((35 : Nat) = 27 ∧ (0 : Int) = 0) by omega), xup_n (show ¬ ((35 : Nat) = 28 ∧ (0 : Int) = 0) by omega), xup_n (show ¬ ((35 : Nat) = 29 ∧ (0 : Int) = 0) by omega), xup_n (show ¬ ((35 : Nat) = 30 ∧ (0 : Int) = 0) by omega), xup_n (show ¬ ((35 : Nat) = 31 ∧ (0 : Int) = 0) by omega), xup_n (show ¬ ((35 : Nat) = 32 ∧ (0 : Int) = 0) by omega), xup_n (show ¬ ((35 : Nat) = 33 ∧ (0 : Int) = 0) by omega), xup_n (show ¬ ((35 : Nat) = 34 ∧ (0 : Int) = 0) by omega), xup_n (show ¬ ((35 : Nat) = 36 ∧ (0 : Int) = 0) by omega), xup_n (show ¬ ((35 : Nat) = 37 ∧ (0 : Int) = 0) by omega), xup_n (show ¬ ((35 : Nat) = 38 ∧ (0 : Int) = 0) by omega), xup_n (show ¬ ((35 : Nat) = 39 ∧ (0 : Int) = 0) by omega), xup_n (show ¬ ((35 : Nat) = 40 ∧ (0 : Int) = 0) by omega), xup_n (show ¬ ((35 : Nat) = 41 ∧ (0 : Int) = 0) by omega), xup_n (show ¬ ((35 : Nat) = 20 ∧ (0 : Int) = 0) by omega)]
    try rfl
  by_cases c15 : k = 36 ∧ n9 = 0
  · rw [c15.1, c15.2]
    simp only [xup_s, xup_n (show ¬ ((36 : Nat) = 21 ∧ (0 : Int) = 0) by omega), xup_n (show ¬ ((36 : Nat) = 22 ∧ (0 : Int) = 0) by omega), xup_n (show ¬ ((36 : Nat) = 23 ∧ (0 : Int) = 0) by omega), xup_n (show ¬ ((36 : Nat) = 24 ∧ (0 : Int) = 0) by omega), xup_n (show ¬ ((36 : Nat) = 25 ∧ (0 : Int) = 0) by omega), xup_n (show ¬ ((36 : Nat) = 26 ∧ (0 : Int) = 0) by omega), xup_n (show ¬ ((36 : Nat) = 27 ∧ (0 : Int) = 0) by omega), xup_n (show ¬ ((36 : Nat) = 28 ∧ (0 : Int) = 0) by omega), xup_n (show ¬ ((36 : Nat) = 29 ∧ (0 : Int) = 0) by omega), xup_n (show ¬ ((36 : Nat) = 30 ∧ (0 : Int) = 0) by omega), xup_n (show ¬ ((36 : Nat) = 31 ∧ (0 : Int) = 0) by omega), xup_n (show ¬ ((36 : Nat) = 32 ∧ (0 : Int) = 0) by omega), xup_n (show ¬ ((36 : Nat) = 33 ∧ (0 : Int) = 0) by omega), xup_n (show ¬ ((36 : Nat) = 34 ∧ (0 : Int) = 0) by omega), xup_n (show ¬ ((36 : Nat) = 35 ∧ (0 : Int) = 0) by omega), xup_n (show ¬ ((36 : Nat) = 37 ∧ (0 : Int) = 0) by omega), xup_n (show ¬ ((36 : Nat) = 38 ∧ (0 : Int) = 0) by omega), xup_n (show ¬ ((36 : Nat) = 39 ∧ (0 : Int) = 0) by omega), xup_n (show ¬ ((36 : Nat) = 40 ∧ (0 : Int) = 0) by omega), xup_n (show ¬ ((36 : Nat) = 41 ∧ (0 : Int) = 0) by omega), xup_n (show ¬ ((36 : Nat) = 20 ∧ (0 : Int) = 0) by omega)]
    try rfl
  by_cases c16 : k = 37 ∧ n9 = 0
  · rw [c16.1, c16.2]
    simp only [xup_s, xup_n (show ¬ ((37 : Nat) = 21 ∧ (0 : Int) = 0) by omega), xup_n (show ¬ ((37 : Nat) = 22 ∧ (0 : Int) = 0) by omega), xup_n (show ¬ ((37 : Nat) = 23 ∧ (0 : Int) = 0) by omega), xup_n (show ¬ ((37 : Nat) = 24 ∧ (0 : Int) = 0) by omega), xup_n (show ¬ ((37 : Nat) = 25 ∧ (0 : Int) = 0) by omega), xup_n (show ¬ ((37 : Nat) = 26 ∧ (0 : Int) = 0) by omega), xup_n (show ¬ ((37 : Nat) = 27 ∧ (0 : Int) = 0) by omega), xup_n (show ¬ ((37 : Nat) = 28 ∧ (0 : Int) = 0) by omega), xup_n (show ¬ ((37 : Nat) = 29 ∧ (0 : Int) = 0) by omega), xup_n (show ¬ ((37 : Nat) = 30 ∧ (0 : Int) = 0) by omega), xup_n (show ¬ ((37 : Nat) = 31 ∧ (0 : Int) = 0) by omega), xup_n (show ¬ ((37 : Nat) = 32 ∧ (0 : Int) = 0) by omega), xup_n (show ¬ ((37 : Nat) = 33 ∧ (0 : Int) = 0) by omega), xup_n (show ¬ ((37 : Nat) = 34 ∧ (0 : Int) = 0) by omega), xup_n (show ¬ ((37 : Nat) = 35 ∧ (0 : Int) = 0) by omega), xup_n (show ¬ ((37 : Nat) = 36 ∧ (0 : Int) = 0) by omega), xup_n (show ¬ ((37 : Nat) = 38 ∧ (0 : Int) = 0) by omega), xup_n (show ¬ ((37 : Nat) = 39 ∧ (0 : Int) = 0) by omega), xup_n (show ¬ ((37 : Nat) = 40 ∧ (0 : Int) = 0) by omega), xup_n (show ¬ ((37 : Nat) = 41 ∧ (0 : Int) = 0) by omega), xup_n (show ¬ ((37 : Nat) = 20 ∧ (0 : Int) = 0) by omega)]
    try rfl
  by_cases c17 : k = 38 ∧ n9 = 0
  · rw [c17.1, c17.2]
    simp only [xup_s, xup_n (show ¬ ((38 : Nat) = 21 ∧ (0 : Int) = 0) by omega), xup_n (show ¬ ((38 : Nat) = 22 ∧ (0 : Int) = 0) by omega), xup_n (show ¬ ((38 : Nat) = 23 ∧ (0 : Int) = 0) by omega), xup_n (show ¬ ((38 : Nat) = 24 ∧ (0 : Int) = 0) by omega), xup_n (show ¬ ((38 : Nat) = 25 ∧ (0 : Int) = 0) by omega), xup_n (show ¬ ((38 : Nat) = 26 ∧ (0 : Int) = 0) by omega), xup_n (show ¬ ((38 : Nat) = 27 ∧ (0 : Int) = 0) by omega), xup_n (show ¬ ((38 : Nat) = 28 ∧ (0 : Int) = 0) by omega), xup_n (show ¬ ((38 : Nat) = 29 ∧ (0 : Int) = 0) by omega), xup_n (show ¬ ((38 : Nat) = 30 ∧ (0 : Int) = 0) by omega), xup_n (show ¬ ((38 : Nat) = 31 ∧ (0 : Int) = 0) by omega), xup_n (show ¬ ((38 : Nat) = 32 ∧ (0 : Int) = 0) by omega), xup_n (show ¬ ((38 : Nat) = 33 ∧ (0 : Int) = 0) by omega), xup_n (show ¬ ((38 : Nat) = 34 ∧ (0 : Int) = 0) by omega), xup_n (show ¬ ((38 : Nat) = 35 ∧ (0 : Int) = 0) by omega), xup_n (show ¬ ((38 : Nat) = 36 ∧ (0 : Int) = 0) by omega), xup_n (show ¬ ((38 : Nat) = 37 ∧ (0 : Int) = 0) by omega), xup_n (show ¬ ((38 : Nat) = 39 ∧ (0 : Int) = 0) by omega), xup_n (show ¬ ((38 : Nat) = 40 ∧ (0 : Int) = 0) by omega), xup_n (show ¬ ((38 : Nat) = 41 ∧ (0 : Int) = 0) by omega), xup_n (show ¬ ((38 : Nat) = 20 ∧ (0 : Int) = 0) by omega)]
    try rfl
  by_cases c18 : k = 39 ∧ n9 = 0
  · rw [c18.1, c18.2]
    simp only [xup_s, xup_n (show ¬ ((39 : Nat) = 21 ∧ (0 : Int) = 0) by omega), xup_n (show ¬ ((39 : Nat) = 22 ∧ (0 : Int) = 0) by omega), xup_n (show ¬ ((39 : Nat) = 23 ∧ (0 : Int) = 0) by omega), xup_n (show ¬ ((39 : Nat) = 24 ∧ (0 : Int) = 0) by omega), xup_n (show ¬ ((39 : Nat) = 25 ∧ (0 : Int) = 0) by omega), xup_n (show ¬ ((39 : Nat) = 26 ∧ (0 : Int) = 0) by omega), xup_n (show ¬ ((39 : Nat) = 27 ∧ (0 : Int) = 0) by omega), xup_n (show ¬ ((39 : Nat) = 28 ∧ (0 : Int) = 0) by omega), xup_n (show ¬ ((39 : Nat) = 29 ∧ (0 : Int) = 0) by omega), xup_n (show ¬ ((39 : Nat) = 30 ∧ (0 : Int) = 0) by omega), xup_n (show ¬ ((39 : Nat) = 31 ∧ (0 : Int) = 0) by omega), xup_n (show ¬ ((39 : Nat) = 32 ∧ (0 : Int) = 0) by omega), xup_n (show ¬ ((39 : Nat) = 33 ∧ (0 : Int) = 0) by omega), xup_n (show ¬ ((39 : Nat) = 34 ∧ (0 : Int) = 0) by omega), xup_n (show ¬ ((39 : Nat) = 35 ∧ (0 : Int) = 0) by omega), xup_n (show ¬ ((39 : Nat) = 36 ∧ (0 : Int) = 0) by omega), xup_n (show ¬ ((39 : Nat) = 37 ∧ (0 : Int) = 0) by omega), xup_n (show ¬ ((39 : Nat) = 38 ∧ (0 : Int) = 0) by omega), xup_n (show ¬ ((39 : Nat) = 40 ∧ (0 : Int) = 0) by omega), xup_n (show ¬ ((39 : Nat) = 41 ∧ (0 : Int) = 0) by omega), xup_n (show ¬ ((39 : Nat) = 20 ∧ (0 : Int) = 0) by omega)]
    try rfl
  by_cases c19 : k = 40 ∧ n9 = 0
  · rw [c19.1, c19.2]
    simp only [xup_s, xup_n (show ¬ ((40 : Nat) = 21 ∧ (0 : Int) = 0) by omega), xup_n (show ¬ ((40 : Nat) = 22 ∧ (0 : Int) = 0) by omega), xup_n (show ¬ ((40 : Nat) = 23 ∧ (0 : Int) = 0) by omega), xup_n (show ¬ ((40 : Nat) = 24 ∧ (0 : Int) = 0) by omega), xup_n (show ¬ ((40 : Nat) = 25 ∧ (0 : Int) = 0) by omega), xup_n (show ¬ ((40 : Nat) = 26 ∧ (0 : Int) = 0) by omega), xup_n (show ¬ ((40 : Nat) = 27 ∧ (0 : Int) = 0) by omega), xup_n (show ¬ ((40 : Nat) = 28 ∧ (0 : Int) = 0) by omega), xup_n (show ¬ ((40 : Nat) = 29 ∧ (0 : Int) = 0) by omega), xup_n (show ¬ ((40 : Nat) = 30 ∧ (0 : Int) = 0) by omega), xup_n (show ¬ ((40 : Nat) = 31 ∧ (0 : Int) = 0) by omega), xup_n (show ¬ ((40 : Nat) = 32 ∧ (0 : Int) = 0) by omega), xup_n (show ¬ ((40 : Nat) = 33 ∧ (0 : Int) = 0) by omega), xup_n (show ¬ ((40 : Nat) = 34 ∧ (0 : Int) = 0) by omega), xup_n (show ¬ ((40 : Nat) = 35 ∧ (0 : Int) = 0) by omega), xup_n (show ¬ ((40 : Nat) = 36 ∧ (0 : Int) = 0) by omega), xup_n (show ¬ ((40 : Nat) = 37 ∧ (0 : Int) = 0) by omega), xup_n (show ¬ ((40 : Nat) = 38 ∧ (0 : Int) = 0) by omega), xup_n (show ¬ ((40 : Nat) = 39 ∧ (0 : Int) = 0) by omega), xup_n (show ¬ ((40 : Nat) = 41 ∧ (0 : Int) = 0) by omega), xup_n (show ¬ ((40 : Nat) = 20 ∧ (0 : Int) = 0) by omega)]
    try rfl
  by_cases c20 : k = 41 ∧ n9 = 0
  · rw [c20.1, c20.2]
    simp only [xup_s, xup_n (show ¬ ((41 : Nat) = 21 ∧ (0 : Int) = 0) by omega), xup_n (show ¬ ((41 : Nat) = 22 ∧ (0 : Int) = 0) by omega), xup_n (show ¬ ((41 : Nat) = 23 ∧ (0 : Int) = 0) by omega), xup_n (show ¬ ((41 : Nat) = 24 ∧ (0 : Int) = 0) by omega), xup_n (show ¬ ((41 : Nat) = 25 ∧ (0 : Int) = 0) by omega), xup_n (show ¬ ((41 : Nat) = 26 ∧ (0 : Int) = 0) by omega), xup_n (show ¬ ((41 : Nat) = 27 ∧ (0 : Int) = 0) by omega), xup_n (show ¬ ((41 : Nat) = 28 ∧ (0 : Int) = 0) by omega), xup_n (show ¬ ((41 : Nat) = 29 ∧ (0 : Int) = 0) by omega), xup_n (show ¬ ((41 : Nat) = 30 ∧ (0 : Int) = 0) by omega), xup_n (show ¬ ((41 : Nat) = 31 ∧ (0 : Int) = 0) by omega), xup_n (show ¬ ((41 : Nat) = 32 ∧ (0 : Int) = 0) by omega), xup_n (show ¬ ((41 : Nat) = 33 ∧ (0 : Int) = 0) by omega), xup_n (show ¬ ((41 : Nat) = 34 ∧ (0 : Int) = 0) by omega), xup_n (show ¬ ((41 : Nat) = 35 ∧ (0 : Int) = 0) by omega), xup_n (show ¬ ((41 : Nat) = 36 ∧ (0 : Int) = 0) by omega), xup_n (show ¬ ((41 : Nat) = 37 ∧ (0 : Int) = 0) by omega), xup_n (show ¬ ((41 : Nat) = 38 ∧ (0 : Int) = 0) by omega), xup_n (show ¬ ((41 : Nat) = 39 ∧ (0 : Int) = 0) by omega), xup_n (show ¬ ((41 : Nat) = 40 ∧ (0 : Int) = 0) by omega), xup_n (show ¬ ((41 : Nat) = 20 ∧ (0 : Int) = 0) by omega)]
    try rfl
  by_cases c21 : k = 20 ∧ n9 = 0
  · rw [c21.1, c21.2]
    simp only [xup_s, xup_n (show ¬ ((20 : Nat) = 21 ∧ (0 : Int) = 0) by omega), xup_n (show ¬ ((20 : Nat) = 22 ∧ (0 : Int) = 0) by omega), xup_n (show ¬ ((20 : Nat) = 23 ∧ (0 : Int) = 0) by omega), xup_n (show ¬ ((20 : Nat) = 24 ∧ (0 : Int) = 0) by omega), xup_n (show ¬ ((20 : Nat) = 25 ∧ (0 : Int) = 0) by omega), xup_n (show ¬ ((20 : Nat) = 26 ∧ (0 : Int) = 0) by omega), xup_n (show ¬ ((20 : Nat) = 27 ∧ (0 : Int) = 0) by omega), xup_n (show ¬ ((20 : Nat) = 28 ∧ (0 : Int) = 0) by omega), xup_n (show ¬ ((20 : Nat) = 29 ∧ (0 : Int) = 0) by omega), xup_n (show ¬ ((20 : Nat) = 30 ∧ (0 : Int) = 0) by omega), xup_n (show ¬ ((20 : Nat) = 31 ∧ (0 : Int) = 0) by omega), xup_n (show ¬ ((20 : Nat) = 32 ∧ (0 : Int) = 0) by omega), xup_n (show ¬ ((20 : Nat) = 33 ∧ (0 : Int) = 0) by omega), xup_n (show ¬ ((20 : Nat) = 34 ∧ (0 : Int) = 0) by omega), xup_n (show ¬ ((20 : Nat) = 35 ∧ (0 : Int) = 0) by omega), xup_n (show ¬ ((20 : Nat) = 36 ∧ (0 : Int) = 0) by omega), xup_n (show ¬ ((20 : Nat) = 37 ∧ (0 : Int) = 0) by omega), xup_n (show ¬ ((20 : Nat) = 38 ∧ (0 : Int) = 0) by omega), xup_n (show ¬ ((20 : Nat) = 39 ∧ (0 : Int) = 0) by omega), xup_n (show ¬ ((20 : Nat) = 40 ∧ (0 : Int) = 0) by omega), xup_n (show ¬ ((20 : Nat) = 41 ∧ (0 : Int) = 0) by omega)]
    try rfl
  simp only [xup_n c0, xup_n c1, xup_n c2, xup_n c3, xup_n c4, xup_n c5, xup_n c6, xup_n c7, xup_n c8, xup_n c9, xup_n c10, xup_n c11, xup_n c12, xup_n c13, xup_n c14, xup_n c15, xup_n c16, xup_n c17, xup_n c18, xup_n c19, xup_n c20, xup_n c21]
  try rfl
