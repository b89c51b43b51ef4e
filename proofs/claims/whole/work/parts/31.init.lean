set_option maxRecDepth 100000 in
set_option maxHeartbeats 4000000 in
theorem c_X0_init {lc : Launch} (hlc : lc.stackTraces = false) {D : va_G} {Y : Nat → ClassId} {A : Nat → Prop} {g : xG} {ad : xL} {c d f t : Int} (hg : g 14 (c) = some (.inr (2, [.null, .int (iI 0), .int (iI 0), .int (iI 0)]))) : Ct lc yX0_init cX0_init 4 none (rmL 0 0 0) D Y A ad g [.ref (ad 14 (c)), .ref (ad 11 (d)), .int (iI f), .int (iI t)] (fun r ad2 g2 => r = none ∧ ad2 = ad ∧ g2 = xup g 14 (c) (.inr (2, [.ref (ad 11 (d)), .int (iI f), .int (iI t), .int (iI 1)]))) pF := by
  refine Ct_of hlc (by decide +kernel) rfl rfl (own := RX0) (nm := "<init>") (l0 := [some (.ref (ad 14 (c))), some (.ref (ad 11 (d))), some (.int (iI f)), some (.int (iI t))]) rfl (Nat.le_of_ble_eq_true rfl) (fun κ C M => ?_)
  refine X_aload_n C rfl dX0_init_0 ?_
  refine X_objInit C oi_X0_1 oi_2 oi_3 (by decide) (by decide) dX0_init_1 ?_
  refine X_aload_n C rfl dX0_init_4 ?_
  refine X_aload_n C rfl dX0_init_5 ?_
  refine X_putF C M (k := 14) (n := c) (fs := [.null, .int (iI 0), .int (iI 0), .int (iI 0)]) (by repeat (first | exact xup_s | assumption | rw [xup_n (by omega)])) ff_X0_7 rfl rfl (Nat.le_of_ble_eq_true rfl) dX0_init_6 ?_
  refine X_aload_n C rfl dX0_init_9 ?_
  refine X_iload_n C rfl dX0_init_10 ?_
  refine X_put C (k := 14) (n := c) (fs := [.ref (ad 11 (d)), .int (iI 0), .int (iI 0), .int (iI 0)]) (by repeat (first | exact xup_s | assumption | rw [xup_n (by omega)])) fw_X0_13 rfl rfl (Nat.le_of_ble_eq_true rfl) dX0_init_11 ?_
  refine X_aload_n C rfl dX0_init_14 ?_
  refine X_iload_n C rfl dX0_init_15 ?_
  refine X_put C (k := 14) (n := c) (fs := [.ref (ad 11 (d)), .int (iI f), .int (iI 0), .int (iI 0)]) (by repeat (first | exact xup_s | assumption | rw [xup_n (by omega)])) fw_X0_17 rfl rfl (Nat.le_of_ble_eq_true rfl) dX0_init_16 ?_
  refine X_aload_n C rfl dX0_init_19 ?_
  refine X_iconst C dX0_init_20 ?_
  refine X_put C (k := 14) (n := c) (fs := [.ref (ad 11 (d)), .int (iI f), .int (iI t), .int (iI 0)]) (by repeat (first | exact xup_s | assumption | rw [xup_n (by omega)])) fw_X0_20 rfl rfl (Nat.le_of_ble_eq_true rfl) dX0_init_21 ?_
  refine X_return C M (by decide) (by decide) dX0_init_24 ⟨rfl, rfl, ?_⟩
  funext k n9
  by_cases c0 : k = 14 ∧ n9 = c
  · rw [c0.1, c0.2]
    simp only [xup_s]
    try rfl
  simp only [xup_n c0]
  try rfl
set_option maxRecDepth 100000 in
set_option maxHeartbeats 4000000 in
theorem c_X1_init {lc : Launch} (hlc : lc.stackTraces = false) {D : va_G} {Y : Nat → ClassId} {A : Nat → Prop} {g : xG} {ad : xL} {z : Int} (hg : g 11 (z) = some (.inr (3, [.int (iI 0), .null, .null, .int (iI 0), .int (iI 0), .int (iI 0), .int (iI 0)]))) (hf12_0 : g 12 (2 * z) = none) (hf13_1 : g 13 (2 * z) = none) (hf12_2 : g 12 (2 * z + 1) = none) (hf13_3 : g 13 (2 * z + 1) = none) : Ct lc yX1_init cX1_init 2 none (rmL 1 4 164) D Y A ad g [.ref (ad 11 (z)), .int (iI z)] (fun r ad2 g2 => r = none ∧ (∀ k n9, ¬ ((k = 12 ∨ k = 13) ∧ (n9 = 2 * z ∨ n9 = 2 * z + 1)) → ad2 k n9 = ad k n9) ∧ g2 = xup (xup (xup (xup (xup g 13 (2 * z) (.inl (Y 0, 80, .inl (fun _ => iI 0)))) 13 (2 * z + 1) (.inl (Y 0, 80, .inl (fun _ => iI 0)))) 12 (2 * z) (.inr (8, [.ref (ad2 13 (2 * z)), .int (iI 0)]))) 12 (2 * z + 1) (.inr (8, [.ref (ad2 13 (2 * z + 1)), .int (iI 0)]))) 11 (z) (.inr (3, [.int (iI z), .ref (ad2 12 (2 * z)), .ref (ad2 12 (2 * z + 1)), .int (iI 0), .int (iI (-1)), .int (iI 0), .int (iI 999)]))) pF := by
  refine Ct_of hlc (by decide +kernel) rfl rfl (own := RX1) (nm := "<init>") (l0 := [some (.ref (ad 11 (z))), some (.int (iI z))]) rfl (Nat.le_of_ble_eq_true rfl) (fun κ C M => ?_)
  refine X_aload_n C rfl dX1_init_0 ?_
  refine X_objInit C oi_X1_3 oi_2 oi_3 (by decide) (by decide) dX1_init_1 ?_
  refine X_aload_n C rfl dX1_init_4 ?_
  refine X_iload_n C rfl dX1_init_5 ?_
  refine X_putF C M (k := 11) (n := z) (fs := [.int (iI 0), .null, .null, .int (iI 0), .int (iI 0), .int (iI 0), .int (iI 0)]) (by repeat (first | exact xup_s | assumption | rw [xup_n (by omega)])) ff_X1_9 rfl rfl (Nat.le_of_ble_eq_true rfl) dX1_init_6 ?_
  refine X_aload_n C rfl dX1_init_9 ?_
  refine X_mkO C (k := 12) (n := 2 * z) (fs := [.null, .int (iI 0)]) (by repeat (first | exact xup_s | assumption | rw [xup_n (by omega)])) xcl_X7 nw_X1_15 (fun j hj => match j, hj with | 0, _ => rfl | 1, _ => rfl | (j + 2), h => absurd h (by omega)) (by decide) (by decide) dX1_init_10 (fun a1 o1 => ?_)
  try rw [← o1 11 (z) (by omega)]
  refine X_dup C rfl dX1_init_13 ?_
  refine X_callIg C (c_X7_init C.hlc (t := 2 * z) (by repeat (first | exact xup_s | assumption | rw [xup_n (by omega)])) (by repeat (first | exact xup_s | assumption | rw [xup_n (by omega)]))) ci_X1_17 rfl rfl rfl rfl dX1_init_14 (fun r9 a2 g9 hp => ?_)
  obtain ⟨rfl, o2, rfl⟩ := hp
  try rw [← o2 11 (z) (by omega)]
  try rw [← o2 12 (2 * z) (by omega)]
  refine X_putF C M (k := 11) (n := z) (fs := [.int (iI z), .null, .null, .int (iI 0), .int (iI 0), .int (iI 0), .int (iI 0)]) (by repeat (first | exact xup_s | assumption | rw [xup_n (by omega)])) ff_X1_18 rfl rfl (Nat.le_of_ble_eq_true rfl) dX1_init_17 ?_
  refine X_aload_n C rfl dX1_init_20 ?_
  refine X_mkO C (k := 12) (n := 2 * z + 1) (fs := [.null, .int (iI 0)]) (by repeat (first | exact xup_s | assumption | rw [xup_n (by omega)])) xcl_X7 nw_X1_15 (fun j hj => match j, hj with | 0, _ => rfl | 1, _ => rfl | (j + 2), h => absurd h (by omega)) (by decide) (by decide) dX1_init_21 (fun a3 o3 => ?_)
  try rw [← o3 11 (z) (by omega)]
  try rw [← o3 12 (2 * z) (by omega)]
  try rw [← o3 13 (2 * z) (by omega)]
  refine X_dup C rfl dX1_init_24 ?_
  refine X_callIg C (c_X7_init C.hlc (t := 2 * z + 1) (by repeat (first | exact xup_s | assumption | rw [xup_n (by omega)])) (by repeat (first | exact xup_s | assumption | rw [xup_n (by omega)]))) ci_X1_17 rfl rfl rfl rfl dX1_init_25 (fun r9 a4 g9 hp => ?_)
  obtain ⟨rfl, o4, rfl⟩ := hp
  try rw [← o4 11 (z) (by omega)]
  try rw [← o4 12 (2 * z) (by omega)]
  try rw [← o4 13 (2 * z) (by omega)]
  try rw [← o4 12 (2 * z + 1) (by omega)]
  refine X_putF C M (k := 11) (n := z) (fs := [.int (iI z), .ref (a4 12 (2 * z)), .null, .int (iI 0), .int (iI 0), .int (iI 0), .int (iI 0)]) (by repeat (first | exact xup_s | assumption | rw [xup_n (by omega)])) ff_X1_22 rfl rfl (Nat.le_of_ble_eq_true rfl) dX1_init_28 ?_
  refine X_aload_n C rfl dX1_init_31 ?_
  refine X_iconst C dX1_init_32 ?_
  refine X_put C (k := 11) (n := z) (fs := [.int (iI z), .ref (a4 12 (2 * z)), .ref (a4 12 (2 * z + 1)), .int (iI 0), .int (iI 0), .int (iI 0), .int (iI 0)]) (by repeat (first | exact xup_s | assumption | rw [xup_n (by omega)])) fw_X1_25 rfl rfl (Nat.le_of_ble_eq_true rfl) dX1_init_33 ?_
  refine X_aload_n C rfl dX1_init_36 ?_
  refine X_sipush C ⟨by decide, by decide⟩ dX1_init_37 ?_
  refine X_put C (k := 11) (n := z) (fs := [.int (iI z), .ref (a4 12 (2 * z)), .ref (a4 12 (2 * z + 1)), .int (iI 0), .int (iI (-1)), .int (iI 0), .int (iI 0)]) (by repeat (first | exact xup_s | assumption | rw [xup_n (by omega)])) fw_X1_28 rfl rfl (Nat.le_of_ble_eq_true rfl) dX1_init_40 ?_
  refine X_return C M (by decide) (by decide) dX1_init_43 ⟨rfl, (by intro k n9 h9; rw [o4 k n9 (by omega)]; rw [o3 k n9 (by omega)]; rw [o2 k n9 (by omega)]; rw [o1 k n9 (by omega)]), ?_⟩
  funext k n9
  by_cases c0 : k = 12 ∧ n9 = 2 * z
  · rw [c0.1, c0.2]
    simp only [xup_s, xup_n (show ¬ ((12 : Nat) = 13 ∧ (2 * z : Int) = 2 * z) by omega), xup_n (show ¬ ((12 : Nat) = 12 ∧ (2 * z : Int) = 2 * z + 1) by omega), xup_n (show ¬ ((12 : Nat) = 13 ∧ (2 * z : Int) = 2 * z + 1) by omega), xup_n (show ¬ ((12 : Nat) = 11 ∧ (2 * z : Int) = z) by omega)]
    try rfl
  by_cases c1 : k = 13 ∧ n9 = 2 * z
  · rw [c1.1, c1.2]
    simp only [xup_s, xup_n (show ¬ ((13 : Nat) = 12 ∧ (2 * z : Int) = 2 * z) by omega), xup_n (show ¬ ((13 : Nat) = 12 ∧ (2 * z : Int) = 2 * z + 1) by omega), xup_n (show ¬ ((13 : Nat) = 13 ∧ (2 * z : Int) = 2 * z + 1) by omega), xup_n (show ¬ ((13 : Nat) = 11 ∧ (2 * z : Int) = z) by omega)]
    try rfl
  by_cases c2 : k = 12 ∧ n9 = 2 * z + 1
  · rw [c2.1, c2.2]
    simp only [xup_s, xup_n (show ¬ ((12 : Nat) = 12 ∧ (2 * z + 1 : Int) = 2 * z) by omega), xup_n (show ¬ ((12 : Nat) = 13 ∧ (2 * z + 1 : Int) = 2 * z) by omega), xup_n (show ¬ ((12 : Nat) = 13 ∧ (2 * z + 1 : Int) = 2 * z + 1) by omega), xup_n (show ¬ ((12 : Nat) = 11 ∧ (2 * z + 1 : Int) = z) by omega)]
    try rfl
  by_cases c3 : k = 13 ∧ n9 = 2 * z + 1
  · rw [c3.1, c3.2]
    simp only [xup_s, xup_n (show ¬ ((13 : Nat) = 12 ∧ (2 * z + 1 : Int) = 2 * z) by omega), xup_n (show ¬ ((13 : Nat) = 13 ∧ (2 * z + 1 : Int) = 2 * z) by omega), xup_n (show ¬ ((13 : Nat) = 12 ∧ (2 * z + 1 : Int) = 2 * z + 1) by omega), xup_n (show ¬ ((13 : Nat) = 11 ∧ (2 * z + 1 : Int) = z) by omega)]
    try rfl
  by_cases c4 : k = 11 ∧ n9 = z
  · rw [c4.1, c4.2]
    simp only [xup_s, xup_n (show ¬ ((11 : Nat) = 12 ∧ (z : Int) = 2 * z) by omega), xup_n (show ¬ ((11 : Nat) = 13 ∧ (z : Int) = 2 * z) by omega), xup_n (show ¬ ((11 : Nat) = 12 ∧ (z : Int) = 2 * z + 1) by omega), xup_n (show ¬ ((11 : Nat) = 13 ∧ (z : Int) = 2 * z + 1) by omega)]
    try rfl
  simp only [xup_n c0, xup_n c1, xup_n c2, xup_n c3, xup_n c4]
  try rfl
set_option maxRecDepth 100000 in
set_option maxHeartbeats 4000000 in
theorem c_X4_init {lc : Launch} (hlc : lc.stackTraces = false) {D : va_G} {Y : Nat → ClassId} {A : Nat → Prop} {g : xG} {ad : xL} {o d c u : Int} (hg : g 15 (o) = some (.inr (5, [.int (iI 0), .null, .int (iI 0), .int (iI 0), .null, .int (iI 0), .int (iI 0), .int (iI 0)]))) (hf16_0 : g 16 (o) = none) (hf17_1 : g 17 (3 * o + 0) = none) (hf18_2 : g 18 (3 * o + 0) = none) (hf19_3 : g 19 (3 * o + 0) = none) (hf17_4 : g 17 (3 * o + 1) = none) (hf18_5 : g 18 (3 * o + 1) = none) (hf19_6 : g 19 (3 * o + 1) = none) (hf17_7 : g 17 (3 * o + 2) = none) (hf18_8 : g 18 (3 * o + 2) = none) (hf19_9 : g 19 (3 * o + 2) = none) : Ct lc yX4_init cX4_init 6 none (rmL 1 10 210) D Y A ad g [.ref (ad 15 (o)), .int (iI o), .ref (ad 11 (d)), .int (iI c), .int (iI u)] (fun r ad2 g2 => r = none ∧ (∀ k n9, ¬ (k = 16 ∧ n9 = o ∨ (k = 17 ∨ k = 18 ∨ k = 19) ∧ (n9 = 3 * o ∨ n9 = 3 * o + 1 ∨ n9 = 3 * o + 2)) → ad2 k n9 = ad k n9) ∧ g2 = xup (xup (xup (xup (xup (xup (xup (xup (xup (xup (xup (g) 18 (3 * o + 0) (.inl (Y 0, 32, .inl (fun _ => iI 0)))) 19 (3 * o + 0) (.inl (Y 0, 32, .inl (fun _ => iI 0)))) 17 (3 * o + 0) (.inr (7, [.ref (ad2 18 (3 * o + 0)), .int (iI 0), .ref (ad2 19 (3 * o + 0)), .int (iI 0), .int (iI 0)]))) 18 (3 * o + 1) (.inl (Y 0, 32, .inl (fun _ => iI 0)))) 19 (3 * o + 1) (.inl (Y 0, 32, .inl (fun _ => iI 0)))) 17 (3 * o + 1) (.inr (7, [.ref (ad2 18 (3 * o + 1)), .int (iI 0), .ref (ad2 19 (3 * o + 1)), .int (iI 0), .int (iI 0)]))) 18 (3 * o + 2) (.inl (Y 0, 32, .inl (fun _ => iI 0)))) 19 (3 * o + 2) (.inl (Y 0, 32, .inl (fun _ => iI 0)))) 17 (3 * o + 2) (.inr (7, [.ref (ad2 18 (3 * o + 2)), .int (iI 0), .ref (ad2 19 (3 * o + 2)), .int (iI 0), .int (iI 0)]))) 16 (o) (.inl (Y 7, 3, .inr (.inr (.inr (.inr (fun j => if (j : Int) < 3 then some (ad2 17 (3 * o + (j : Int))) else none))))))) 15 (o) (.inr (5, [.int (iI o), .ref (ad2 11 (d)), .int (iI c), .int (iI u), .ref (ad2 16 (o)), .int (iI 0), .int (iI 0), .int (iI 0)]))) pF := by
  refine Ct_of hlc (by decide +kernel) rfl rfl (own := RX4) (nm := "<init>") (l0 := [some (.ref (ad 15 (o))), some (.int (iI o)), some (.ref (ad 11 (d))), some (.int (iI c)), some (.int (iI u)), none]) rfl (Nat.le_of_ble_eq_true rfl) (fun κ C M => ?_)
  refine X_aload_n C rfl dX4_init_0 ?_
  refine X_objInit C oi_X4_3 oi_2 oi_3 (by decide) (by decide) dX4_init_1 ?_
  refine X_aload_n C rfl dX4_init_4 ?_
  refine X_iload_n C rfl dX4_init_5 ?_
  refine X_putF C M (k := 15) (n := o) (fs := [.int (iI 0), .null, .int (iI 0), .int (iI 0), .null, .int (iI 0), .int (iI 0), .int (iI 0)]) (by repeat (first | exact xup_s | assumption | rw [xup_n (by omega)])) ff_X4_9 rfl rfl (Nat.le_of_ble_eq_true rfl) dX4_init_6 ?_
  refine X_aload_n C rfl dX4_init_9 ?_
  refine X_aload_n C rfl dX4_init_10 ?_
  refine X_putF C M (k := 15) (n := o) (fs := [.int (iI o), .null, .int (iI 0), .int (iI 0), .null, .int (iI 0), .int (iI 0), .int (iI 0)]) (by repeat (first | exact xup_s | assumption | rw [xup_n (by omega)])) ff_X4_15 rfl rfl (Nat.le_of_ble_eq_true rfl) dX4_init_11 ?_
  refine X_aload_n C rfl dX4_init_14 ?_
  refine X_iload_n C rfl dX4_init_15 ?_
  refine X_putF C M (k := 15) (n := o) (fs := [.int (iI o), .ref (ad 11 (d)), .int (iI 0), .int (iI 0), .null, .int (iI 0), .int (iI 0), .int (iI 0)]) (by repeat (first | exact xup_s | assumption | rw [xup_n (by omega)])) ff_X4_19 rfl rfl (Nat.le_of_ble_eq_true rfl) dX4_init_16 ?_
  refine X_aload_n C rfl dX4_init_19 ?_
  refine X_iload C rfl dX4_init_20 ?_
  refine X_putF C M (k := 15) (n := o) (fs := [.int (iI o), .ref (ad 11 (d)), .int (iI c), .int (iI 0), .null, .int (iI 0), .int (iI 0), .int (iI 0)]) (by repeat (first | exact xup_s | assumption | rw [xup_n (by omega)])) ff_X4_22 rfl rfl (Nat.le_of_ble_eq_true rfl) dX4_init_22 ?_
  refine X_aload_n C rfl dX4_init_25 ?_
  refine X_iconst C dX4_init_26 ?_
  refine X_mkA C (k := 16) (n := o) (N := 3) (t := 7) (by repeat (first | exact xup_s | assumption | rw [xup_n (by omega)])) na_X4_25 (fun U h => h.2.2.2.2.2.2.2.2.2.2) rfl rfl (by decide) (by decide) (by decide) dX4_init_27 (fun a1 o1 => ?_)
  try rw [← o1 15 (o) (by omega)]
  try rw [← o1 11 (d) (by omega)]
  refine X_putF C M (k := 15) (n := o) (fs := [.int (iI o), .ref (a1 11 (d)), .int (iI c), .int (iI u), .null, .int (iI 0), .int (iI 0), .int (iI 0)]) (by repeat (first | exact xup_s | assumption | rw [xup_n (by omega)])) ff_X4_27 rfl rfl (Nat.le_of_ble_eq_true rfl) dX4_init_30 ?_
  refine X_iconst C dX4_init_33 ?_
  refine X_istore_5 C (by decide) rfl dX4_init_34 ?_
  refine X_iload C rfl dX4_init_36 ?_
  refine X_iconst C dX4_init_38 ?_
  refine X_icmp_ge C (tgt := 62) dX4_init_39 (by decide) ⟨by omega, by omega⟩ ⟨by omega, by omega⟩ (fun c9 => ?_) (fun c9 => ?_)
  · exfalso; omega
  refine X_aload_n C rfl dX4_init_42 ?_
  refine X_get C (k := 15) (n := o) (fs := [.int (iI o), .ref (a1 11 (d)), .int (iI c), .int (iI u), .ref (a1 16 (o)), .int (iI 0), .int (iI 0), .int (iI 0)]) (v := .ref (a1 16 (o))) (by repeat (first | exact xup_s | assumption | rw [xup_n (by omega)])) fl_X4_27 rfl dX4_init_43 ?_
  refine X_iload C rfl dX4_init_46 ?_
  refine X_mkO C (k := 17) (n := 3 * o + 0) (fs := [.null, .int (iI 0), .null, .int (iI 0), .int (iI 0)]) (by repeat (first | exact xup_s | assumption | rw [xup_n (by omega)])) xcl_X6 nw_X4_25 (fun j hj => match j, hj with | 0, _ => rfl | 1, _ => rfl | 2, _ => rfl | 3, _ => rfl | 4, _ => rfl | (j + 5), h => absurd h (by omega)) (by decide) (by decide) dX4_init_48 (fun a2 o2 => ?_)
  try rw [← o2 15 (o) (by omega)]
  try rw [← o2 11 (d) (by omega)]
  try rw [← o2 16 (o) (by omega)]
  refine X_dup C rfl dX4_init_51 ?_
  refine X_callIg C (c_X6_init C.hlc (i := 3 * o + 0) (by repeat (first | exact xup_s | assumption | rw [xup_n (by omega)])) (by repeat (first | exact xup_s | assumption | rw [xup_n (by omega)])) (by repeat (first | exact xup_s | assumption | rw [xup_n (by omega)]))) ci_X4_31 rfl rfl rfl rfl dX4_init_52 (fun r9 a3 g9 hp => ?_)
  obtain ⟨rfl, o3, rfl⟩ := hp
  try rw [← o3 15 (o) (by omega)]
  try rw [← o3 11 (d) (by omega)]
  try rw [← o3 16 (o) (by omega)]
  try rw [← o3 17 (3 * o + 0) (by omega)]
  refine X_aast C (k := 16) (n := o) (t := 7) (ci := 7) (r := (RX6, TX6, 5)) (k2 := 17) (n2 := 3 * o + 0) (by repeat (first | exact xup_s | assumption | rw [xup_n (by omega)])) rfl rfl (by repeat (first | exact xup_s | assumption | rw [xup_n (by omega)])) (by omega) (by omega) (by decide) dX4_init_55 ?_
  refine X_iinc_5 C (by decide) rfl dX4_init_56 ?_
  refine X_goto C (tgt := 36) dX4_init_59 (by decide) ?_
  refine X_iload C rfl dX4_init_36 ?_
  refine X_iconst C dX4_init_38 ?_
  refine X_icmp_ge C (tgt := 62) dX4_init_39 (by decide) ⟨by omega, by omega⟩ ⟨by omega, by omega⟩ (fun c9 => ?_) (fun c9 => ?_)
  · exfalso; omega
  refine X_aload_n C rfl dX4_init_42 ?_
  refine X_get C (k := 15) (n := o) (fs := [.int (iI o), .ref (a3 11 (d)), .int (iI c), .int (iI u), .ref (a3 16 (o)), .int (iI 0), .int (iI 0), .int (iI 0)]) (v := .ref (a3 16 (o))) (by repeat (first | exact xup_s | assumption | rw [xup_n (by omega)])) fl_X4_27 rfl dX4_init_43 ?_
  refine X_iload C rfl dX4_init_46 ?_
  refine X_mkO C (k := 17) (n := 3 * o + 1) (fs := [.null, .int (iI 0), .null, .int (iI 0), .int (iI 0)]) (by repeat (first | exact xup_s | assumption | rw [xup_n (by omega)])) xcl_X6 nw_X4_25 (fun j hj => match j, hj with | 0, _ => rfl | 1, _ => rfl | 2, _ => rfl | 3, _ => rfl | 4, _ => rfl | (j + 5), h => absurd h (by omega)) (by decide) (by decide) dX4_init_48 (fun a4 o4 => ?_)
  try rw [← o4 15 (o) (by omega)]
  try rw [← o4 11 (d) (by omega)]
  try rw [← o4 16 (o) (by omega)]
  try rw [← o4 17 (3 * o + 0) (by omega)]
  try rw [← o4 18 (3 * o + 0) (by omega)]
  try rw [← o4 19 (3 * o + 0) (by omega)]
  refine X_dup C rfl dX4_init_51 ?_
  refine X_callIg C (c_X6_init C.hlc (i := 3 * o + 1) (by repeat (first | exact xup_s | assumption | rw [xup_n (by omega)])) (by repeat (first | exact xup_s | assumption | rw [xup_n (by omega)])) (by repeat (first | exact xup_s | assumption | rw [xup_n (by omega)]))) ci_X4_31 rfl rfl rfl rfl dX4_init_52 (fun r9 a5 g9 hp => ?_)
  obtain ⟨rfl, o5, rfl⟩ := hp
  try rw [← o5 15 (o) (by omega)]
  try rw [← o5 11 (d) (by omega)]
  try rw [← o5 16 (o) (by omega)]
  try rw [← o5 17 (3 * o + 0) (by omega)]
  try rw [← o5 18 (3 * o + 0) (by omega)]
  try rw [← o5 19 (3 * o + 0) (by omega)]
  try rw [← o5 17 (3 * o + 1) (by omega)]
  refine X_aast C (k := 16) (n := o) (t := 7) (ci := 7) (r := (RX6, TX6, 5)) (k2 := 17) (n2 := 3 * o + 1) (by repeat (first | exact xup_s | assumption | rw [xup_n (by omega)])) rfl rfl (by repeat (first | exact xup_s | assumption | rw [xup_n (by omega)])) (by omega) (by omega) (by decide) dX4_init_55 ?_
  refine X_iinc_5 C (by decide) rfl dX4_init_56 ?_
  refine X_goto C (tgt := 36) dX4_init_59 (by decide) ?_
  refine X_iload C rfl dX4_init_36 ?_
  refine X_iconst C dX4_init_38 ?_
  refine X_icmp_ge C (tgt := 62) dX4_init_39 (by decide) ⟨by omega, by omega⟩ ⟨by omega, by omega⟩ (fun c9 => ?_) (fun c9 => ?_)
  · exfalso; omega
  refine X_aload_n C rfl dX4_init_42 ?_
  refine X_get C (k := 15) (n := o) (fs := [.int (iI o), .ref (a5 11 (d)), .int (iI c), .int (iI u), .ref (a5 16 (o)), .int (iI 0), .int (iI 0), .int (iI 0)]) (v := .ref (a5 16 (o))) (by repeat (first | exact xup_s | assumption | rw [xup_n (by omega)])) fl_X4_27 rfl dX4_init_43 ?_
  refine X_iload C rfl dX4_init_46 ?_
  refine X_mkO C (k := 17) (n := 3 * o + 2) (fs := [.null, .int (iI 0), .null, .int (iI 0), .int (iI 0)]) (by repeat (first | exact xup_s | assumption | rw [xup_n (by omega)])) xcl_X6 nw_X4_25 (fun j hj => match j, hj with | 0, _ => rfl | 1, _ => rfl | 2, _ => rfl | 3, _ => rfl | 4, _ => rfl | (j + 5), h => absurd h (by omega)) (by decide) (by decide) dX4_init_48 (fun a6 o6 => ?_)
  try rw [← o6 15 (o) (by omega)]
  try rw [← o6 11 (d) (by omega)]
  try rw [← o6 16 (o) (by omega)]
  try rw [← o6 17 (3 * o + 0) (by omega)]
  try rw [← o6 18 (3 * o + 0) (by omega)]
  try rw [← o6 19 (3 * o + 0) (by omega)]
  try rw [← o6 17 (3 * o + 1) (by omega)]
  try rw [← o6 18 (3 * o + 1) (by omega)]
  try rw [← o6 19 (3 * o + 1) (by omega)]
  refine X_dup C rfl dX4_init_51 ?_
  refine X_callIg C (c_X6_init C.hlc (i := 3 * o + 2) (by repeat (first | exact xup_s | assumption | rw [xup_n (by omega)])) (by repeat (first | exact xup_s | assumption | rw [xup_n (by omega)])) (by repeat (first | exact xup_s | assumption | rw [xup_n (by omega)]))) ci_X4_31 rfl rfl rfl rfl dX4_init_52 (fun r9 a7 g9 hp => ?_)
  obtain ⟨rfl, o7, rfl⟩ := hp
  try rw [← o7 15 (o) (by omega)]
  try rw [← o7 11 (d) (by omega)]
  try rw [← o7 16 (o) (by omega)]
  try rw [← o7 17 (3 * o + 0) (by omega)]
  try rw [← o7 18 (3 * o + 0) (by omega)]
  try rw [← o7 19 (3 * o + 0) (by omega)]
  try rw [← o7 17 (3 * o + 1) (by omega)]
  try rw [← o7 18 (3 * o + 1) (by omega)]
  try rw [← o7 19 (3 * o + 1) (by omega)]
  try rw [← o7 17 (3 * o + 2) (by omega)]
  refine X_aast C (k := 16) (n := o) (t := 7) (ci := 7) (r := (RX6, TX6, 5)) (k2 := 17) (n2 := 3 * o + 2) (by repeat (first | exact xup_s | assumption | rw [xup_n (by omega)])) rfl rfl (by repeat (first | exact xup_s | assumption | rw [xup_n (by omega)])) (by omega) (by omega) (by decide) dX4_init_55 ?_
  refine X_iinc_5 C (by decide) rfl dX4_init_56 ?_
  refine X_goto C (tgt := 36) dX4_init_59 (by decide) ?_
  refine X_iload C rfl dX4_init_36 ?_
  refine X_iconst C dX4_init_38 ?_
  refine X_icmp_ge C (tgt := 62) dX4_init_39 (by decide) ⟨by omega, by omega⟩ ⟨by omega, by omega⟩ (fun c9 => ?_) (fun c9 => ?_)
  rotate_left
  · exfalso; omega
  refine X_cut (k := 16) (n := o) (f' := fun j => if (j : Int) < 3 then some (a7 17 (3 * o + (j : Int))) else none) (by repeat (first | exact xup_s | rw [xup_n (by omega)])) (fun j hj => by rcases j with _ | _ | _ | j; rfl; rfl; rfl; exact absurd hj (by omega)) ?_
  refine X_return C M (by decide) (by decide) dX4_init_62 ⟨rfl, (by intro k n9 h9; rw [o7 k n9 (by omega)]; rw [o6 k n9 (by omega)]; rw [o5 k n9 (by omega)]; rw [o4 k n9 (by omega)]; rw [o3 k n9 (by omega)]; rw [o2 k n9 (by omega)]; rw [o1 k n9 (by omega)]), ?_⟩
  funext k n9
  by_cases c0 : k = 16 ∧ n9 = o
  · rw [c0.1, c0.2]
    simp only [xup_s, xup_n (show ¬ ((16 : Nat) = 17 ∧ (o : Int) = 3 * o + 0) by omega), xup_n (show ¬ ((16 : Nat) = 18 ∧ (o : Int) = 3 * o + 0) by omega), xup_n (show ¬ ((16 : Nat) = 19 ∧ (o : Int) = 3 * o + 0) by omega), xup_n (show ¬ ((16 : Nat) = 17 ∧ (o : Int) = 3 * o + 1) by omega), xup_n (show ¬ ((16 : Nat) = 18 ∧ (o : Int) = 3 * o + 1) by omega), xup_n (show ¬ ((16 : Nat) = 19 ∧ (o : Int) = 3 * o + 1) by omega), xup_n (show ¬ ((16 : Nat) = 17 ∧ (o : Int) = 3 * o + 2) by omega), xup_n (show ¬ ((16 : Nat) = 18 ∧ (o : Int) = 3 * o + 2) by omega), xup_n (show ¬ ((16 : Nat) = 19 ∧ (o : Int) = 3 * o + 2) by omega), xup_n (show ¬ ((16 : Nat) = 15 ∧ (o : Int) = o) by omega)]
    try rfl
  by_cases c1 : k = 17 ∧ n9 = 3 * o + 0
  · rw [c1.1, c1.2]
    simp only [xup_s, xup_n (show ¬ ((17 : Nat) = 16 ∧ (3 * o + 0 : Int) = o) by omega), xup_n (show ¬ ((17 : Nat) = 18 ∧ (3 * o + 0 : Int) = 3 * o + 0) by omega), xup_n (show ¬ ((17 : Nat) = 19 ∧ (3 * o + 0 : Int) = 3 * o + 0) by omega), xup_n (show ¬ ((17 : Nat) = 17 ∧ (3 * o + 0 : Int) = 3 * o + 1) by omega), xup_n (show ¬ ((17 : Nat) = 18 ∧ (3 * o + 0 : Int) = 3 * o + 1) by omega), xup_n (show ¬ ((17 : Nat) = 19 ∧ (3 * o + 0 : Int) = 3 * o + 1) by omega), xup_n (show ¬ ((17 : Nat) = 17 ∧ (3 * o + 0 : Int) = 3 * o + 2) by omega), xup_n (show ¬ ((17 : Nat) = 18 ∧ (3 * o + 0 : Int) = 3 * o + 2) by omega), xup_n (show ¬ ((17 : Nat) = 19 ∧ (3 * o + 0 : Int) = 3 * o + 2) by omega), xup_n (show ¬ ((17 : Nat) = 15 ∧ (3 * o + 0 : Int) = o) by omega)]
    try rfl
  by_cases c2 : k = 18 ∧ n9 = 3 * o + 0
  · rw [c2.1, c2.2]
    simp only [xup_s, xup_n (show ¬ ((18 : Nat) = 16 ∧ (3 * o + 0 : Int) = o) by omega), xup_n (show ¬ ((18 : Nat) = 17 ∧ (3 * o + 0 : Int) = 3 * o + 0) by omega), xup_n (show ¬ ((18 : Nat) = 19 ∧ (3 * o + 0 : Int) = 3 * o + 0) by omega), xup_n (show ¬ ((18 : Nat) = 17 ∧ (3 * o + 0 : Int) = 3 * o + 1) by omega), xup_n (show ¬ ((18 : Nat) = 18 ∧ (3 * o + 0 : Int) = 3 * o + 1) by omega), xup_n (show ¬ ((18 : Nat) = 19 ∧ (3 * o + 0 : Int) = 3 * o + 1) by omega), xup_n (show ¬ ((18 : Nat) = 17 ∧ (3 * o + 0 : Int) = 3 * o + 2) by omega), xup_n (show ¬ ((18 : Nat) = 18 ∧ (3 * o + 0 : Int) = 3 * o + 2) by omega), xup_n (show ¬ ((18 : Nat) = 19 ∧ (3 * o + 0 : Int) = 3 * o + 2) by omega), xup_n (show ¬ ((18 : Nat) = 15 ∧ (3 * o + 0 : Int) = o) by omega)]
    try rfl
  by_cases c3 : k = 19 ∧ n9 = 3 * o + 0
  · rw [c3.1, c3.2]
    simp only [xup_s, xup_n (show ¬ ((19 : Nat) = 16 ∧ (3 * o + 0 : Int) = o) by omega), xup_n (show ¬ ((19 : Nat) = 17 ∧ (3 * o + 0 : Int) = 3 * o + 0) by omega), xup_n (show ¬ ((19 : Nat) = 18 ∧ (3 * o + 0 : Int) = 3 * o + 0) by omega), xup_n (show ¬ ((19 : Nat) = 17 ∧ (3 * o + 0 : Int) = 3 * o + 1) by omega), xup_n (show ¬ ((19 : Nat) = 18 ∧ (3 * o + 0 : Int) = 3 * o + 1) by omega), xup_n (show ¬ ((19 : Nat) = 19 ∧ (3 * o + 0 : Int) = 3 * o + 1) by omega), xup_n (show ¬ ((19 : Nat) = 17 ∧ (3 * o + 0 : Int) = 3 * o + 2) by omega), xup_n (show ¬ ((19 : Nat) = 18 ∧ (3 * o + 0 : Int) = 3 * o + 2) by omega), xup_n (show ¬ ((19 : Nat) = 19 ∧ (3 * o + 0 : Int) = 3 * o + 2) by omega), xup_n (show ¬ ((19 : Nat) = 15 ∧ (3 * o + 0 : Int) = o) by omega)]
    try rfl
  by_cases c4 : k = 17 ∧ n9 = 3 * o + 1
  · rw [c4.1, c4.2]
    simp only [xup_s, xup_n (show ¬ ((17 : Nat) = 16 ∧ (3 * o + 1 : Int) = o) by omega), xup_n (show ¬ ((17 : Nat) = 17 ∧ (3 * o + 1 : Int) = 3 * o + 0) by omega), xup_n (show ¬ ((17 : Nat) = 18 ∧ (3 * o + 1 : Int) = 3 * o + 0) by omega), xup_n (show ¬ ((17 : Nat) = 19 ∧ (3 * o + 1 : Int) = 3 * o + 0) by omega), xup_n (show ¬ ((17 : Nat) = 18 ∧ (3 * o + 1 : Int) = 3 * o + 1) by omega), xup_n (show ¬ ((17 : Nat) = 19 ∧ (3 * o + 1 : Int) = 3 * o + 1) by omega), xup_n (show ¬ ((17 : Nat) = 17 ∧ (3 * o + 1 : Int) = 3 * o + 2) by omega), xup_n (show ¬ ((17 : Nat) = 18 ∧ (3 * o + 1 : Int) = 3 * o + 2) by omega), xup_n (show ¬ ((17 : Nat) = 19 ∧ (3 * o + 1 : Int) = 3 * o + 2) by omega), xup_n (show ¬ ((17 : Nat) = 15 ∧ (3 * o + 1 : Int) = o) by omega)]
    try rfl
  by_cases c5 : k = 18 ∧ n9 = 3 * o + 1
  · rw [c5.1, c5.2]
    simp only [xup_s, xup_n (show ¬ ((18 : Nat) = 16 ∧ (3 * o + 1 : Int) = o) by omega), xup_n (show ¬ ((18 : Nat) = 17 ∧ (3 * o + 1 : Int) = 3 * o + 0) by omega), xup_n (show ¬ ((18 : Nat) = 18 ∧ (3 * o + 1 : Int) = 3 * o + 0) by omega), xup_n (show ¬ ((18 : Nat) = 19 ∧ (3 * o + 1 : Int) = 3 * o + 0) by omega), xup_n (show ¬ ((18 : Nat) = 17 ∧ (3 * o + 1 : Int) = 3 * o + 1) by omega), xup_n (show ¬ ((18 : Nat) = 19 ∧ (3 * o + 1 : Int) = 3 * o + 1) by omega), xup_n (show ¬ ((18 : Nat) = 17 ∧ (3 * o + 1 : Int) = 3 * o + 2) by omega), xup_n (show ¬ ((18 : Nat) = 18 ∧ (3 * o + 1 : Int) = 3 * o + 2) by omega), xup_n (show ¬ ((18 : Nat) = 19 ∧ (3 * o + 1 : Int) = 3 * o + 2) by omega), xup_n (show ¬ ((18 : Nat) = 15 ∧ (3 * o + 1 : Int) = o) by omega)]
    try rfl
  by_cases c6 : k = 19 ∧ n9 = 3 * o + 1
  · rw [c6.1, c6.2]
    simp only [xup_s, xup_n (show ¬ ((19 : Nat) = 16 ∧ (3 * o + 1 : Int) = o) by omega), xup_n (show ¬ ((19 : Nat) = 17 ∧ (3 * o + 1 : Int) = 3 * o + 0) by omega), xup_n (show ¬ ((19 : Nat) = 18 ∧ (3 * o + 1 : Int) = 3 * o + 0) by omega), xup_n (show ¬ ((19 : Nat) = 19 ∧ (3 * o + 1 : Int) = 3 * o + 0) by omega), xup_n (show ¬ ((19 : Nat) = 17 ∧ (3 * o + 1 : Int) = 3 * o + 1) by omega), xup_n (show ¬ ((19 : Nat) = 18 ∧ (3 * o + 1 : Int) = 3 * o + 1) by omega), xup_n (show ¬ ((19 : Nat) = 17 ∧ (3 * o + 1 : Int) = 3 * o + 2) by omega), xup_n (show ¬ ((19 : Nat) = 18 ∧ (3 * o + 1 : Int) = 3 * o + 2) by omega), xup_n (show ¬ ((19 : Nat) = 19 ∧ (3 * o + 1 : Int) = 3 * o + 2) by omega), xup_n (show ¬ ((19 : Nat) = 15 ∧ (3 * o + 1 : Int) = o) by omega)]
    try rfl
  by_cases c7 : k = 17 ∧ n9 = 3 * o + 2
  · rw [c7.1, c7.2]
    simp only [xup_s, xup_n (show ¬ ((17 : Nat) = 16 ∧ (3 * o + 2 : Int) = o) by omega), xup_n (show ¬ ((17 : Nat) = 17 ∧ (3 * o + 2 : Int) = 3 * o + 0) by omega), xup_n (show ¬ ((17 : Nat) = 18 ∧ (3 * o + 2 : Int) = 3 * o + 0) by omega), xup_n (show ¬ ((17 : Nat) = 19 ∧ (3 * o + 2 : Int) = 3 * o + 0) by omega), xup_n (show ¬ ((17 : Nat) = 17 ∧ (3 * o + 2 : Int) = 3 * o + 1) by omega), xup_n (show ¬ ((17 : Nat) = 18 ∧ (3 * o + 2 : Int) = 3 * o + 1) by omega), xup_n (show ¬ ((17 : Nat) = 19 ∧ (3 * o + 2 : Int) = 3 * o + 1) by omega), xup_n (show ¬ ((17 : Nat) = 18 ∧ (3 * o + 2 : Int) = 3 * o + 2) by omega), xup_n (show ¬ ((17 : Nat) = 19 ∧ (3 * o + 2 : Int) = 3 * o + 2) by omega), xup_n (show ¬ ((17 : Nat) = 15 ∧ (3 * o + 2 : Int) = o) by omega)]
    try rfl
  by_cases c8 : k = 18 ∧ n9 = 3 * o + 2
  · rw [c8.1, c8.2]
    simp only [xup_s, xup_n (show ¬ ((18 : Nat) = 16 ∧ (3 * o + 2 : Int) = o) by omega), xup_n (show ¬ ((18 : Nat) = 17 ∧ (3 * o + 2 : Int) = 3 * o + 0) by omega), xup_n (show ¬ ((18 : Nat) = 18 ∧ (3 * o + 2 : Int) = 3 * o + 0) by omega), xup_n (show ¬ ((18 : Nat) = 19 ∧ (3 * o + 2 : Int) = 3 * o + 0) by omega), xup_n (show ¬ ((18 : Nat) = 17 ∧ (3 * o + 2 : Int) = 3 * o + 1) by omega), xup_n (show ¬ ((18 : Nat) = 18 ∧ (3 * o + 2 : Int) = 3 * o + 1) by omega), xup_n (show ¬ ((18 : Nat) = 19 ∧ (3 * o + 2 : Int) = 3 * o + 1) by omega), xup_n (show ¬ ((18 : Nat) = 17 ∧ (3 * o + 2 : Int) = 3 * o + 2) by omega), xup_n (show ¬ ((18 : Nat) = 19 ∧ (3 * o + 2 : Int) = 3 * o + 2) by omega), xup_n (show ¬ ((18 : Nat) = 15 ∧ (3 * o + 2 : Int) = o) by omega)]
    try rfl
  by_cases c9 : k = 19 ∧ n9 = 3 * o + 2
  · rw [c9.1, c9.2]
    simp only [xup_s, xup_n (show ¬ ((19 : Nat) = 16 ∧ (3 * o + 2 : Int) = o) by omega), xup_n (show ¬ ((19 : Nat) = 17 ∧ (3 * o + 2 : Int) = 3 * o + 0) by omega), xup_n (show ¬ ((19 : Nat) = 18 ∧ (3 * o + 2 : Int) = 3 * o + 0) by omega), xup_n (show ¬ ((19 : Nat) = 19 ∧ (3 * o + 2 : Int) = 3 * o + 0) by omega), xup_n (show ¬ ((19 : Nat) = 17 ∧ (3 * o + 2 : Int) = 3 * o + 1) by omega), xup_n (show ¬ ((19 : Nat) = 18 ∧ (3 * o + 2 : Int) = 3 * o + 1) by omega), xup_n (show ¬ ((19 : Nat) = 19 ∧ (3 * o + 2 : Int) = 3 * o + 1) by omega), xup_n (show ¬ ((19 : Nat) = 17 ∧ (3 * o + 2 : Int) = 3 * o + 2) by omega), xup_n (show ¬ ((19 : Nat) = 18 ∧ (3 * o + 2 : Int) = 3 * o + 2) by omega), xup_n (show ¬ ((19 : Nat) = 15 ∧ (3 * o + 2 : Int) = o) by omega)]
    try rfl
  by_cases c10 : k = 15 ∧ n9 = o
  · rw [c10.1, c10.2]
    simp only [xup_s, xup_n (show ¬ ((15 : Nat) = 16 ∧ (o : Int) = o) by omega), xup_n (show ¬ ((15 : Nat) = 17 ∧ (o : Int) = 3 * o + 0) by omega), xup_n (show ¬ ((15 : Nat) = 18 ∧ (o : Int) = 3 * o + 0) by omega), xup_n (show ¬ ((15 : Nat) = 19 ∧ (o : Int) = 3 * o + 0) by omega), xup_n (show ¬ ((15 : Nat) = 17 ∧ (o : Int) = 3 * o + 1) by omega), xup_n (show ¬ ((15 : Nat) = 18 ∧ (o : Int) = 3 * o + 1) by omega), xup_n (show ¬ ((15 : Nat) = 19 ∧ (o : Int) = 3 * o + 1) by omega), xup_n (show ¬ ((15 : Nat) = 17 ∧ (o : Int) = 3 * o + 2) by omega), xup_n (show ¬ ((15 : Nat) = 18 ∧ (o : Int) = 3 * o + 2) by omega), xup_n (show ¬ ((15 : Nat) = 19 ∧ (o : Int) = 3 * o + 2) by omega)]
    try rfl
  simp only [xup_n c0, xup_n c1, xup_n c2, xup_n c3, xup_n c4, xup_n c5, xup_n c6, xup_n c7, xup_n c8, xup_n c9, xup_n c10]
  try rfl
