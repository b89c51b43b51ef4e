set_option maxRecDepth 100000 in
set_option maxHeartbeats 4000000 in
theorem c_X0_init {lc : Launch} (hlc : lc.stackTraces = false) {D : va_G} {Y : Nat → ClassId} {A : Nat → Prop} {g : xG} {ad : xL} {c d f t : Int} (hg : g 14 (c) = some (.inr (2, [.null, .int (iI 0), .int (iI 0), .int (iI 0)]))) : Ct lc yX0_init cX0_init 4 none (rmL 0 0 0) D Y A ad g [.ref (ad 14 (c)), .ref (ad 11 (d)), .int (iI f), .int (iI t)] (fun r ad2 g2 => r = none ∧ ad2 = ad ∧ g2 = xup g 14 (c) (.inr (2, [.ref (ad 11 (d)), .int (iI f), .int (iI t), .int (iI 1)]))) pF := by
  refine Ct_of hlc (by decide +kernel) rfl rfl (own := RX0) (nm := "<init>") (l0 := [some (.ref (ad 14 (c))), some (.ref (ad 11 (d))), some (.int (iI f)), some (.int (iI t))]) rfl (Nat.le_of_ble_eq_true rfl) (fun κ C M => ?_)
  refine X_aload_n C rfl dX0_init_0 ?_
  refine X_objInit C oi_X0_1 oi_2 oi_3 (by decide) (by decide) dX0_init_1 ?_
  refine X_aload_n C rfl dX0_init_4 ?_
  refine X_aload_n C rfl dX0_init_5 ?_
  refine X_putF C M (k := 14) (n := c) (fs := [.null, .int (iI 0), .int (iI 0), .int (iI 0)]) (by repeat (first | exact xup_s | assumption | rw [xup_n (by omega)])) ff_X0_7 rfl rfl (Nat.le_of_ble_eq_true rfl) dX0_init_6 ?_
  refine X_aload_n C rfl dX0_init_9 ?_
  refine X_iload_n C rfl dX0_init_10 ?_
  refine X_put C (k := 14) (n := c) (fs := [.ref (ad 11 (d)), .int (iI 0), .int (iI 0), .int (iI 0)]) (by repeat (first | exact xup_s | assumption | rw [xup_n (by omega)])) fw_X0_13 rfl rfl (Nat.le_of_ble_eq_true rfl) dX0_init_11 ?_
  refine X_aload_n C rfl dX0_init_14 ?_
  refine X_iload_n C rfl dX0_init_15 ?_
  refine X_put C (k := 14) (n := c) (fs := [.ref (ad 11 (d)), .int (iI f), .int (iI 0), .int (iI 0)]) (by repeat (first | exact xup_s | assumption | rw [xup_n (by omega)])) fw_X0_17 rfl rfl (Nat.le_of_ble_eq_true rfl) dX0_init_16 ?_
  refine X_aload_n C rfl dX0_init_19 ?_
  refine X_iconst C dX0_init_20 ?_
  refine X_put C (k := 14) (n := c) (fs := [.ref (ad 11 (d)), .int (iI f), .int (iI t), .int (iI 0)]) (by repeat (first | exact xup_s | assumption | rw [xup_n (by omega)])) fw_X0_20 rfl rfl (Nat.le_of_ble_eq_true rfl) dX0_init_21 ?_
  exact X_return C M (by decide) (by decide) dX0_init_24 ⟨rfl, rfl, (by first | rfl | (funext k n9; simp only [xup, va_up]; (repeat' split) <;> first | rfl | (exfalso; omega)))⟩
set_option maxRecDepth 100000 in
set_option maxHeartbeats 4000000 in
theorem c_X1_init {lc : Launch} (hlc : lc.stackTraces = false) {D : va_G} {Y : Nat → ClassId} {A : Nat → Prop} {g : xG} {ad : xL} {z : Int} (hg : g 11 (z) = some (.inr (3, [.int (iI 0), .null, .null, .int (iI 0), .int (iI 0), .int (iI 0), .int (iI 0)]))) (hf12_0 : g 12 (2 * z) = none) (hf13_1 : g 13 (2 * z) = none) (hf12_2 : g 12 (2 * z + 1) = none) (hf13_3 : g 13 (2 * z + 1) = none) : Ct lc yX1_init cX1_init 2 none (rmL 1 4 164) D Y A ad g [.ref (ad 11 (z)), .int (iI z)] (fun r ad2 g2 => r = none ∧ (∀ k n9, ¬ ((k = 12 ∨ k = 13) ∧ (n9 = 2 * z ∨ n9 = 2 * z + 1)) → ad2 k n9 = ad k n9) ∧ g2 = xup (xup (xup (xup (xup g 13 (2 * z) (.inl (Y 0, 80, .inl (fun _ => iI 0)))) 13 (2 * z + 1) (.inl (Y 0, 80, .inl (fun _ => iI 0)))) 12 (2 * z) (.inr (8, [.ref (ad2 13 (2 * z)), .int (iI 0)]))) 12 (2 * z + 1) (.inr (8, [.ref (ad2 13 (2 * z + 1)), .int (iI 0)]))) 11 (z) (.inr (3, [.int (iI z), .ref (ad2 12 (2 * z)), .ref (ad2 12 (2 * z + 1)), .int (iI 0), .int (iI (-1)), .int (iI 0), .int (iI 999)]))) pF := by
  refine Ct_of hlc (by decide +kernel) rfl rfl (own := RX1) (nm := "<init>") (l0 := [some (.ref (ad 11 (z))), some (.int (iI z))]) rfl (Nat.le_of_ble_eq_true rfl) (fun κ C M => ?_)
  refine X_aload_n C rfl dX1_init_0 ?_
  refine X_objInit C oi_X1_3 oi_2 oi_3 (by decide) (by decide) dX1_init_1 ?_
  refine X_aload_n C rfl dX1_init_4 ?_
  refine X_iload_n C rfl dX1_init_5 ?_
  refine X_putF C M (k := 11) (n := z) (fs := [.int (iI 0), .null, .null, .int (iI 0), .int (iI 0), .int (iI 0), .int (iI 0)]) (by repeat (first | exact xup_s | assumption | rw [xup_n (by omega)])) ff_X1_9 rfl rfl (Nat.le_of_ble_eq_true rfl) dX1_init_6 ?_
  refine X_aload_n C rfl dX1_init_9 ?_
  refine X_mkO C (k := 12) (n := 2 * z) (fs := [.null, .int (iI 0)]) (by repeat (first | exact xup_s | assumption | rw [xup_n (by omega)])) xcl_X7 nw_X1_15 (fun j hj => match j, hj with | 0, _ => rfl | 1, _ => rfl | (j + 2), h => absurd h (by omega)) (by decide) (by decide) dX1_init_10 (fun a1 o1 => ?_)
  try rw [← o1 11 (z) (by omega)]
  refine X_dup C rfl dX1_init_13 ?_
  refine X_callIg C (c_X7_init C.hlc (t := 2 * z) (by repeat (first | exact xup_s | assumption | rw [xup_n (by omega)])) (by repeat (first | exact xup_s | assumption | rw [xup_n (by omega)]))) ci_X1_17 rfl rfl rfl rfl dX1_init_14 (fun r9 a2 g9 hp => ?_)
  obtain ⟨rfl, o2, rfl⟩ := hp
  try rw [← o2 11 (z) (by omega)]
  try rw [← o2 12 (2 * z) (by omega)]
  refine X_putF C M (k := 11) (n := z) (fs := [.int (iI z), .null, .null, .int (iI 0), .int (iI 0), .int (iI 0), .int (iI 0)]) (by repeat (first | exact xup_s | assumption | rw [xup_n (by omega)])) ff_X1_18 rfl rfl (Nat.le_of_ble_eq_true rfl) dX1_init_17 ?_
  refine X_aload_n C rfl dX1_init_20 ?_
  refine X_mkO C (k := 12) (n := 2 * z + 1) (fs := [.null, .int (iI 0)]) (by repeat (first | exact xup_s | assumption | rw [xup_n (by omega)])) xcl_X7 nw_X1_15 (fun j hj => match j, hj with | 0, _ => rfl | 1, _ => rfl | (j + 2), h => absurd h (by omega)) (by decide) (by decide) dX1_init_21 (fun a3 o3 => ?_)
  try rw [← o3 11 (z) (by omega)]
  try rw [← o3 12 (2 * z) (by omega)]
  try rw [← o3 13 (2 * z) (by omega)]
  refine X_dup C rfl dX1_init_24 ?_
  refine X_callIg C (c_X7_init C.hlc (t := 2 * z + 1) (by repeat (first | exact xup_s | assumption | rw [xup_n (by omega)])) (by repeat (first | exact xup_s | assumption | rw [xup_n (by omega)]))) ci_X1_17 rfl rfl rfl rfl dX1_init_25 (fun r9 a4 g9 hp => ?_)
  obtain ⟨rfl, o4, rfl⟩ := hp
  try rw [← o4 11 (z) (by omega)]
  try rw [← o4 12 (2 * z) (by omega)]
  try rw [← o4 13 (2 * z) (by omega)]
  try rw [← o4 12 (2 * z + 1) (by omega)]
  refine X_putF C M (k := 11) (n := z) (fs := [.int (iI z), .ref (a4 12 (2 * z)), .null, .int (iI 0), .int (iI 0), .int (iI 0), .int (iI 0)]) (by repeat (first | exact xup_s | assumption | rw [xup_n (by omega)])) ff_X1_22 rfl rfl (Nat.le_of_ble_eq_true rfl) dX1_init_28 ?_
  refine X_aload_n C rfl dX1_init_31 ?_
  refine X_iconst C dX1_init_32 ?_
  refine X_put C (k := 11) (n := z) (fs := [.int (iI z), .ref (a4 12 (2 * z)), .ref (a4 12 (2 * z + 1)), .int (iI 0), .int (iI 0), .int (iI 0), .int (iI 0)]) (by repeat (first | exact xup_s | assumption | rw [xup_n (by omega)])) fw_X1_25 rfl rfl (Nat.le_of_ble_eq_true rfl) dX1_init_33 ?_
  refine X_aload_n C rfl dX1_init_36 ?_
  refine X_sipush C ⟨by decide, by decide⟩ dX1_init_37 ?_
  refine X_put C (k := 11) (n := z) (fs := [.int (iI z), .ref (a4 12 (2 * z)), .ref (a4 12 (2 * z + 1)), .int (iI 0), .int (iI (-1)), .int (iI 0), .int (iI 0)]) (by repeat (first | exact xup_s | assumption | rw [xup_n (by omega)])) fw_X1_28 rfl rfl (Nat.le_of_ble_eq_true rfl) dX1_init_40 ?_
  exact X_return C M (by decide) (by decide) dX1_init_43 ⟨rfl, (by intro k n9 h9; rw [o4 k n9 (by omega)]; rw [o3 k n9 (by omega)]; rw [o2 k n9 (by omega)]; rw [o1 k n9 (by omega)]), (by first | rfl | (funext k n9; simp only [xup, va_up]; (repeat' split) <;> first | rfl | (exfalso; omega)))⟩
