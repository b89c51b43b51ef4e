set_option maxRecDepth 100000 in
set_option maxHeartbeats 4000000 in
theorem c_X7_init {lc : Launch} (hlc : lc.stackTraces = false) {D : va_G} {Y : Nat → ClassId} {A : Nat → Prop} {g : xG} {ad : xL} {t : Int} (hg : g 12 (t) = some (.inr (8, [.null, .int (iI 0)]))) (hf13 : g 13 (t) = none) : Ct lc yX7_init cX7_init 1 none (rmL 0 1 80) D Y A ad g [.ref (ad 12 (t))] (fun r ad2 g2 => r = none ∧ (∀ k n9, ¬ (k = 13 ∧ n9 = t) → ad2 k n9 = ad k n9) ∧ g2 = xup (xup (g) 13 (t) (.inl (Y 0, 80, .inl (fun _ => iI 0)))) 12 (t) (.inr (8, [.ref (ad2 13 (t)), .int (iI 0)]))) pF := by
  refine Ct_of hlc (by decide +kernel) rfl rfl (own := RX7) (nm := "<init>") (l0 := [some (.ref (ad 12 (t)))]) rfl (Nat.le_of_ble_eq_true rfl) (fun κ C M => ?_)
  refine X_aload_n C rfl dX7_init_0 ?_
  refine X_objInit C oi_X7_3 oi_2 oi_3 (by decide) (by decide) dX7_init_1 ?_
  refine X_aload_n C rfl dX7_init_4 ?_
  refine X_bipush C ⟨by decide, by decide⟩ dX7_init_5 ?_
  refine X_mkI C (k := 13) (n := t) (N := 80) (by repeat (first | exact hf13 | rw [xup_n (by omega)])) rfl (by decide) (by decide) (by decide) dX7_init_7 (fun a1 o1 => ?_)
  try rw [← o1 12 (t) (by omega)]
  refine X_putF C M (k := 12) (n := t) (fs := [.null, .int (iI 0)]) (by repeat (first | exact hg | exact xup_s | rw [xup_n (by omega)])) ff_X7_9 rfl rfl (Nat.le_of_ble_eq_true rfl) dX7_init_9 ?_
  exact X_return C M (by decide) (by decide) dX7_init_12 ⟨rfl, (by intro k n9 h9; rw [o1 k n9 (by omega)]), rfl⟩
set_option maxRecDepth 100000 in
set_option maxHeartbeats 4000000 in
theorem c_X6_init {lc : Launch} (hlc : lc.stackTraces = false) {D : va_G} {Y : Nat → ClassId} {A : Nat → Prop} {g : xG} {ad : xL} {i : Int} (hg : g 17 (i) = some (.inr (7, [.null, .int (iI 0), .null, .int (iI 0), .int (iI 0)]))) (hf18 : g 18 (i) = none) (hf19 : g 19 (i) = none) : Ct lc yX6_init cX6_init 1 none (rmL 0 2 64) D Y A ad g [.ref (ad 17 (i))] (fun r ad2 g2 => r = none ∧ (∀ k n9, ¬ (k = 18 ∧ n9 = i ∨ k = 19 ∧ n9 = i) → ad2 k n9 = ad k n9) ∧ g2 = xup (xup (xup (g) 18 (i) (.inl (Y 0, 32, .inl (fun _ => iI 0)))) 19 (i) (.inl (Y 0, 32, .inl (fun _ => iI 0)))) 17 (i) (.inr (7, [.ref (ad2 18 (i)), .int (iI 0), .ref (ad2 19 (i)), .int (iI 0), .int (iI 0)]))) pF := by
  refine Ct_of hlc (by decide +kernel) rfl rfl (own := RX6) (nm := "<init>") (l0 := [some (.ref (ad 17 (i)))]) rfl (Nat.le_of_ble_eq_true rfl) (fun κ C M => ?_)
  refine X_aload_n C rfl dX6_init_0 ?_
  refine X_objInit C oi_X6_3 oi_2 oi_3 (by decide) (by decide) dX6_init_1 ?_
  refine X_aload_n C rfl dX6_init_4 ?_
  refine X_bipush C ⟨by decide, by decide⟩ dX6_init_5 ?_
  refine X_mkI C (k := 18) (n := i) (N := 32) (by repeat (first | exact hf18 | rw [xup_n (by omega)])) rfl (by decide) (by decide) (by decide) dX6_init_7 (fun a1 o1 => ?_)
  try rw [← o1 17 (i) (by omega)]
  refine X_putF C M (k := 17) (n := i) (fs := [.null, .int (iI 0), .null, .int (iI 0), .int (iI 0)]) (by repeat (first | exact hg | exact xup_s | rw [xup_n (by omega)])) ff_X6_9 rfl rfl (Nat.le_of_ble_eq_true rfl) dX6_init_9 ?_
  refine X_aload_n C rfl dX6_init_12 ?_
  refine X_bipush C ⟨by decide, by decide⟩ dX6_init_13 ?_
  refine X_mkI C (k := 19) (n := i) (N := 32) (by repeat (first | exact hf19 | rw [xup_n (by omega)])) rfl (by decide) (by decide) (by decide) dX6_init_15 (fun a2 o2 => ?_)
  try rw [← o2 17 (i) (by omega)]
  try rw [← o2 18 (i) (by omega)]
  refine X_putF C M (k := 17) (n := i) (fs := [.ref (a2 18 (i)), .int (iI 0), .null, .int (iI 0), .int (iI 0)]) (by repeat (first | exact hg | exact xup_s | rw [xup_n (by omega)])) ff_X6_15 rfl rfl (Nat.le_of_ble_eq_true rfl) dX6_init_17 ?_
  exact X_return C M (by decide) (by decide) dX6_init_20 ⟨rfl, (by intro k n9 h9; rw [o2 k n9 (by omega)]; rw [o1 k n9 (by omega)]), (by funext k n9; simp only [xup]; (repeat' split) <;> first | rfl | (exfalso; omega))⟩
set_option maxRecDepth 100000 in
set_option maxHeartbeats 4000000 in
theorem c_X5_init {lc : Launch} (hlc : lc.stackTraces = false) {D : va_G} {Y : Nat → ClassId} {A : Nat → Prop} {g : xG} {ad : xL}  (hg : g 9 (0) = some (.inr (6, [.null, .int (iI 0), .int (iI 0), .int (iI 0), .null]))) (hf10 : g 10 (0) = none) : Ct lc yX5_init cX5_init 1 none (rmL 0 1 32) D Y A ad g [.ref (ad 9 (0))] (fun r ad2 g2 => r = none ∧ (∀ k n9, ¬ (k = 10 ∧ n9 = 0) → ad2 k n9 = ad k n9) ∧ g2 = xup (xup (g) 10 (0) (.inl (Y 0, 32, .inl (fun _ => iI 0)))) 9 (0) (.inr (6, [.null, .int (iI 0), .int (iI 0), .int (iI 0), .ref (ad2 10 (0))]))) pF := by
  refine Ct_of hlc (by decide +kernel) rfl rfl (own := RX5) (nm := "<init>") (l0 := [some (.ref (ad 9 (0)))]) rfl (Nat.le_of_ble_eq_true rfl) (fun κ C M => ?_)
  refine X_aload_n C rfl dX5_init_0 ?_
  refine X_objInit C oi_X5_3 oi_2 oi_3 (by decide) (by decide) dX5_init_1 ?_
  refine X_aload_n C rfl dX5_init_4 ?_
  refine X_bipush C ⟨by decide, by decide⟩ dX5_init_5 ?_
  refine X_mkI C (k := 10) (n := 0) (N := 32) (by repeat (first | exact hf10 | rw [xup_n (by omega)])) rfl (by decide) (by decide) (by decide) dX5_init_7 (fun a1 o1 => ?_)
  try rw [← o1 9 (0) (by omega)]
  refine X_putF C M (k := 9) (n := 0) (fs := [.null, .int (iI 0), .int (iI 0), .int (iI 0), .null]) (by repeat (first | exact hg | exact xup_s | rw [xup_n (by omega)])) ff_X5_9 rfl rfl (Nat.le_of_ble_eq_true rfl) dX5_init_9 ?_
  exact X_return C M (by decide) (by decide) dX5_init_12 ⟨rfl, (by intro k n9 h9; rw [o1 k n9 (by omega)]), rfl⟩
set_option maxRecDepth 100000 in
set_option maxHeartbeats 4000000 in
theorem c_X3_init {lc : Launch} (hlc : lc.stackTraces = false) {D : va_G} {Y : Nat → ClassId} {A : Nat → Prop} {g : xG} {ad : xL}  (hg : g 4 (0) = some (.inr (4, [.null, .null, .null, .null, .int (iI 0)]))) (hf5 : g 5 (0) = none) (hf6 : g 6 (0) = none) (hf7 : g 7 (0) = none) (hf8 : g 8 (0) = none) : Ct lc yX3_init cX3_init 1 none (rmL 0 4 2048) D Y A ad g [.ref (ad 4 (0))] (fun r ad2 g2 => r = none ∧ (∀ k n9, ¬ (k = 5 ∧ n9 = 0 ∨ k = 6 ∧ n9 = 0 ∨ k = 7 ∧ n9 = 0 ∨ k = 8 ∧ n9 = 0) → ad2 k n9 = ad k n9) ∧ g2 = xup (xup (xup (xup (xup (g) 5 (0) (.inl (Y 0, 512, .inl (fun _ => iI 0)))) 6 (0) (.inl (Y 0, 512, .inl (fun _ => iI 0)))) 7 (0) (.inl (Y 0, 512, .inl (fun _ => iI 0)))) 8 (0) (.inl (Y 0, 512, .inl (fun _ => iI 0)))) 4 (0) (.inr (4, [.ref (ad2 5 (0)), .ref (ad2 6 (0)), .ref (ad2 7 (0)), .ref (ad2 8 (0)), .int (iI 0)]))) pF := by
  refine Ct_of hlc (by decide +kernel) rfl rfl (own := RX3) (nm := "<init>") (l0 := [some (.ref (ad 4 (0)))]) rfl (Nat.le_of_ble_eq_true rfl) (fun κ C M => ?_)
  refine X_aload_n C rfl dX3_init_0 ?_
  refine X_objInit C oi_X3_3 oi_2 oi_3 (by decide) (by decide) dX3_init_1 ?_
  refine X_aload_n C rfl dX3_init_4 ?_
  refine X_sipush C ⟨by decide, by decide⟩ dX3_init_5 ?_
  refine X_mkI C (k := 5) (n := 0) (N := 512) (by repeat (first | exact hf5 | rw [xup_n (by omega)])) rfl (by decide) (by decide) (by decide) dX3_init_8 (fun a1 o1 => ?_)
  try rw [← o1 4 (0) (by omega)]
  refine X_putF C M (k := 4) (n := 0) (fs := [.null, .null, .null, .null, .int (iI 0)]) (by repeat (first | exact hg | exact xup_s | rw [xup_n (by omega)])) ff_X3_9 rfl rfl (Nat.le_of_ble_eq_true rfl) dX3_init_10 ?_
  refine X_aload_n C rfl dX3_init_13 ?_
  refine X_sipush C ⟨by decide, by decide⟩ dX3_init_14 ?_
  refine X_mkI C (k := 6) (n := 0) (N := 512) (by repeat (first | exact hf6 | rw [xup_n (by omega)])) rfl (by decide) (by decide) (by decide) dX3_init_17 (fun a2 o2 => ?_)
  try rw [← o2 4 (0) (by omega)]
  try rw [← o2 5 (0) (by omega)]
  refine X_putF C M (k := 4) (n := 0) (fs := [.ref (a2 5 (0)), .null, .null, .null, .int (iI 0)]) (by repeat (first | exact hg | exact xup_s | rw [xup_n (by omega)])) ff_X3_15 rfl rfl (Nat.le_of_ble_eq_true rfl) dX3_init_19 ?_
  refine X_aload_n C rfl dX3_init_22 ?_
  refine X_sipush C ⟨by decide, by decide⟩ dX3_init_23 ?_
  refine X_mkI C (k := 7) (n := 0) (N := 512) (by repeat (first | exact hf7 | rw [xup_n (by omega)])) rfl (by decide) (by decide) (by decide) dX3_init_26 (fun a3 o3 => ?_)
  try rw [← o3 4 (0) (by omega)]
  try rw [← o3 5 (0) (by omega)]
  try rw [← o3 6 (0) (by omega)]
  refine X_putF C M (k := 4) (n := 0) (fs := [.ref (a3 5 (0)), .ref (a3 6 (0)), .null, .null, .int (iI 0)]) (by repeat (first | exact hg | exact xup_s | rw [xup_n (by omega)])) ff_X3_18 rfl rfl (Nat.le_of_ble_eq_true rfl) dX3_init_28 ?_
  refine X_aload_n C rfl dX3_init_31 ?_
  refine X_sipush C ⟨by decide, by decide⟩ dX3_init_32 ?_
  refine X_mkI C (k := 8) (n := 0) (N := 512) (by repeat (first | exact hf8 | rw [xup_n (by omega)])) rfl (by decide) (by decide) (by decide) dX3_init_35 (fun a4 o4 => ?_)
  try rw [← o4 4 (0) (by omega)]
  try rw [← o4 5 (0) (by omega)]
  try rw [← o4 6 (0) (by omega)]
  try rw [← o4 7 (0) (by omega)]
  refine X_putF C M (k := 4) (n := 0) (fs := [.ref (a4 5 (0)), .ref (a4 6 (0)), .ref (a4 7 (0)), .null, .int (iI 0)]) (by repeat (first | exact hg | exact xup_s | rw [xup_n (by omega)])) ff_X3_21 rfl rfl (Nat.le_of_ble_eq_true rfl) dX3_init_37 ?_
  exact X_return C M (by decide) (by decide) dX3_init_40 ⟨rfl, (by intro k n9 h9; rw [o4 k n9 (by omega)]; rw [o3 k n9 (by omega)]; rw [o2 k n9 (by omega)]; rw [o1 k n9 (by omega)]), (by funext k n9; simp only [xup]; (repeat' split) <;> first | rfl | (exfalso; omega))⟩
