/-! the picture's own rows: each field and array of the class and of the reference, read and written -/
theorem iz {z : Int} (h : 0 ≤ z) : ((z.toNat : Nat) : Int) = z := Int.toNat_of_nonneg h
section XT
variable {κ : xK} {D : va_G} {Y : Nat → ClassId} {A : Nat → Prop} {cc : ByteArray} {own : String} {nL : Nat} {R0 : Room} {cells slots pc : Nat} {l : List (Option Value)} {st : List Value} {ad : xL} {τ σ : xS} {ρ : xG}
theorem Xg_X8_documents (C : XB κ D Y A cc own nL R0) {idx : Nat} (hf : xFL own idx 9 0) (hd : decode cc pc = .ok (.getfield idx, 3)) (kk : X κ D A nL cells slots (pc + 3) l (.ref (ad 1 (0)) :: st) ad (jG Y (τ) (σ) ρ ad)) : X κ D A nL cells slots (pc) l (.ref (ad 0 0) :: st) ad (jG Y (τ) (σ) ρ ad) := X_get C (jG_0 rfl) hf rfl hd kk
theorem Xg_X8_documentCount (C : XB κ D Y A cc own nL R0) {v : Int} {idx : Nat} (hv : τ 30 0 0 = v) (hf : xFL own idx 9 1) (hd : decode cc pc = .ok (.getfield idx, 3)) (kk : X κ D A nL cells slots (pc + 3) l (.int (iI v) :: st) ad (jG Y (τ) (σ) ρ ad)) : X κ D A nL cells slots (pc) l (.ref (ad 0 0) :: st) ad (jG Y (τ) (σ) ρ ad) := by
  subst hv
  exact X_get C (jG_0 rfl) hf rfl hd kk
theorem Xg_X8_comments (C : XB κ D Y A cc own nL R0) {idx : Nat} (hf : xFL own idx 9 2) (hd : decode cc pc = .ok (.getfield idx, 3)) (kk : X κ D A nL cells slots (pc + 3) l (.ref (ad 2 (0)) :: st) ad (jG Y (τ) (σ) ρ ad)) : X κ D A nL cells slots (pc) l (.ref (ad 0 0) :: st) ad (jG Y (τ) (σ) ρ ad) := X_get C (jG_0 rfl) hf rfl hd kk
theorem Xg_X8_commentCount (C : XB κ D Y A cc own nL R0) {v : Int} {idx : Nat} (hv : τ 31 0 0 = v) (hf : xFL own idx 9 3) (hd : decode cc pc = .ok (.getfield idx, 3)) (kk : X κ D A nL cells slots (pc + 3) l (.int (iI v) :: st) ad (jG Y (τ) (σ) ρ ad)) : X κ D A nL cells slots (pc) l (.ref (ad 0 0) :: st) ad (jG Y (τ) (σ) ρ ad) := by
  subst hv
  exact X_get C (jG_0 rfl) hf rfl hd kk
theorem Xg_X8_orders (C : XB κ D Y A cc own nL R0) {idx : Nat} (hf : xFL own idx 9 4) (hd : decode cc pc = .ok (.getfield idx, 3)) (kk : X κ D A nL cells slots (pc + 3) l (.ref (ad 3 (0)) :: st) ad (jG Y (τ) (σ) ρ ad)) : X κ D A nL cells slots (pc) l (.ref (ad 0 0) :: st) ad (jG Y (τ) (σ) ρ ad) := X_get C (jG_0 rfl) hf rfl hd kk
theorem Xg_X8_orderCount (C : XB κ D Y A cc own nL R0) {v : Int} {idx : Nat} (hv : τ 32 0 0 = v) (hf : xFL own idx 9 5) (hd : decode cc pc = .ok (.getfield idx, 3)) (kk : X κ D A nL cells slots (pc + 3) l (.int (iI v) :: st) ad (jG Y (τ) (σ) ρ ad)) : X κ D A nL cells slots (pc) l (.ref (ad 0 0) :: st) ad (jG Y (τ) (σ) ρ ad) := by
  subst hv
  exact X_get C (jG_0 rfl) hf rfl hd kk
theorem Xg_X8_log (C : XB κ D Y A cc own nL R0) {idx : Nat} (hf : xFL own idx 9 6) (hd : decode cc pc = .ok (.getfield idx, 3)) (kk : X κ D A nL cells slots (pc + 3) l (.ref (ad 4 (0)) :: st) ad (jG Y (τ) (σ) ρ ad)) : X κ D A nL cells slots (pc) l (.ref (ad 0 0) :: st) ad (jG Y (τ) (σ) ρ ad) := X_get C (jG_0 rfl) hf rfl hd kk
theorem Xg_X8_press (C : XB κ D Y A cc own nL R0) {idx : Nat} (hf : xFL own idx 9 7) (hd : decode cc pc = .ok (.getfield idx, 3)) (kk : X κ D A nL cells slots (pc + 3) l (.ref (ad 9 (0)) :: st) ad (jG Y (τ) (σ) ρ ad)) : X κ D A nL cells slots (pc) l (.ref (ad 0 0) :: st) ad (jG Y (τ) (σ) ρ ad) := X_get C (jG_0 rfl) hf rfl hd kk
theorem Xg_X8_paperStock (C : XB κ D Y A cc own nL R0) {v : Int} {idx : Nat} (hv : τ 33 0 0 = v) (hf : xFL own idx 9 8) (hd : decode cc pc = .ok (.getfield idx, 3)) (kk : X κ D A nL cells slots (pc + 3) l (.int (iI v) :: st) ad (jG Y (τ) (σ) ρ ad)) : X κ D A nL cells slots (pc) l (.ref (ad 0 0) :: st) ad (jG Y (τ) (σ) ρ ad) := by
  subst hv
  exact X_get C (jG_0 rfl) hf rfl hd kk
theorem Xp_X8_paperStock (C : XB κ D Y A cc own nL R0) {v : Int} {idx : Nat} (hf : xFW own idx 9 8 .int) (hd : decode cc pc = .ok (.putfield idx, 3)) (kk : X κ D A nL cells slots (pc + 3) l (st) ad (jG Y (up τ 33 0 0 v) (σ) ρ ad)) : X κ D A nL cells slots (pc) l (.int (iI v) :: .ref (ad 0 0) :: st) ad (jG Y (τ) (σ) ρ ad) := by
  exact X_put C (jG_0 rfl) hf rfl rfl (Nat.le_of_ble_eq_true rfl) hd (Eq.mpr (congrArg (X κ D A nL cells slots (pc + 3) l st ad) (jP_33 rfl)) kk)
theorem Xg_X8_plateStock (C : XB κ D Y A cc own nL R0) {v : Int} {idx : Nat} (hv : τ 34 0 0 = v) (hf : xFL own idx 9 9) (hd : decode cc pc = .ok (.getfield idx, 3)) (kk : X κ D A nL cells slots (pc + 3) l (.int (iI v) :: st) ad (jG Y (τ) (σ) ρ ad)) : X κ D A nL cells slots (pc) l (.ref (ad 0 0) :: st) ad (jG Y (τ) (σ) ρ ad) := by
  subst hv
  exact X_get C (jG_0 rfl) hf rfl hd kk
theorem Xp_X8_plateStock (C : XB κ D Y A cc own nL R0) {v : Int} {idx : Nat} (hf : xFW own idx 9 9 .int) (hd : decode cc pc = .ok (.putfield idx, 3)) (kk : X κ D A nL cells slots (pc + 3) l (st) ad (jG Y (up τ 34 0 0 v) (σ) ρ ad)) : X κ D A nL cells slots (pc) l (.int (iI v) :: .ref (ad 0 0) :: st) ad (jG Y (τ) (σ) ρ ad) := by
  exact X_put C (jG_0 rfl) hf rfl rfl (Nat.le_of_ble_eq_true rfl) hd (Eq.mpr (congrArg (X κ D A nL cells slots (pc + 3) l st ad) (jP_34 rfl)) kk)
theorem Xg_X8_now (C : XB κ D Y A cc own nL R0) {v : Int} {idx : Nat} (hv : τ 39 0 0 = v) (hf : xFL own idx 9 10) (hd : decode cc pc = .ok (.getfield idx, 3)) (kk : X κ D A nL cells slots (pc + 3) l (.int (iI v) :: st) ad (jG Y (τ) (σ) ρ ad)) : X κ D A nL cells slots (pc) l (.ref (ad 0 0) :: st) ad (jG Y (τ) (σ) ρ ad) := by
  subst hv
  exact X_get C (jG_0 rfl) hf rfl hd kk
theorem Xp_X8_now (C : XB κ D Y A cc own nL R0) {v : Int} {idx : Nat} (hf : xFW own idx 9 10 .int) (hd : decode cc pc = .ok (.putfield idx, 3)) (kk : X κ D A nL cells slots (pc + 3) l (st) ad (jG Y (up τ 39 0 0 v) (σ) ρ ad)) : X κ D A nL cells slots (pc) l (.int (iI v) :: .ref (ad 0 0) :: st) ad (jG Y (τ) (σ) ρ ad) := by
  exact X_put C (jG_0 rfl) hf rfl rfl (Nat.le_of_ble_eq_true rfl) hd (Eq.mpr (congrArg (X κ D A nL cells slots (pc + 3) l st ad) (jP_39 rfl)) kk)
theorem Xg_X3_kinds (C : XB κ D Y A cc own nL R0) {idx : Nat} (hf : xFL own idx 4 0) (hd : decode cc pc = .ok (.getfield idx, 3)) (kk : X κ D A nL cells slots (pc + 3) l (.ref (ad 5 (0)) :: st) ad (jG Y (τ) (σ) ρ ad)) : X κ D A nL cells slots (pc) l (.ref (ad 4 0) :: st) ad (jG Y (τ) (σ) ρ ad) := X_get C (jG_4 rfl) hf rfl hd kk
theorem Xg_X3_documents (C : XB κ D Y A cc own nL R0) {idx : Nat} (hf : xFL own idx 4 1) (hd : decode cc pc = .ok (.getfield idx, 3)) (kk : X κ D A nL cells slots (pc + 3) l (.ref (ad 6 (0)) :: st) ad (jG Y (τ) (σ) ρ ad)) : X κ D A nL cells slots (pc) l (.ref (ad 4 0) :: st) ad (jG Y (τ) (σ) ρ ad) := X_get C (jG_4 rfl) hf rfl hd kk
theorem Xg_X3_places (C : XB κ D Y A cc own nL R0) {idx : Nat} (hf : xFL own idx 4 2) (hd : decode cc pc = .ok (.getfield idx, 3)) (kk : X κ D A nL cells slots (pc + 3) l (.ref (ad 7 (0)) :: st) ad (jG Y (τ) (σ) ρ ad)) : X κ D A nL cells slots (pc) l (.ref (ad 4 0) :: st) ad (jG Y (τ) (σ) ρ ad) := X_get C (jG_4 rfl) hf rfl hd kk
theorem Xg_X3_codes (C : XB κ D Y A cc own nL R0) {idx : Nat} (hf : xFL own idx 4 3) (hd : decode cc pc = .ok (.getfield idx, 3)) (kk : X κ D A nL cells slots (pc + 3) l (.ref (ad 8 (0)) :: st) ad (jG Y (τ) (σ) ρ ad)) : X κ D A nL cells slots (pc) l (.ref (ad 4 0) :: st) ad (jG Y (τ) (σ) ρ ad) := X_get C (jG_4 rfl) hf rfl hd kk
theorem Xg_X3_size (C : XB κ D Y A cc own nL R0) {v : Int} {idx : Nat} (hv : τ 41 0 0 = v) (hf : xFL own idx 4 4) (hd : decode cc pc = .ok (.getfield idx, 3)) (kk : X κ D A nL cells slots (pc + 3) l (.int (iI v) :: st) ad (jG Y (τ) (σ) ρ ad)) : X κ D A nL cells slots (pc) l (.ref (ad 4 0) :: st) ad (jG Y (τ) (σ) ρ ad) := by
  subst hv
  exact X_get C (jG_4 rfl) hf rfl hd kk
theorem Xp_X3_size (C : XB κ D Y A cc own nL R0) {v : Int} {idx : Nat} (hf : xFW own idx 4 4 .int) (hd : decode cc pc = .ok (.putfield idx, 3)) (kk : X κ D A nL cells slots (pc + 3) l (st) ad (jG Y (up τ 41 0 0 v) (σ) ρ ad)) : X κ D A nL cells slots (pc) l (.int (iI v) :: .ref (ad 4 0) :: st) ad (jG Y (τ) (σ) ρ ad) := by
  exact X_put C (jG_4 rfl) hf rfl rfl (Nat.le_of_ble_eq_true rfl) hd (Eq.mpr (congrArg (X κ D A nL cells slots (pc + 3) l st ad) (jP_41 rfl)) kk)
theorem Xg_X5_order (C : XB κ D Y A cc own nL R0) {q : Option Nat} {idx : Nat} (hv : xpo τ ad = q) (hf : xFL own idx 6 0) (hd : decode cc pc = .ok (.getfield idx, 3)) (kk : X κ D A nL cells slots (pc + 3) l (va_rf q :: st) ad (jG Y (τ) (σ) ρ ad)) : X κ D A nL cells slots (pc) l (.ref (ad 9 0) :: st) ad (jG Y (τ) (σ) ρ ad) := by
  subst hv
  exact X_get C (jG_9 rfl) hf rfl hd kk
theorem Xp_X5_order (C : XB κ D Y A cc own nL R0) {q : Option Nat} {v : Int} {idx : Nat} (hq : q = if v = -1 then none else some (ad 15 v)) (hf : xFW own idx 6 0 (.object "Proofpress$Order")) (hd : decode cc pc = .ok (.putfield idx, 3)) (kk : X κ D A nL cells slots (pc + 3) l (st) ad (jG Y (up τ 35 0 0 v) (σ) ρ ad)) : X κ D A nL cells slots (pc) l (va_rf q :: .ref (ad 9 0) :: st) ad (jG Y (τ) (σ) ρ ad) := by
  exact X_put C (jG_9 rfl) hf (by cases q <;> rfl) (by cases q <;> rfl) (Nat.le_of_ble_eq_true rfl) hd (Eq.mpr (congrArg (X κ D A nL cells slots (pc + 3) l st ad) (jP_35 (w := va_rf q) (by rw [hq]))) kk)
theorem Xg_X5_sheet (C : XB κ D Y A cc own nL R0) {v : Int} {idx : Nat} (hv : τ 36 0 0 = v) (hf : xFL own idx 6 1) (hd : decode cc pc = .ok (.getfield idx, 3)) (kk : X κ D A nL cells slots (pc + 3) l (.int (iI v) :: st) ad (jG Y (τ) (σ) ρ ad)) : X κ D A nL cells slots (pc) l (.ref (ad 9 0) :: st) ad (jG Y (τ) (σ) ρ ad) := by
  subst hv
  exact X_get C (jG_9 rfl) hf rfl hd kk
theorem Xp_X5_sheet (C : XB κ D Y A cc own nL R0) {v : Int} {idx : Nat} (hf : xFW own idx 6 1 .int) (hd : decode cc pc = .ok (.putfield idx, 3)) (kk : X κ D A nL cells slots (pc + 3) l (st) ad (jG Y (up τ 36 0 0 v) (σ) ρ ad)) : X κ D A nL cells slots (pc) l (.int (iI v) :: .ref (ad 9 0) :: st) ad (jG Y (τ) (σ) ρ ad) := by
  exact X_put C (jG_9 rfl) hf rfl rfl (Nat.le_of_ble_eq_true rfl) hd (Eq.mpr (congrArg (X κ D A nL cells slots (pc + 3) l st ad) (jP_36 rfl)) kk)
theorem Xg_X5_leavingHour (C : XB κ D Y A cc own nL R0) {v : Int} {idx : Nat} (hv : τ 37 0 0 = v) (hf : xFL own idx 6 2) (hd : decode cc pc = .ok (.getfield idx, 3)) (kk : X κ D A nL cells slots (pc + 3) l (.int (iI v) :: st) ad (jG Y (τ) (σ) ρ ad)) : X κ D A nL cells slots (pc) l (.ref (ad 9 0) :: st) ad (jG Y (τ) (σ) ρ ad) := by
  subst hv
  exact X_get C (jG_9 rfl) hf rfl hd kk
theorem Xp_X5_leavingHour (C : XB κ D Y A cc own nL R0) {v : Int} {idx : Nat} (hf : xFW own idx 6 2 .int) (hd : decode cc pc = .ok (.putfield idx, 3)) (kk : X κ D A nL cells slots (pc + 3) l (st) ad (jG Y (up τ 37 0 0 v) (σ) ρ ad)) : X κ D A nL cells slots (pc) l (.int (iI v) :: .ref (ad 9 0) :: st) ad (jG Y (τ) (σ) ρ ad) := by
  exact X_put C (jG_9 rfl) hf rfl rfl (Nat.le_of_ble_eq_true rfl) hd (Eq.mpr (congrArg (X κ D A nL cells slots (pc + 3) l st ad) (jP_37 rfl)) kk)
theorem Xg_X5_greatestPage (C : XB κ D Y A cc own nL R0) {v : Int} {idx : Nat} (hv : τ 38 0 0 = v) (hf : xFL own idx 6 3) (hd : decode cc pc = .ok (.getfield idx, 3)) (kk : X κ D A nL cells slots (pc + 3) l (.int (iI v) :: st) ad (jG Y (τ) (σ) ρ ad)) : X κ D A nL cells slots (pc) l (.ref (ad 9 0) :: st) ad (jG Y (τ) (σ) ρ ad) := by
  subst hv
  exact X_get C (jG_9 rfl) hf rfl hd kk
theorem Xp_X5_greatestPage (C : XB κ D Y A cc own nL R0) {v : Int} {idx : Nat} (hf : xFW own idx 6 3 .int) (hd : decode cc pc = .ok (.putfield idx, 3)) (kk : X κ D A nL cells slots (pc + 3) l (st) ad (jG Y (up τ 38 0 0 v) (σ) ρ ad)) : X κ D A nL cells slots (pc) l (.int (iI v) :: .ref (ad 9 0) :: st) ad (jG Y (τ) (σ) ρ ad) := by
  exact X_put C (jG_9 rfl) hf rfl rfl (Nat.le_of_ble_eq_true rfl) hd (Eq.mpr (congrArg (X κ D A nL cells slots (pc + 3) l st ad) (jP_38 rfl)) kk)
theorem Xg_X5_image (C : XB κ D Y A cc own nL R0) {idx : Nat} (hf : xFL own idx 6 4) (hd : decode cc pc = .ok (.getfield idx, 3)) (kk : X κ D A nL cells slots (pc + 3) l (.ref (ad 10 (0)) :: st) ad (jG Y (τ) (σ) ρ ad)) : X κ D A nL cells slots (pc) l (.ref (ad 9 0) :: st) ad (jG Y (τ) (σ) ρ ad) := X_get C (jG_9 rfl) hf rfl hd kk
theorem Xg_X1_number (C : XB κ D Y A cc own nL R0) {n : Int} {idx : Nat} (h : 0 ≤ n ∧ n < τ 30 0 0) (hf : xFL own idx 3 0) (hd : decode cc pc = .ok (.getfield idx, 3)) (kk : X κ D A nL cells slots (pc + 3) l (.int (iI n) :: st) ad (jG Y (τ) (σ) ρ ad)) : X κ D A nL cells slots (pc) l (.ref (ad 11 n) :: st) ad (jG Y (τ) (σ) ρ ad) := X_get C (jG_11 h) hf rfl hd kk
theorem Xg_X1_text (C : XB κ D Y A cc own nL R0) {n : Int} {idx : Nat} (h : 0 ≤ n ∧ n < τ 30 0 0) (hf : xFL own idx 3 1) (hd : decode cc pc = .ok (.getfield idx, 3)) (kk : X κ D A nL cells slots (pc + 3) l (.ref (ad 12 (2 * n)) :: st) ad (jG Y (τ) (σ) ρ ad)) : X κ D A nL cells slots (pc) l (.ref (ad 11 n) :: st) ad (jG Y (τ) (σ) ρ ad) := X_get C (jG_11 h) hf rfl hd kk
theorem Xg_X1_proof (C : XB κ D Y A cc own nL R0) {n : Int} {idx : Nat} (h : 0 ≤ n ∧ n < τ 30 0 0) (hf : xFL own idx 3 2) (hd : decode cc pc = .ok (.getfield idx, 3)) (kk : X κ D A nL cells slots (pc + 3) l (.ref (ad 12 (2 * n + 1)) :: st) ad (jG Y (τ) (σ) ρ ad)) : X κ D A nL cells slots (pc) l (.ref (ad 11 n) :: st) ad (jG Y (τ) (σ) ρ ad) := X_get C (jG_11 h) hf rfl hd kk
theorem Xg_X1_version (C : XB κ D Y A cc own nL R0) {n v : Int} {idx : Nat} (h : 0 ≤ n ∧ n < τ 30 0 0) (hv : τ 2 n 0 = v) (hf : xFL own idx 3 3) (hd : decode cc pc = .ok (.getfield idx, 3)) (kk : X κ D A nL cells slots (pc + 3) l (.int (iI v) :: st) ad (jG Y (τ) (σ) ρ ad)) : X κ D A nL cells slots (pc) l (.ref (ad 11 n) :: st) ad (jG Y (τ) (σ) ρ ad) := by
  subst hv
  exact X_get C (jG_11 h) hf rfl hd kk
theorem Xp_X1_version (C : XB κ D Y A cc own nL R0) {n v : Int} {idx : Nat} (h : 0 ≤ n ∧ n < τ 30 0 0) (hf : xFW own idx 3 3 .int) (hd : decode cc pc = .ok (.putfield idx, 3)) (kk : X κ D A nL cells slots (pc + 3) l (st) ad (jG Y (up τ 2 n 0 v) (σ) ρ ad)) : X κ D A nL cells slots (pc) l (.int (iI v) :: .ref (ad 11 n) :: st) ad (jG Y (τ) (σ) ρ ad) := by
  exact X_put C (jG_11 h) hf rfl rfl (Nat.le_of_ble_eq_true rfl) hd (Eq.mpr (congrArg (X κ D A nL cells slots (pc + 3) l st ad) (jP_2 h)) kk)
theorem Xg_X1_proofVersion (C : XB κ D Y A cc own nL R0) {n v : Int} {idx : Nat} (h : 0 ≤ n ∧ n < τ 30 0 0) (hv : τ 3 n 0 = v) (hf : xFL own idx 3 4) (hd : decode cc pc = .ok (.getfield idx, 3)) (kk : X κ D A nL cells slots (pc + 3) l (.int (iI v) :: st) ad (jG Y (τ) (σ) ρ ad)) : X κ D A nL cells slots (pc) l (.ref (ad 11 n) :: st) ad (jG Y (τ) (σ) ρ ad) := by
  subst hv
  exact X_get C (jG_11 h) hf rfl hd kk
theorem Xp_X1_proofVersion (C : XB κ D Y A cc own nL R0) {n v : Int} {idx : Nat} (h : 0 ≤ n ∧ n < τ 30 0 0) (hf : xFW own idx 3 4 .int) (hd : decode cc pc = .ok (.putfield idx, 3)) (kk : X κ D A nL cells slots (pc + 3) l (st) ad (jG Y (up τ 3 n 0 v) (σ) ρ ad)) : X κ D A nL cells slots (pc) l (.int (iI v) :: .ref (ad 11 n) :: st) ad (jG Y (τ) (σ) ρ ad) := by
  exact X_put C (jG_11 h) hf rfl rfl (Nat.le_of_ble_eq_true rfl) hd (Eq.mpr (congrArg (X κ D A nL cells slots (pc + 3) l st ad) (jP_3 h)) kk)
theorem Xg_X1_proofSheets (C : XB κ D Y A cc own nL R0) {n v : Int} {idx : Nat} (h : 0 ≤ n ∧ n < τ 30 0 0) (hv : τ 24 n 0 = v) (hf : xFL own idx 3 5) (hd : decode cc pc = .ok (.getfield idx, 3)) (kk : X κ D A nL cells slots (pc + 3) l (.int (iI v) :: st) ad (jG Y (τ) (σ) ρ ad)) : X κ D A nL cells slots (pc) l (.ref (ad 11 n) :: st) ad (jG Y (τ) (σ) ρ ad) := by
  subst hv
  exact X_get C (jG_11 h) hf rfl hd kk
theorem Xp_X1_proofSheets (C : XB κ D Y A cc own nL R0) {n v : Int} {idx : Nat} (h : 0 ≤ n ∧ n < τ 30 0 0) (hf : xFW own idx 3 5 .int) (hd : decode cc pc = .ok (.putfield idx, 3)) (kk : X κ D A nL cells slots (pc + 3) l (st) ad (jG Y (up τ 24 n 0 v) (σ) ρ ad)) : X κ D A nL cells slots (pc) l (.int (iI v) :: .ref (ad 11 n) :: st) ad (jG Y (τ) (σ) ρ ad) := by
  exact X_put C (jG_11 h) hf rfl rfl (Nat.le_of_ble_eq_true rfl) hd (Eq.mpr (congrArg (X κ D A nL cells slots (pc + 3) l st ad) (jP_24 h)) kk)
theorem Xg_X1_closingHour (C : XB κ D Y A cc own nL R0) {n v : Int} {idx : Nat} (h : 0 ≤ n ∧ n < τ 30 0 0) (hv : τ 4 n 0 = v) (hf : xFL own idx 3 6) (hd : decode cc pc = .ok (.getfield idx, 3)) (kk : X κ D A nL cells slots (pc + 3) l (.int (iI v) :: st) ad (jG Y (τ) (σ) ρ ad)) : X κ D A nL cells slots (pc) l (.ref (ad 11 n) :: st) ad (jG Y (τ) (σ) ρ ad) := by
  subst hv
  exact X_get C (jG_11 h) hf rfl hd kk
theorem Xp_X1_closingHour (C : XB κ D Y A cc own nL R0) {n v : Int} {idx : Nat} (h : 0 ≤ n ∧ n < τ 30 0 0) (hf : xFW own idx 3 6 .int) (hd : decode cc pc = .ok (.putfield idx, 3)) (kk : X κ D A nL cells slots (pc + 3) l (st) ad (jG Y (up τ 4 n 0 v) (σ) ρ ad)) : X κ D A nL cells slots (pc) l (.int (iI v) :: .ref (ad 11 n) :: st) ad (jG Y (τ) (σ) ρ ad) := by
  exact X_put C (jG_11 h) hf rfl rfl (Nat.le_of_ble_eq_true rfl) hd (Eq.mpr (congrArg (X κ D A nL cells slots (pc + 3) l st ad) (jP_4 h)) kk)
theorem Xg_X7_codes (C : XB κ D Y A cc own nL R0) {n : Int} {idx : Nat} (h : 0 ≤ n ∧ n < 2 * τ 30 0 0) (hf : xFL own idx 8 0) (hd : decode cc pc = .ok (.getfield idx, 3)) (kk : X κ D A nL cells slots (pc + 3) l (.ref (ad 13 (n)) :: st) ad (jG Y (τ) (σ) ρ ad)) : X κ D A nL cells slots (pc) l (.ref (ad 12 n) :: st) ad (jG Y (τ) (σ) ρ ad) := X_get C (jG_12 h) hf rfl hd kk
theorem Xg_X7_size (C : XB κ D Y A cc own nL R0) {n v : Int} {idx : Nat} (h : 0 ≤ n ∧ n < 2 * τ 30 0 0) (hv : τ 1 n 0 = v) (hf : xFL own idx 8 1) (hd : decode cc pc = .ok (.getfield idx, 3)) (kk : X κ D A nL cells slots (pc + 3) l (.int (iI v) :: st) ad (jG Y (τ) (σ) ρ ad)) : X κ D A nL cells slots (pc) l (.ref (ad 12 n) :: st) ad (jG Y (τ) (σ) ρ ad) := by
  subst hv
  exact X_get C (jG_12 h) hf rfl hd kk
theorem Xp_X7_size (C : XB κ D Y A cc own nL R0) {n v : Int} {idx : Nat} (h : 0 ≤ n ∧ n < 2 * τ 30 0 0) (hf : xFW own idx 8 1 .int) (hd : decode cc pc = .ok (.putfield idx, 3)) (kk : X κ D A nL cells slots (pc + 3) l (st) ad (jG Y (up τ 1 n 0 v) (σ) ρ ad)) : X κ D A nL cells slots (pc) l (.int (iI v) :: .ref (ad 12 n) :: st) ad (jG Y (τ) (σ) ρ ad) := by
  exact X_put C (jG_12 h) hf rfl rfl (Nat.le_of_ble_eq_true rfl) hd (Eq.mpr (congrArg (X κ D A nL cells slots (pc + 3) l st ad) (jP_1 h)) kk)
theorem Xg_X0_document (C : XB κ D Y A cc own nL R0) {n v : Int} {idx : Nat} (h : 0 ≤ n ∧ n < τ 31 0 0) (hv : τ 5 n 0 = v) (hf : xFL own idx 2 0) (hd : decode cc pc = .ok (.getfield idx, 3)) (kk : X κ D A nL cells slots (pc + 3) l (.ref (ad 11 v) :: st) ad (jG Y (τ) (σ) ρ ad)) : X κ D A nL cells slots (pc) l (.ref (ad 14 n) :: st) ad (jG Y (τ) (σ) ρ ad) := by
  subst hv
  exact X_get C (jG_14 h) hf rfl hd kk
theorem Xg_X0_from (C : XB κ D Y A cc own nL R0) {n v : Int} {idx : Nat} (h : 0 ≤ n ∧ n < τ 31 0 0) (hv : τ 6 n 0 = v) (hf : xFL own idx 2 1) (hd : decode cc pc = .ok (.getfield idx, 3)) (kk : X κ D A nL cells slots (pc + 3) l (.int (iI v) :: st) ad (jG Y (τ) (σ) ρ ad)) : X κ D A nL cells slots (pc) l (.ref (ad 14 n) :: st) ad (jG Y (τ) (σ) ρ ad) := by
  subst hv
  exact X_get C (jG_14 h) hf rfl hd kk
theorem Xp_X0_from (C : XB κ D Y A cc own nL R0) {n v : Int} {idx : Nat} (h : 0 ≤ n ∧ n < τ 31 0 0) (hf : xFW own idx 2 1 .int) (hd : decode cc pc = .ok (.putfield idx, 3)) (kk : X κ D A nL cells slots (pc + 3) l (st) ad (jG Y (up τ 6 n 0 v) (σ) ρ ad)) : X κ D A nL cells slots (pc) l (.int (iI v) :: .ref (ad 14 n) :: st) ad (jG Y (τ) (σ) ρ ad) := by
  exact X_put C (jG_14 h) hf rfl rfl (Nat.le_of_ble_eq_true rfl) hd (Eq.mpr (congrArg (X κ D A nL cells slots (pc + 3) l st ad) (jP_6 h)) kk)
theorem Xg_X0_to (C : XB κ D Y A cc own nL R0) {n v : Int} {idx : Nat} (h : 0 ≤ n ∧ n < τ 31 0 0) (hv : τ 7 n 0 = v) (hf : xFL own idx 2 2) (hd : decode cc pc = .ok (.getfield idx, 3)) (kk : X κ D A nL cells slots (pc + 3) l (.int (iI v) :: st) ad (jG Y (τ) (σ) ρ ad)) : X κ D A nL cells slots (pc) l (.ref (ad 14 n) :: st) ad (jG Y (τ) (σ) ρ ad) := by
  subst hv
  exact X_get C (jG_14 h) hf rfl hd kk
theorem Xp_X0_to (C : XB κ D Y A cc own nL R0) {n v : Int} {idx : Nat} (h : 0 ≤ n ∧ n < τ 31 0 0) (hf : xFW own idx 2 2 .int) (hd : decode cc pc = .ok (.putfield idx, 3)) (kk : X κ D A nL cells slots (pc + 3) l (st) ad (jG Y (up τ 7 n 0 v) (σ) ρ ad)) : X κ D A nL cells slots (pc) l (.int (iI v) :: .ref (ad 14 n) :: st) ad (jG Y (τ) (σ) ρ ad) := by
  exact X_put C (jG_14 h) hf rfl rfl (Nat.le_of_ble_eq_true rfl) hd (Eq.mpr (congrArg (X κ D A nL cells slots (pc + 3) l st ad) (jP_7 h)) kk)
theorem Xg_X0_open (C : XB κ D Y A cc own nL R0) {n v : Int} {idx : Nat} (h : 0 ≤ n ∧ n < τ 31 0 0) (hv : τ 8 n 0 = v) (hf : xFL own idx 2 3) (hd : decode cc pc = .ok (.getfield idx, 3)) (kk : X κ D A nL cells slots (pc + 3) l (.int (iI v) :: st) ad (jG Y (τ) (σ) ρ ad)) : X κ D A nL cells slots (pc) l (.ref (ad 14 n) :: st) ad (jG Y (τ) (σ) ρ ad) := by
  subst hv
  exact X_get C (jG_14 h) hf rfl hd kk
theorem Xp_X0_open (C : XB κ D Y A cc own nL R0) {n v : Int} {idx : Nat} (h : 0 ≤ n ∧ n < τ 31 0 0) (hb : v = 0 ∨ v = 1) (hf : xFW own idx 2 3 .boolean) (hd : decode cc pc = .ok (.putfield idx, 3)) (kk : X κ D A nL cells slots (pc + 3) l (st) ad (jG Y (up τ 8 n 0 v) (σ) ρ ad)) : X κ D A nL cells slots (pc) l (.int (iI v) :: .ref (ad 14 n) :: st) ad (jG Y (τ) (σ) ρ ad) := by
  exact X_put C (jG_14 h) hf (by rcases hb with rfl | rfl <;> rfl) (by rcases hb with rfl | rfl <;> rfl) (Nat.le_of_ble_eq_true rfl) hd (Eq.mpr (congrArg (X κ D A nL cells slots (pc + 3) l st ad) (jP_8 h)) kk)
theorem Xg_X4_number (C : XB κ D Y A cc own nL R0) {n : Int} {idx : Nat} (h : 0 ≤ n ∧ n < τ 32 0 0) (hf : xFL own idx 5 0) (hd : decode cc pc = .ok (.getfield idx, 3)) (kk : X κ D A nL cells slots (pc + 3) l (.int (iI n) :: st) ad (jG Y (τ) (σ) ρ ad)) : X κ D A nL cells slots (pc) l (.ref (ad 15 n) :: st) ad (jG Y (τ) (σ) ρ ad) := X_get C (jG_15 h) hf rfl hd kk
theorem Xg_X4_document (C : XB κ D Y A cc own nL R0) {n v : Int} {idx : Nat} (h : 0 ≤ n ∧ n < τ 32 0 0) (hv : τ 9 n 0 = v) (hf : xFL own idx 5 1) (hd : decode cc pc = .ok (.getfield idx, 3)) (kk : X κ D A nL cells slots (pc + 3) l (.ref (ad 11 v) :: st) ad (jG Y (τ) (σ) ρ ad)) : X κ D A nL cells slots (pc) l (.ref (ad 15 n) :: st) ad (jG Y (τ) (σ) ρ ad) := by
  subst hv
  exact X_get C (jG_15 h) hf rfl hd kk
theorem Xg_X4_copies (C : XB κ D Y A cc own nL R0) {n v : Int} {idx : Nat} (h : 0 ≤ n ∧ n < τ 32 0 0) (hv : τ 10 n 0 = v) (hf : xFL own idx 5 2) (hd : decode cc pc = .ok (.getfield idx, 3)) (kk : X κ D A nL cells slots (pc + 3) l (.int (iI v) :: st) ad (jG Y (τ) (σ) ρ ad)) : X κ D A nL cells slots (pc) l (.ref (ad 15 n) :: st) ad (jG Y (τ) (σ) ρ ad) := by
  subst hv
  exact X_get C (jG_15 h) hf rfl hd kk
theorem Xp_X4_copies (C : XB κ D Y A cc own nL R0) {n v : Int} {idx : Nat} (h : 0 ≤ n ∧ n < τ 32 0 0) (hf : xFW own idx 5 2 .int) (hd : decode cc pc = .ok (.putfield idx, 3)) (kk : X κ D A nL cells slots (pc + 3) l (st) ad (jG Y (up τ 10 n 0 v) (σ) ρ ad)) : X κ D A nL cells slots (pc) l (.int (iI v) :: .ref (ad 15 n) :: st) ad (jG Y (τ) (σ) ρ ad) := by
  exact X_put C (jG_15 h) hf rfl rfl (Nat.le_of_ble_eq_true rfl) hd (Eq.mpr (congrArg (X κ D A nL cells slots (pc + 3) l st ad) (jP_10 h)) kk)
theorem Xg_X4_due (C : XB κ D Y A cc own nL R0) {n v : Int} {idx : Nat} (h : 0 ≤ n ∧ n < τ 32 0 0) (hv : τ 11 n 0 = v) (hf : xFL own idx 5 3) (hd : decode cc pc = .ok (.getfield idx, 3)) (kk : X κ D A nL cells slots (pc + 3) l (.int (iI v) :: st) ad (jG Y (τ) (σ) ρ ad)) : X κ D A nL cells slots (pc) l (.ref (ad 15 n) :: st) ad (jG Y (τ) (σ) ρ ad) := by
  subst hv
  exact X_get C (jG_15 h) hf rfl hd kk
theorem Xp_X4_due (C : XB κ D Y A cc own nL R0) {n v : Int} {idx : Nat} (h : 0 ≤ n ∧ n < τ 32 0 0) (hf : xFW own idx 5 3 .int) (hd : decode cc pc = .ok (.putfield idx, 3)) (kk : X κ D A nL cells slots (pc + 3) l (st) ad (jG Y (up τ 11 n 0 v) (σ) ρ ad)) : X κ D A nL cells slots (pc) l (.int (iI v) :: .ref (ad 15 n) :: st) ad (jG Y (τ) (σ) ρ ad) := by
  exact X_put C (jG_15 h) hf rfl rfl (Nat.le_of_ble_eq_true rfl) hd (Eq.mpr (congrArg (X κ D A nL cells slots (pc + 3) l st ad) (jP_11 h)) kk)
theorem Xg_X4_records (C : XB κ D Y A cc own nL R0) {n : Int} {idx : Nat} (h : 0 ≤ n ∧ n < τ 32 0 0) (hf : xFL own idx 5 4) (hd : decode cc pc = .ok (.getfield idx, 3)) (kk : X κ D A nL cells slots (pc + 3) l (.ref (ad 16 (n)) :: st) ad (jG Y (τ) (σ) ρ ad)) : X κ D A nL cells slots (pc) l (.ref (ad 15 n) :: st) ad (jG Y (τ) (σ) ρ ad) := X_get C (jG_15 h) hf rfl hd kk
theorem Xg_X4_paperTaken (C : XB κ D Y A cc own nL R0) {n v : Int} {idx : Nat} (h : 0 ≤ n ∧ n < τ 32 0 0) (hv : τ 12 n 0 = v) (hf : xFL own idx 5 5) (hd : decode cc pc = .ok (.getfield idx, 3)) (kk : X κ D A nL cells slots (pc + 3) l (.int (iI v) :: st) ad (jG Y (τ) (σ) ρ ad)) : X κ D A nL cells slots (pc) l (.ref (ad 15 n) :: st) ad (jG Y (τ) (σ) ρ ad) := by
  subst hv
  exact X_get C (jG_15 h) hf rfl hd kk
theorem Xp_X4_paperTaken (C : XB κ D Y A cc own nL R0) {n v : Int} {idx : Nat} (h : 0 ≤ n ∧ n < τ 32 0 0) (hf : xFW own idx 5 5 .int) (hd : decode cc pc = .ok (.putfield idx, 3)) (kk : X κ D A nL cells slots (pc + 3) l (st) ad (jG Y (up τ 12 n 0 v) (σ) ρ ad)) : X κ D A nL cells slots (pc) l (.int (iI v) :: .ref (ad 15 n) :: st) ad (jG Y (τ) (σ) ρ ad) := by
  exact X_put C (jG_15 h) hf rfl rfl (Nat.le_of_ble_eq_true rfl) hd (Eq.mpr (congrArg (X κ D A nL cells slots (pc + 3) l st ad) (jP_12 h)) kk)
theorem Xg_X4_paperWasted (C : XB κ D Y A cc own nL R0) {n v : Int} {idx : Nat} (h : 0 ≤ n ∧ n < τ 32 0 0) (hv : τ 25 n 0 = v) (hf : xFL own idx 5 6) (hd : decode cc pc = .ok (.getfield idx, 3)) (kk : X κ D A nL cells slots (pc + 3) l (.int (iI v) :: st) ad (jG Y (τ) (σ) ρ ad)) : X κ D A nL cells slots (pc) l (.ref (ad 15 n) :: st) ad (jG Y (τ) (σ) ρ ad) := by
  subst hv
  exact X_get C (jG_15 h) hf rfl hd kk
theorem Xp_X4_paperWasted (C : XB κ D Y A cc own nL R0) {n v : Int} {idx : Nat} (h : 0 ≤ n ∧ n < τ 32 0 0) (hf : xFW own idx 5 6 .int) (hd : decode cc pc = .ok (.putfield idx, 3)) (kk : X κ D A nL cells slots (pc + 3) l (st) ad (jG Y (up τ 25 n 0 v) (σ) ρ ad)) : X κ D A nL cells slots (pc) l (.int (iI v) :: .ref (ad 15 n) :: st) ad (jG Y (τ) (σ) ρ ad) := by
  exact X_put C (jG_15 h) hf rfl rfl (Nat.le_of_ble_eq_true rfl) hd (Eq.mpr (congrArg (X κ D A nL cells slots (pc + 3) l st ad) (jP_25 h)) kk)
theorem Xg_X4_platesTaken (C : XB κ D Y A cc own nL R0) {n v : Int} {idx : Nat} (h : 0 ≤ n ∧ n < τ 32 0 0) (hv : τ 13 n 0 = v) (hf : xFL own idx 5 7) (hd : decode cc pc = .ok (.getfield idx, 3)) (kk : X κ D A nL cells slots (pc + 3) l (.int (iI v) :: st) ad (jG Y (τ) (σ) ρ ad)) : X κ D A nL cells slots (pc) l (.ref (ad 15 n) :: st) ad (jG Y (τ) (σ) ρ ad) := by
  subst hv
  exact X_get C (jG_15 h) hf rfl hd kk
theorem Xp_X4_platesTaken (C : XB κ D Y A cc own nL R0) {n v : Int} {idx : Nat} (h : 0 ≤ n ∧ n < τ 32 0 0) (hf : xFW own idx 5 7 .int) (hd : decode cc pc = .ok (.putfield idx, 3)) (kk : X κ D A nL cells slots (pc + 3) l (st) ad (jG Y (up τ 13 n 0 v) (σ) ρ ad)) : X κ D A nL cells slots (pc) l (.int (iI v) :: .ref (ad 15 n) :: st) ad (jG Y (τ) (σ) ρ ad) := by
  exact X_put C (jG_15 h) hf rfl rfl (Nat.le_of_ble_eq_true rfl) hd (Eq.mpr (congrArg (X κ D A nL cells slots (pc + 3) l st ad) (jP_13 h)) kk)
theorem Xg_X6_printed (C : XB κ D Y A cc own nL R0) {n : Int} {idx : Nat} (h : 0 ≤ n ∧ n < 3 * τ 32 0 0) (hf : xFL own idx 7 0) (hd : decode cc pc = .ok (.getfield idx, 3)) (kk : X κ D A nL cells slots (pc + 3) l (.ref (ad 18 (n)) :: st) ad (jG Y (τ) (σ) ρ ad)) : X κ D A nL cells slots (pc) l (.ref (ad 17 n) :: st) ad (jG Y (τ) (σ) ρ ad) := X_get C (jG_17 h) hf rfl hd kk
theorem Xg_X6_isPrinted (C : XB κ D Y A cc own nL R0) {n v : Int} {idx : Nat} (h : 0 ≤ n ∧ n < 3 * τ 32 0 0) (hv : τ 26 n 0 = v) (hf : xFL own idx 7 1) (hd : decode cc pc = .ok (.getfield idx, 3)) (kk : X κ D A nL cells slots (pc + 3) l (.int (iI v) :: st) ad (jG Y (τ) (σ) ρ ad)) : X κ D A nL cells slots (pc) l (.ref (ad 17 n) :: st) ad (jG Y (τ) (σ) ρ ad) := by
  subst hv
  exact X_get C (jG_17 h) hf rfl hd kk
theorem Xp_X6_isPrinted (C : XB κ D Y A cc own nL R0) {n v : Int} {idx : Nat} (h : 0 ≤ n ∧ n < 3 * τ 32 0 0) (hb : v = 0 ∨ v = 1) (hf : xFW own idx 7 1 .boolean) (hd : decode cc pc = .ok (.putfield idx, 3)) (kk : X κ D A nL cells slots (pc + 3) l (st) ad (jG Y (up τ 26 n 0 v) (σ) ρ ad)) : X κ D A nL cells slots (pc) l (.int (iI v) :: .ref (ad 17 n) :: st) ad (jG Y (τ) (σ) ρ ad) := by
  exact X_put C (jG_17 h) hf (by rcases hb with rfl | rfl <;> rfl) (by rcases hb with rfl | rfl <;> rfl) (Nat.le_of_ble_eq_true rfl) hd (Eq.mpr (congrArg (X κ D A nL cells slots (pc + 3) l st ad) (jP_26 h)) kk)
theorem Xg_X6_plate (C : XB κ D Y A cc own nL R0) {n : Int} {idx : Nat} (h : 0 ≤ n ∧ n < 3 * τ 32 0 0) (hf : xFL own idx 7 2) (hd : decode cc pc = .ok (.getfield idx, 3)) (kk : X κ D A nL cells slots (pc + 3) l (.ref (ad 19 (n)) :: st) ad (jG Y (τ) (σ) ρ ad)) : X κ D A nL cells slots (pc) l (.ref (ad 17 n) :: st) ad (jG Y (τ) (σ) ρ ad) := X_get C (jG_17 h) hf rfl hd kk
theorem Xg_X6_plateSize (C : XB κ D Y A cc own nL R0) {n v : Int} {idx : Nat} (h : 0 ≤ n ∧ n < 3 * τ 32 0 0) (hv : τ 27 n 0 = v) (hf : xFL own idx 7 3) (hd : decode cc pc = .ok (.getfield idx, 3)) (kk : X κ D A nL cells slots (pc + 3) l (.int (iI v) :: st) ad (jG Y (τ) (σ) ρ ad)) : X κ D A nL cells slots (pc) l (.ref (ad 17 n) :: st) ad (jG Y (τ) (σ) ρ ad) := by
  subst hv
  exact X_get C (jG_17 h) hf rfl hd kk
theorem Xp_X6_plateSize (C : XB κ D Y A cc own nL R0) {n v : Int} {idx : Nat} (h : 0 ≤ n ∧ n < 3 * τ 32 0 0) (hf : xFW own idx 7 3 .int) (hd : decode cc pc = .ok (.putfield idx, 3)) (kk : X κ D A nL cells slots (pc + 3) l (st) ad (jG Y (up τ 27 n 0 v) (σ) ρ ad)) : X κ D A nL cells slots (pc) l (.int (iI v) :: .ref (ad 17 n) :: st) ad (jG Y (τ) (σ) ρ ad) := by
  exact X_put C (jG_17 h) hf rfl rfl (Nat.le_of_ble_eq_true rfl) hd (Eq.mpr (congrArg (X κ D A nL cells slots (pc + 3) l st ad) (jP_27 h)) kk)
theorem Xg_X6_hasPlate (C : XB κ D Y A cc own nL R0) {n v : Int} {idx : Nat} (h : 0 ≤ n ∧ n < 3 * τ 32 0 0) (hv : τ 28 n 0 = v) (hf : xFL own idx 7 4) (hd : decode cc pc = .ok (.getfield idx, 3)) (kk : X κ D A nL cells slots (pc + 3) l (.int (iI v) :: st) ad (jG Y (τ) (σ) ρ ad)) : X κ D A nL cells slots (pc) l (.ref (ad 17 n) :: st) ad (jG Y (τ) (σ) ρ ad) := by
  subst hv
  exact X_get C (jG_17 h) hf rfl hd kk
theorem Xp_X6_hasPlate (C : XB κ D Y A cc own nL R0) {n v : Int} {idx : Nat} (h : 0 ≤ n ∧ n < 3 * τ 32 0 0) (hb : v = 0 ∨ v = 1) (hf : xFW own idx 7 4 .boolean) (hd : decode cc pc = .ok (.putfield idx, 3)) (kk : X κ D A nL cells slots (pc + 3) l (st) ad (jG Y (up τ 28 n 0 v) (σ) ρ ad)) : X κ D A nL cells slots (pc) l (.int (iI v) :: .ref (ad 17 n) :: st) ad (jG Y (τ) (σ) ρ ad) := by
  exact X_put C (jG_17 h) hf (by rcases hb with rfl | rfl <;> rfl) (by rcases hb with rfl | rfl <;> rfl) (Nat.le_of_ble_eq_true rfl) hd (Eq.mpr (congrArg (X κ D A nL cells slots (pc + 3) l st ad) (jP_28 h)) kk)
theorem Xa_docs_ld (C : XB κ D Y A cc own nL R0) {z : Int} (h0 : 0 ≤ z) (h1 : z < 3) (h2 : z < τ 30 0 0) (hd : decode cc pc = .ok (.aaload, 1)) (kk : X κ D A nL cells slots (pc + 1) l (.ref (ad 11 z) :: st) ad (jG Y (τ) (σ) ρ ad)) : X κ D A nL cells slots (pc) l (.int (iI z) :: .ref (ad 1 0) :: st) ad (jG Y (τ) (σ) ρ ad) := X_aald C (jG_1 rfl) rfl h0 h1 (by omega) (by rw [iz h0, if_pos h2]) hd kk
theorem Xa_coms_ld (C : XB κ D Y A cc own nL R0) {z : Int} (h0 : 0 ≤ z) (h1 : z < 8) (h2 : z < τ 31 0 0) (hd : decode cc pc = .ok (.aaload, 1)) (kk : X κ D A nL cells slots (pc + 1) l (.ref (ad 14 z) :: st) ad (jG Y (τ) (σ) ρ ad)) : X κ D A nL cells slots (pc) l (.int (iI z) :: .ref (ad 2 0) :: st) ad (jG Y (τ) (σ) ρ ad) := X_aald C (jG_2 rfl) rfl h0 h1 (by omega) (by rw [iz h0, if_pos h2]) hd kk
theorem Xa_ords_ld (C : XB κ D Y A cc own nL R0) {z : Int} (h0 : 0 ≤ z) (h1 : z < 6) (h2 : z < τ 32 0 0) (hd : decode cc pc = .ok (.aaload, 1)) (kk : X κ D A nL cells slots (pc + 1) l (.ref (ad 15 z) :: st) ad (jG Y (τ) (σ) ρ ad)) : X κ D A nL cells slots (pc) l (.int (iI z) :: .ref (ad 3 0) :: st) ad (jG Y (τ) (σ) ρ ad) := X_aald C (jG_3 rfl) rfl h0 h1 (by omega) (by rw [iz h0, if_pos h2]) hd kk
theorem Xa_lkinds_ld (C : XB κ D Y A cc own nL R0) {z v : Int} (h0 : 0 ≤ z) (h1 : z < 512) (hv : τ 20 0 z = v) (hd : decode cc pc = .ok (.iaload, 1)) (kk : X κ D A nL cells slots (pc + 1) l (.int (iI v) :: st) ad (jG Y (τ) (σ) ρ ad)) : X κ D A nL cells slots (pc) l (.int (iI z) :: .ref (ad 5 0) :: st) ad (jG Y (τ) (σ) ρ ad) := X_iald C (jG_5 rfl) h0 h1 (by omega) (by rw [iz h0, hv]) hd kk
theorem Xa_lkinds_st (C : XB κ D Y A cc own nL R0) {z v : Int} (h0 : 0 ≤ z) (h1 : z < 512) (hd : decode cc pc = .ok (.iastore, 1)) (kk : X κ D A nL cells slots (pc + 1) l (st) ad (jG Y (up τ 20 0 z v) (σ) ρ ad)) : X κ D A nL cells slots (pc) l (.int (iI v) :: .int (iI z) :: .ref (ad 5 0) :: st) ad (jG Y (τ) (σ) ρ ad) := by
  refine X_iast C (jG_5 rfl) h0 h1 (by omega) hd ?_
  rw [jA_20 rfl h0]
  exact kk
theorem Xa_ldocs_ld (C : XB κ D Y A cc own nL R0) {z v : Int} (h0 : 0 ≤ z) (h1 : z < 512) (hv : τ 21 0 z = v) (hd : decode cc pc = .ok (.iaload, 1)) (kk : X κ D A nL cells slots (pc + 1) l (.int (iI v) :: st) ad (jG Y (τ) (σ) ρ ad)) : X κ D A nL cells slots (pc) l (.int (iI z) :: .ref (ad 6 0) :: st) ad (jG Y (τ) (σ) ρ ad) := X_iald C (jG_6 rfl) h0 h1 (by omega) (by rw [iz h0, hv]) hd kk
theorem Xa_ldocs_st (C : XB κ D Y A cc own nL R0) {z v : Int} (h0 : 0 ≤ z) (h1 : z < 512) (hd : decode cc pc = .ok (.iastore, 1)) (kk : X κ D A nL cells slots (pc + 1) l (st) ad (jG Y (up τ 21 0 z v) (σ) ρ ad)) : X κ D A nL cells slots (pc) l (.int (iI v) :: .int (iI z) :: .ref (ad 6 0) :: st) ad (jG Y (τ) (σ) ρ ad) := by
  refine X_iast C (jG_6 rfl) h0 h1 (by omega) hd ?_
  rw [jA_21 rfl h0]
  exact kk
theorem Xa_lplaces_ld (C : XB κ D Y A cc own nL R0) {z v : Int} (h0 : 0 ≤ z) (h1 : z < 512) (hv : τ 22 0 z = v) (hd : decode cc pc = .ok (.iaload, 1)) (kk : X κ D A nL cells slots (pc + 1) l (.int (iI v) :: st) ad (jG Y (τ) (σ) ρ ad)) : X κ D A nL cells slots (pc) l (.int (iI z) :: .ref (ad 7 0) :: st) ad (jG Y (τ) (σ) ρ ad) := X_iald C (jG_7 rfl) h0 h1 (by omega) (by rw [iz h0, hv]) hd kk
theorem Xa_lplaces_st (C : XB κ D Y A cc own nL R0) {z v : Int} (h0 : 0 ≤ z) (h1 : z < 512) (hd : decode cc pc = .ok (.iastore, 1)) (kk : X κ D A nL cells slots (pc + 1) l (st) ad (jG Y (up τ 22 0 z v) (σ) ρ ad)) : X κ D A nL cells slots (pc) l (.int (iI v) :: .int (iI z) :: .ref (ad 7 0) :: st) ad (jG Y (τ) (σ) ρ ad) := by
  refine X_iast C (jG_7 rfl) h0 h1 (by omega) hd ?_
  rw [jA_22 rfl h0]
  exact kk
theorem Xa_lcodes_ld (C : XB κ D Y A cc own nL R0) {z v : Int} (h0 : 0 ≤ z) (h1 : z < 512) (hv : τ 23 0 z = v) (hd : decode cc pc = .ok (.iaload, 1)) (kk : X κ D A nL cells slots (pc + 1) l (.int (iI v) :: st) ad (jG Y (τ) (σ) ρ ad)) : X κ D A nL cells slots (pc) l (.int (iI z) :: .ref (ad 8 0) :: st) ad (jG Y (τ) (σ) ρ ad) := X_iald C (jG_8 rfl) h0 h1 (by omega) (by rw [iz h0, hv]) hd kk
theorem Xa_lcodes_st (C : XB κ D Y A cc own nL R0) {z v : Int} (h0 : 0 ≤ z) (h1 : z < 512) (hd : decode cc pc = .ok (.iastore, 1)) (kk : X κ D A nL cells slots (pc + 1) l (st) ad (jG Y (up τ 23 0 z v) (σ) ρ ad)) : X κ D A nL cells slots (pc) l (.int (iI v) :: .int (iI z) :: .ref (ad 8 0) :: st) ad (jG Y (τ) (σ) ρ ad) := by
  refine X_iast C (jG_8 rfl) h0 h1 (by omega) hd ?_
  rw [jA_23 rfl h0]
  exact kk
theorem Xa_image_ld (C : XB κ D Y A cc own nL R0) {z v : Int} (h0 : 0 ≤ z) (h1 : z < 32) (hv : τ 18 0 z = v) (hd : decode cc pc = .ok (.iaload, 1)) (kk : X κ D A nL cells slots (pc + 1) l (.int (iI v) :: st) ad (jG Y (τ) (σ) ρ ad)) : X κ D A nL cells slots (pc) l (.int (iI z) :: .ref (ad 10 0) :: st) ad (jG Y (τ) (σ) ρ ad) := X_iald C (jG_10 rfl) h0 h1 (by omega) (by rw [iz h0, hv]) hd kk
theorem Xa_image_st (C : XB κ D Y A cc own nL R0) {z v : Int} (h0 : 0 ≤ z) (h1 : z < 32) (hd : decode cc pc = .ok (.iastore, 1)) (kk : X κ D A nL cells slots (pc + 1) l (st) ad (jG Y (up τ 18 0 z v) (σ) ρ ad)) : X κ D A nL cells slots (pc) l (.int (iI v) :: .int (iI z) :: .ref (ad 10 0) :: st) ad (jG Y (τ) (σ) ρ ad) := by
  refine X_iast C (jG_10 rfl) h0 h1 (by omega) hd ?_
  rw [jA_18 rfl h0]
  exact kk
theorem Xa_tcodes_ld (C : XB κ D Y A cc own nL R0) {n z v : Int} (h : 0 ≤ n ∧ n < 2 * τ 30 0 0) (h0 : 0 ≤ z) (h1 : z < 80) (hv : τ 0 n z = v) (hd : decode cc pc = .ok (.iaload, 1)) (kk : X κ D A nL cells slots (pc + 1) l (.int (iI v) :: st) ad (jG Y (τ) (σ) ρ ad)) : X κ D A nL cells slots (pc) l (.int (iI z) :: .ref (ad 13 n) :: st) ad (jG Y (τ) (σ) ρ ad) := X_iald C (jG_13 h) h0 h1 (by omega) (by rw [iz h0, hv]) hd kk
theorem Xa_tcodes_st (C : XB κ D Y A cc own nL R0) {n z v : Int} (h : 0 ≤ n ∧ n < 2 * τ 30 0 0) (h0 : 0 ≤ z) (h1 : z < 80) (hd : decode cc pc = .ok (.iastore, 1)) (kk : X κ D A nL cells slots (pc + 1) l (st) ad (jG Y (up τ 0 n z v) (σ) ρ ad)) : X κ D A nL cells slots (pc) l (.int (iI v) :: .int (iI z) :: .ref (ad 13 n) :: st) ad (jG Y (τ) (σ) ρ ad) := by
  refine X_iast C (jG_13 h) h0 h1 (by omega) hd ?_
  rw [jA_0 h h0]
  exact kk
theorem Xa_recs_ld (C : XB κ D Y A cc own nL R0) {n z : Int} (h : 0 ≤ n ∧ n < τ 32 0 0) (h0 : 0 ≤ z) (h1 : z < 3) (hd : decode cc pc = .ok (.aaload, 1)) (kk : X κ D A nL cells slots (pc + 1) l (.ref (ad 17 (3 * n + z)) :: st) ad (jG Y (τ) (σ) ρ ad)) : X κ D A nL cells slots (pc) l (.int (iI z) :: .ref (ad 16 n) :: st) ad (jG Y (τ) (σ) ρ ad) := X_aald C (jG_16 h) rfl h0 h1 (by omega) (by rw [iz h0, if_pos h1]) hd kk
theorem Xa_printed_ld (C : XB κ D Y A cc own nL R0) {n z v : Int} (h : 0 ≤ n ∧ n < 3 * τ 32 0 0) (h0 : 0 ≤ z) (h1 : z < 32) (hv : τ 16 n z = v) (hd : decode cc pc = .ok (.iaload, 1)) (kk : X κ D A nL cells slots (pc + 1) l (.int (iI v) :: st) ad (jG Y (τ) (σ) ρ ad)) : X κ D A nL cells slots (pc) l (.int (iI z) :: .ref (ad 18 n) :: st) ad (jG Y (τ) (σ) ρ ad) := X_iald C (jG_18 h) h0 h1 (by omega) (by rw [iz h0, hv]) hd kk
theorem Xa_printed_st (C : XB κ D Y A cc own nL R0) {n z v : Int} (h : 0 ≤ n ∧ n < 3 * τ 32 0 0) (h0 : 0 ≤ z) (h1 : z < 32) (hd : decode cc pc = .ok (.iastore, 1)) (kk : X κ D A nL cells slots (pc + 1) l (st) ad (jG Y (up τ 16 n z v) (σ) ρ ad)) : X κ D A nL cells slots (pc) l (.int (iI v) :: .int (iI z) :: .ref (ad 18 n) :: st) ad (jG Y (τ) (σ) ρ ad) := by
  refine X_iast C (jG_18 h) h0 h1 (by omega) hd ?_
  rw [jA_16 h h0]
  exact kk
theorem Xa_plate_ld (C : XB κ D Y A cc own nL R0) {n z v : Int} (h : 0 ≤ n ∧ n < 3 * τ 32 0 0) (h0 : 0 ≤ z) (h1 : z < 32) (hv : τ 17 n z = v) (hd : decode cc pc = .ok (.iaload, 1)) (kk : X κ D A nL cells slots (pc + 1) l (.int (iI v) :: st) ad (jG Y (τ) (σ) ρ ad)) : X κ D A nL cells slots (pc) l (.int (iI z) :: .ref (ad 19 n) :: st) ad (jG Y (τ) (σ) ρ ad) := X_iald C (jG_19 h) h0 h1 (by omega) (by rw [iz h0, hv]) hd kk
theorem Xa_plate_st (C : XB κ D Y A cc own nL R0) {n z v : Int} (h : 0 ≤ n ∧ n < 3 * τ 32 0 0) (h0 : 0 ≤ z) (h1 : z < 32) (hd : decode cc pc = .ok (.iastore, 1)) (kk : X κ D A nL cells slots (pc + 1) l (st) ad (jG Y (up τ 17 n z v) (σ) ρ ad)) : X κ D A nL cells slots (pc) l (.int (iI v) :: .int (iI z) :: .ref (ad 19 n) :: st) ad (jG Y (τ) (σ) ρ ad) := by
  refine X_iast C (jG_19 h) h0 h1 (by omega) hd ?_
  rw [jA_17 h h0]
  exact kk
theorem Xg_X9_texts (C : XB κ D Y A cc own nL R0) {idx : Nat} (hf : xFL own idx 10 0) (hd : decode cc pc = .ok (.getfield idx, 3)) (kk : X κ D A nL cells slots (pc + 3) l (.ref (ad 21 0) :: st) ad (jG Y (τ) (σ) ρ ad)) : X κ D A nL cells slots (pc) l (.ref (ad 20 0) :: st) ad (jG Y (τ) (σ) ρ ad) := X_get C jG_20 hf rfl hd kk
theorem Xg_X9_lengths (C : XB κ D Y A cc own nL R0) {idx : Nat} (hf : xFL own idx 10 1) (hd : decode cc pc = .ok (.getfield idx, 3)) (kk : X κ D A nL cells slots (pc + 3) l (.ref (ad 22 0) :: st) ad (jG Y (τ) (σ) ρ ad)) : X κ D A nL cells slots (pc) l (.ref (ad 20 0) :: st) ad (jG Y (τ) (σ) ρ ad) := X_get C jG_20 hf rfl hd kk
theorem Xg_X9_versions (C : XB κ D Y A cc own nL R0) {idx : Nat} (hf : xFL own idx 10 2) (hd : decode cc pc = .ok (.getfield idx, 3)) (kk : X κ D A nL cells slots (pc + 3) l (.ref (ad 23 0) :: st) ad (jG Y (τ) (σ) ρ ad)) : X κ D A nL cells slots (pc) l (.ref (ad 20 0) :: st) ad (jG Y (τ) (σ) ρ ad) := X_get C jG_20 hf rfl hd kk
theorem Xg_X9_closings (C : XB κ D Y A cc own nL R0) {idx : Nat} (hf : xFL own idx 10 3) (hd : decode cc pc = .ok (.getfield idx, 3)) (kk : X κ D A nL cells slots (pc + 3) l (.ref (ad 24 0) :: st) ad (jG Y (τ) (σ) ρ ad)) : X κ D A nL cells slots (pc) l (.ref (ad 20 0) :: st) ad (jG Y (τ) (σ) ρ ad) := X_get C jG_20 hf rfl hd kk
theorem Xg_X9_proofs (C : XB κ D Y A cc own nL R0) {idx : Nat} (hf : xFL own idx 10 4) (hd : decode cc pc = .ok (.getfield idx, 3)) (kk : X κ D A nL cells slots (pc + 3) l (.ref (ad 25 0) :: st) ad (jG Y (τ) (σ) ρ ad)) : X κ D A nL cells slots (pc) l (.ref (ad 20 0) :: st) ad (jG Y (τ) (σ) ρ ad) := X_get C jG_20 hf rfl hd kk
theorem Xg_X9_proofLengths (C : XB κ D Y A cc own nL R0) {idx : Nat} (hf : xFL own idx 10 5) (hd : decode cc pc = .ok (.getfield idx, 3)) (kk : X κ D A nL cells slots (pc + 3) l (.ref (ad 26 0) :: st) ad (jG Y (τ) (σ) ρ ad)) : X κ D A nL cells slots (pc) l (.ref (ad 20 0) :: st) ad (jG Y (τ) (σ) ρ ad) := X_get C jG_20 hf rfl hd kk
theorem Xg_X9_proofVersions (C : XB κ D Y A cc own nL R0) {idx : Nat} (hf : xFL own idx 10 6) (hd : decode cc pc = .ok (.getfield idx, 3)) (kk : X κ D A nL cells slots (pc + 3) l (.ref (ad 27 0) :: st) ad (jG Y (τ) (σ) ρ ad)) : X κ D A nL cells slots (pc) l (.ref (ad 20 0) :: st) ad (jG Y (τ) (σ) ρ ad) := X_get C jG_20 hf rfl hd kk
theorem Xg_X9_documents (C : XB κ D Y A cc own nL R0) {v : Int} {idx : Nat} (hv : σ 30 0 0 = v) (hf : xFL own idx 10 7) (hd : decode cc pc = .ok (.getfield idx, 3)) (kk : X κ D A nL cells slots (pc + 3) l (.int (iI v) :: st) ad (jG Y (τ) (σ) ρ ad)) : X κ D A nL cells slots (pc) l (.ref (ad 20 0) :: st) ad (jG Y (τ) (σ) ρ ad) := by
  subst hv
  exact X_get C jG_20 hf rfl hd kk
theorem Xp_X9_documents (C : XB κ D Y A cc own nL R0) {v : Int} {idx : Nat} (hf : xFW own idx 10 7 .int) (hd : decode cc pc = .ok (.putfield idx, 3)) (kk : X κ D A nL cells slots (pc + 3) l (st) ad (jG Y (τ) (up σ 30 0 0 v) ρ ad)) : X κ D A nL cells slots (pc) l (.int (iI v) :: .ref (ad 20 0) :: st) ad (jG Y (τ) (σ) ρ ad) := X_put C jG_20 hf rfl rfl (Nat.le_of_ble_eq_true rfl) hd (Eq.mpr (congrArg (X κ D A nL cells slots (pc + 3) l st ad) mP_30) kk)
theorem Xg_X9_commentOn (C : XB κ D Y A cc own nL R0) {idx : Nat} (hf : xFL own idx 10 8) (hd : decode cc pc = .ok (.getfield idx, 3)) (kk : X κ D A nL cells slots (pc + 3) l (.ref (ad 28 0) :: st) ad (jG Y (τ) (σ) ρ ad)) : X κ D A nL cells slots (pc) l (.ref (ad 20 0) :: st) ad (jG Y (τ) (σ) ρ ad) := X_get C jG_20 hf rfl hd kk
theorem Xg_X9_spanFrom (C : XB κ D Y A cc own nL R0) {idx : Nat} (hf : xFL own idx 10 9) (hd : decode cc pc = .ok (.getfield idx, 3)) (kk : X κ D A nL cells slots (pc + 3) l (.ref (ad 29 0) :: st) ad (jG Y (τ) (σ) ρ ad)) : X κ D A nL cells slots (pc) l (.ref (ad 20 0) :: st) ad (jG Y (τ) (σ) ρ ad) := X_get C jG_20 hf rfl hd kk
theorem Xg_X9_spanTo (C : XB κ D Y A cc own nL R0) {idx : Nat} (hf : xFL own idx 10 10) (hd : decode cc pc = .ok (.getfield idx, 3)) (kk : X κ D A nL cells slots (pc + 3) l (.ref (ad 30 0) :: st) ad (jG Y (τ) (σ) ρ ad)) : X κ D A nL cells slots (pc) l (.ref (ad 20 0) :: st) ad (jG Y (τ) (σ) ρ ad) := X_get C jG_20 hf rfl hd kk
theorem Xg_X9_isOpen (C : XB κ D Y A cc own nL R0) {idx : Nat} (hf : xFL own idx 10 11) (hd : decode cc pc = .ok (.getfield idx, 3)) (kk : X κ D A nL cells slots (pc + 3) l (.ref (ad 31 0) :: st) ad (jG Y (τ) (σ) ρ ad)) : X κ D A nL cells slots (pc) l (.ref (ad 20 0) :: st) ad (jG Y (τ) (σ) ρ ad) := X_get C jG_20 hf rfl hd kk
theorem Xg_X9_comments (C : XB κ D Y A cc own nL R0) {v : Int} {idx : Nat} (hv : σ 31 0 0 = v) (hf : xFL own idx 10 12) (hd : decode cc pc = .ok (.getfield idx, 3)) (kk : X κ D A nL cells slots (pc + 3) l (.int (iI v) :: st) ad (jG Y (τ) (σ) ρ ad)) : X κ D A nL cells slots (pc) l (.ref (ad 20 0) :: st) ad (jG Y (τ) (σ) ρ ad) := by
  subst hv
  exact X_get C jG_20 hf rfl hd kk
theorem Xp_X9_comments (C : XB κ D Y A cc own nL R0) {v : Int} {idx : Nat} (hf : xFW own idx 10 12 .int) (hd : decode cc pc = .ok (.putfield idx, 3)) (kk : X κ D A nL cells slots (pc + 3) l (st) ad (jG Y (τ) (up σ 31 0 0 v) ρ ad)) : X κ D A nL cells slots (pc) l (.int (iI v) :: .ref (ad 20 0) :: st) ad (jG Y (τ) (σ) ρ ad) := X_put C jG_20 hf rfl rfl (Nat.le_of_ble_eq_true rfl) hd (Eq.mpr (congrArg (X κ D A nL cells slots (pc + 3) l st ad) mP_31) kk)
theorem Xg_X9_orderOf (C : XB κ D Y A cc own nL R0) {idx : Nat} (hf : xFL own idx 10 13) (hd : decode cc pc = .ok (.getfield idx, 3)) (kk : X κ D A nL cells slots (pc + 3) l (.ref (ad 32 0) :: st) ad (jG Y (τ) (σ) ρ ad)) : X κ D A nL cells slots (pc) l (.ref (ad 20 0) :: st) ad (jG Y (τ) (σ) ρ ad) := X_get C jG_20 hf rfl hd kk
theorem Xg_X9_copies (C : XB κ D Y A cc own nL R0) {idx : Nat} (hf : xFL own idx 10 14) (hd : decode cc pc = .ok (.getfield idx, 3)) (kk : X κ D A nL cells slots (pc + 3) l (.ref (ad 33 0) :: st) ad (jG Y (τ) (σ) ρ ad)) : X κ D A nL cells slots (pc) l (.ref (ad 20 0) :: st) ad (jG Y (τ) (σ) ρ ad) := X_get C jG_20 hf rfl hd kk
theorem Xg_X9_dues (C : XB κ D Y A cc own nL R0) {idx : Nat} (hf : xFL own idx 10 15) (hd : decode cc pc = .ok (.getfield idx, 3)) (kk : X κ D A nL cells slots (pc + 3) l (.ref (ad 34 0) :: st) ad (jG Y (τ) (σ) ρ ad)) : X κ D A nL cells slots (pc) l (.ref (ad 20 0) :: st) ad (jG Y (τ) (σ) ρ ad) := X_get C jG_20 hf rfl hd kk
theorem Xg_X9_paperFor (C : XB κ D Y A cc own nL R0) {idx : Nat} (hf : xFL own idx 10 16) (hd : decode cc pc = .ok (.getfield idx, 3)) (kk : X κ D A nL cells slots (pc + 3) l (.ref (ad 35 0) :: st) ad (jG Y (τ) (σ) ρ ad)) : X κ D A nL cells slots (pc) l (.ref (ad 20 0) :: st) ad (jG Y (τ) (σ) ρ ad) := X_get C jG_20 hf rfl hd kk
theorem Xg_X9_platesFor (C : XB κ D Y A cc own nL R0) {idx : Nat} (hf : xFL own idx 10 17) (hd : decode cc pc = .ok (.getfield idx, 3)) (kk : X κ D A nL cells slots (pc + 3) l (.ref (ad 36 0) :: st) ad (jG Y (τ) (σ) ρ ad)) : X κ D A nL cells slots (pc) l (.ref (ad 20 0) :: st) ad (jG Y (τ) (σ) ρ ad) := X_get C jG_20 hf rfl hd kk
theorem Xg_X9_orders (C : XB κ D Y A cc own nL R0) {v : Int} {idx : Nat} (hv : σ 32 0 0 = v) (hf : xFL own idx 10 18) (hd : decode cc pc = .ok (.getfield idx, 3)) (kk : X κ D A nL cells slots (pc + 3) l (.int (iI v) :: st) ad (jG Y (τ) (σ) ρ ad)) : X κ D A nL cells slots (pc) l (.ref (ad 20 0) :: st) ad (jG Y (τ) (σ) ρ ad) := by
  subst hv
  exact X_get C jG_20 hf rfl hd kk
theorem Xp_X9_orders (C : XB κ D Y A cc own nL R0) {v : Int} {idx : Nat} (hf : xFW own idx 10 18 .int) (hd : decode cc pc = .ok (.putfield idx, 3)) (kk : X κ D A nL cells slots (pc + 3) l (st) ad (jG Y (τ) (up σ 32 0 0 v) ρ ad)) : X κ D A nL cells slots (pc) l (.int (iI v) :: .ref (ad 20 0) :: st) ad (jG Y (τ) (σ) ρ ad) := X_put C jG_20 hf rfl rfl (Nat.le_of_ble_eq_true rfl) hd (Eq.mpr (congrArg (X κ D A nL cells slots (pc + 3) l st ad) mP_32) kk)
theorem Xg_X9_printings (C : XB κ D Y A cc own nL R0) {idx : Nat} (hf : xFL own idx 10 19) (hd : decode cc pc = .ok (.getfield idx, 3)) (kk : X κ D A nL cells slots (pc + 3) l (.ref (ad 37 0) :: st) ad (jG Y (τ) (σ) ρ ad)) : X κ D A nL cells slots (pc) l (.ref (ad 20 0) :: st) ad (jG Y (τ) (σ) ρ ad) := X_get C jG_20 hf rfl hd kk
theorem Xg_X9_plateLength (C : XB κ D Y A cc own nL R0) {idx : Nat} (hf : xFL own idx 10 20) (hd : decode cc pc = .ok (.getfield idx, 3)) (kk : X κ D A nL cells slots (pc + 3) l (.ref (ad 38 0) :: st) ad (jG Y (τ) (σ) ρ ad)) : X κ D A nL cells slots (pc) l (.ref (ad 20 0) :: st) ad (jG Y (τ) (σ) ρ ad) := X_get C jG_20 hf rfl hd kk
theorem Xg_X9_printed (C : XB κ D Y A cc own nL R0) {idx : Nat} (hf : xFL own idx 10 21) (hd : decode cc pc = .ok (.getfield idx, 3)) (kk : X κ D A nL cells slots (pc + 3) l (.ref (ad 39 0) :: st) ad (jG Y (τ) (σ) ρ ad)) : X κ D A nL cells slots (pc) l (.ref (ad 20 0) :: st) ad (jG Y (τ) (σ) ρ ad) := X_get C jG_20 hf rfl hd kk
theorem Xg_X9_plate (C : XB κ D Y A cc own nL R0) {idx : Nat} (hf : xFL own idx 10 22) (hd : decode cc pc = .ok (.getfield idx, 3)) (kk : X κ D A nL cells slots (pc + 3) l (.ref (ad 40 0) :: st) ad (jG Y (τ) (σ) ρ ad)) : X κ D A nL cells slots (pc) l (.ref (ad 20 0) :: st) ad (jG Y (τ) (σ) ρ ad) := X_get C jG_20 hf rfl hd kk
theorem Xg_X9_paper (C : XB κ D Y A cc own nL R0) {v : Int} {idx : Nat} (hv : σ 33 0 0 = v) (hf : xFL own idx 10 23) (hd : decode cc pc = .ok (.getfield idx, 3)) (kk : X κ D A nL cells slots (pc + 3) l (.int (iI v) :: st) ad (jG Y (τ) (σ) ρ ad)) : X κ D A nL cells slots (pc) l (.ref (ad 20 0) :: st) ad (jG Y (τ) (σ) ρ ad) := by
  subst hv
  exact X_get C jG_20 hf rfl hd kk
theorem Xp_X9_paper (C : XB κ D Y A cc own nL R0) {v : Int} {idx : Nat} (hf : xFW own idx 10 23 .int) (hd : decode cc pc = .ok (.putfield idx, 3)) (kk : X κ D A nL cells slots (pc + 3) l (st) ad (jG Y (τ) (up σ 33 0 0 v) ρ ad)) : X κ D A nL cells slots (pc) l (.int (iI v) :: .ref (ad 20 0) :: st) ad (jG Y (τ) (σ) ρ ad) := X_put C jG_20 hf rfl rfl (Nat.le_of_ble_eq_true rfl) hd (Eq.mpr (congrArg (X κ D A nL cells slots (pc + 3) l st ad) mP_33) kk)
theorem Xg_X9_plates (C : XB κ D Y A cc own nL R0) {v : Int} {idx : Nat} (hv : σ 34 0 0 = v) (hf : xFL own idx 10 24) (hd : decode cc pc = .ok (.getfield idx, 3)) (kk : X κ D A nL cells slots (pc + 3) l (.int (iI v) :: st) ad (jG Y (τ) (σ) ρ ad)) : X κ D A nL cells slots (pc) l (.ref (ad 20 0) :: st) ad (jG Y (τ) (σ) ρ ad) := by
  subst hv
  exact X_get C jG_20 hf rfl hd kk
theorem Xp_X9_plates (C : XB κ D Y A cc own nL R0) {v : Int} {idx : Nat} (hf : xFW own idx 10 24 .int) (hd : decode cc pc = .ok (.putfield idx, 3)) (kk : X κ D A nL cells slots (pc + 3) l (st) ad (jG Y (τ) (up σ 34 0 0 v) ρ ad)) : X κ D A nL cells slots (pc) l (.int (iI v) :: .ref (ad 20 0) :: st) ad (jG Y (τ) (σ) ρ ad) := X_put C jG_20 hf rfl rfl (Nat.le_of_ble_eq_true rfl) hd (Eq.mpr (congrArg (X κ D A nL cells slots (pc + 3) l st ad) mP_34) kk)
theorem Xg_X9_pressOrder (C : XB κ D Y A cc own nL R0) {v : Int} {idx : Nat} (hv : σ 35 0 0 = v) (hf : xFL own idx 10 25) (hd : decode cc pc = .ok (.getfield idx, 3)) (kk : X κ D A nL cells slots (pc + 3) l (.int (iI v) :: st) ad (jG Y (τ) (σ) ρ ad)) : X κ D A nL cells slots (pc) l (.ref (ad 20 0) :: st) ad (jG Y (τ) (σ) ρ ad) := by
  subst hv
  exact X_get C jG_20 hf rfl hd kk
theorem Xp_X9_pressOrder (C : XB κ D Y A cc own nL R0) {v : Int} {idx : Nat} (hf : xFW own idx 10 25 .int) (hd : decode cc pc = .ok (.putfield idx, 3)) (kk : X κ D A nL cells slots (pc + 3) l (st) ad (jG Y (τ) (up σ 35 0 0 v) ρ ad)) : X κ D A nL cells slots (pc) l (.int (iI v) :: .ref (ad 20 0) :: st) ad (jG Y (τ) (σ) ρ ad) := X_put C jG_20 hf rfl rfl (Nat.le_of_ble_eq_true rfl) hd (Eq.mpr (congrArg (X κ D A nL cells slots (pc + 3) l st ad) mP_35) kk)
theorem Xg_X9_pressSheet (C : XB κ D Y A cc own nL R0) {v : Int} {idx : Nat} (hv : σ 36 0 0 = v) (hf : xFL own idx 10 26) (hd : decode cc pc = .ok (.getfield idx, 3)) (kk : X κ D A nL cells slots (pc + 3) l (.int (iI v) :: st) ad (jG Y (τ) (σ) ρ ad)) : X κ D A nL cells slots (pc) l (.ref (ad 20 0) :: st) ad (jG Y (τ) (σ) ρ ad) := by
  subst hv
  exact X_get C jG_20 hf rfl hd kk
theorem Xp_X9_pressSheet (C : XB κ D Y A cc own nL R0) {v : Int} {idx : Nat} (hf : xFW own idx 10 26 .int) (hd : decode cc pc = .ok (.putfield idx, 3)) (kk : X κ D A nL cells slots (pc + 3) l (st) ad (jG Y (τ) (up σ 36 0 0 v) ρ ad)) : X κ D A nL cells slots (pc) l (.int (iI v) :: .ref (ad 20 0) :: st) ad (jG Y (τ) (σ) ρ ad) := X_put C jG_20 hf rfl rfl (Nat.le_of_ble_eq_true rfl) hd (Eq.mpr (congrArg (X κ D A nL cells slots (pc + 3) l st ad) mP_36) kk)
theorem Xg_X9_pressUntil (C : XB κ D Y A cc own nL R0) {v : Int} {idx : Nat} (hv : σ 37 0 0 = v) (hf : xFL own idx 10 27) (hd : decode cc pc = .ok (.getfield idx, 3)) (kk : X κ D A nL cells slots (pc + 3) l (.int (iI v) :: st) ad (jG Y (τ) (σ) ρ ad)) : X κ D A nL cells slots (pc) l (.ref (ad 20 0) :: st) ad (jG Y (τ) (σ) ρ ad) := by
  subst hv
  exact X_get C jG_20 hf rfl hd kk
theorem Xp_X9_pressUntil (C : XB κ D Y A cc own nL R0) {v : Int} {idx : Nat} (hf : xFW own idx 10 27 .int) (hd : decode cc pc = .ok (.putfield idx, 3)) (kk : X κ D A nL cells slots (pc + 3) l (st) ad (jG Y (τ) (up σ 37 0 0 v) ρ ad)) : X κ D A nL cells slots (pc) l (.int (iI v) :: .ref (ad 20 0) :: st) ad (jG Y (τ) (σ) ρ ad) := X_put C jG_20 hf rfl rfl (Nat.le_of_ble_eq_true rfl) hd (Eq.mpr (congrArg (X κ D A nL cells slots (pc + 3) l st ad) mP_37) kk)
theorem Xg_X9_pressMost (C : XB κ D Y A cc own nL R0) {v : Int} {idx : Nat} (hv : σ 38 0 0 = v) (hf : xFL own idx 10 28) (hd : decode cc pc = .ok (.getfield idx, 3)) (kk : X κ D A nL cells slots (pc + 3) l (.int (iI v) :: st) ad (jG Y (τ) (σ) ρ ad)) : X κ D A nL cells slots (pc) l (.ref (ad 20 0) :: st) ad (jG Y (τ) (σ) ρ ad) := by
  subst hv
  exact X_get C jG_20 hf rfl hd kk
theorem Xp_X9_pressMost (C : XB κ D Y A cc own nL R0) {v : Int} {idx : Nat} (hf : xFW own idx 10 28 .int) (hd : decode cc pc = .ok (.putfield idx, 3)) (kk : X κ D A nL cells slots (pc + 3) l (st) ad (jG Y (τ) (up σ 38 0 0 v) ρ ad)) : X κ D A nL cells slots (pc) l (.int (iI v) :: .ref (ad 20 0) :: st) ad (jG Y (τ) (σ) ρ ad) := X_put C jG_20 hf rfl rfl (Nat.le_of_ble_eq_true rfl) hd (Eq.mpr (congrArg (X κ D A nL cells slots (pc + 3) l st ad) mP_38) kk)
theorem Xg_X9_onPress (C : XB κ D Y A cc own nL R0) {idx : Nat} (hf : xFL own idx 10 29) (hd : decode cc pc = .ok (.getfield idx, 3)) (kk : X κ D A nL cells slots (pc + 3) l (.ref (ad 41 0) :: st) ad (jG Y (τ) (σ) ρ ad)) : X κ D A nL cells slots (pc) l (.ref (ad 20 0) :: st) ad (jG Y (τ) (σ) ρ ad) := X_get C jG_20 hf rfl hd kk
theorem Xg_X9_hour (C : XB κ D Y A cc own nL R0) {v : Int} {idx : Nat} (hv : σ 39 0 0 = v) (hf : xFL own idx 10 30) (hd : decode cc pc = .ok (.getfield idx, 3)) (kk : X κ D A nL cells slots (pc + 3) l (.int (iI v) :: st) ad (jG Y (τ) (σ) ρ ad)) : X κ D A nL cells slots (pc) l (.ref (ad 20 0) :: st) ad (jG Y (τ) (σ) ρ ad) := by
  subst hv
  exact X_get C jG_20 hf rfl hd kk
theorem Xp_X9_hour (C : XB κ D Y A cc own nL R0) {v : Int} {idx : Nat} (hf : xFW own idx 10 30 .int) (hd : decode cc pc = .ok (.putfield idx, 3)) (kk : X κ D A nL cells slots (pc + 3) l (st) ad (jG Y (τ) (up σ 39 0 0 v) ρ ad)) : X κ D A nL cells slots (pc) l (.int (iI v) :: .ref (ad 20 0) :: st) ad (jG Y (τ) (σ) ρ ad) := X_put C jG_20 hf rfl rfl (Nat.le_of_ble_eq_true rfl) hd (Eq.mpr (congrArg (X κ D A nL cells slots (pc + 3) l st ad) mP_39) kk)
theorem Xg_X9_thrown (C : XB κ D Y A cc own nL R0) {v : Int} {idx : Nat} (hv : σ 40 0 0 = v) (hf : xFL own idx 10 31) (hd : decode cc pc = .ok (.getfield idx, 3)) (kk : X κ D A nL cells slots (pc + 3) l (.int (iI v) :: st) ad (jG Y (τ) (σ) ρ ad)) : X κ D A nL cells slots (pc) l (.ref (ad 20 0) :: st) ad (jG Y (τ) (σ) ρ ad) := by
  subst hv
  exact X_get C jG_20 hf rfl hd kk
theorem Xp_X9_thrown (C : XB κ D Y A cc own nL R0) {v : Int} {idx : Nat} (hf : xFW own idx 10 31 .int) (hd : decode cc pc = .ok (.putfield idx, 3)) (kk : X κ D A nL cells slots (pc + 3) l (st) ad (jG Y (τ) (up σ 40 0 0 v) ρ ad)) : X κ D A nL cells slots (pc) l (.int (iI v) :: .ref (ad 20 0) :: st) ad (jG Y (τ) (σ) ρ ad) := X_put C jG_20 hf rfl rfl (Nat.le_of_ble_eq_true rfl) hd (Eq.mpr (congrArg (X κ D A nL cells slots (pc + 3) l st ad) mP_40) kk)
theorem Xm_texts_ld (C : XB κ D Y A cc own nL R0) {z v : Int} (d p : Int) (hd0 : 0 ≤ d) (hd3 : d < 3) (hp : 0 ≤ p ∧ p < 80) (hz : z = 80 * d + p) (hv : σ 0 (2 * d) p = v) (hd : decode cc pc = .ok (.iaload, 1)) (kk : X κ D A nL cells slots (pc + 1) l (.int (iI v) :: st) ad (jG Y (τ) (σ) ρ ad)) : X κ D A nL cells slots (pc) l (.int (iI z) :: .ref (ad 21 0) :: st) ad (jG Y (τ) (σ) ρ ad) := X_iald C jG_21 (by omega) (by omega) (by omega) (by rw [iz (by omega), show 2 * (z / 80) = 2 * d by omega, show z % 80 = p by omega, hv]) hd kk
theorem Xm_texts_st (C : XB κ D Y A cc own nL R0) {z v : Int} (d p : Int) (hd0 : 0 ≤ d) (hd3 : d < 3) (hp : 0 ≤ p ∧ p < 80) (hz : z = 80 * d + p) (hd : decode cc pc = .ok (.iastore, 1)) (kk : X κ D A nL cells slots (pc + 1) l (st) ad (jG Y (τ) (up σ 0 (2 * d) p v) ρ ad)) : X κ D A nL cells slots (pc) l (.int (iI v) :: .int (iI z) :: .ref (ad 21 0) :: st) ad (jG Y (τ) (σ) ρ ad) := by
  refine X_iast C jG_21 (by omega) (by omega) (by omega) hd ?_
  rw [mA_texts d p hd0 hp hz]
  exact kk
theorem Xm_lengths_ld (C : XB κ D Y A cc own nL R0) {z v : Int} (h0 : 0 ≤ z) (h1 : z < 3) (hv : σ 1 (2 * z) 0 = v) (hd : decode cc pc = .ok (.iaload, 1)) (kk : X κ D A nL cells slots (pc + 1) l (.int (iI v) :: st) ad (jG Y (τ) (σ) ρ ad)) : X κ D A nL cells slots (pc) l (.int (iI z) :: .ref (ad 22 0) :: st) ad (jG Y (τ) (σ) ρ ad) := X_iald C jG_22 h0 h1 (by omega) (by rw [iz h0, hv]) hd kk
theorem Xm_lengths_st (C : XB κ D Y A cc own nL R0) {z v : Int} (h0 : 0 ≤ z) (h1 : z < 3) (hd : decode cc pc = .ok (.iastore, 1)) (kk : X κ D A nL cells slots (pc + 1) l (st) ad (jG Y (τ) (up σ 1 (2 * z) 0 v) ρ ad)) : X κ D A nL cells slots (pc) l (.int (iI v) :: .int (iI z) :: .ref (ad 22 0) :: st) ad (jG Y (τ) (σ) ρ ad) := by
  refine X_iast C jG_22 h0 h1 (by omega) hd ?_
  rw [mA_lengths h0]
  exact kk
theorem Xm_versions_ld (C : XB κ D Y A cc own nL R0) {z v : Int} (h0 : 0 ≤ z) (h1 : z < 3) (hv : σ 2 z 0 = v) (hd : decode cc pc = .ok (.iaload, 1)) (kk : X κ D A nL cells slots (pc + 1) l (.int (iI v) :: st) ad (jG Y (τ) (σ) ρ ad)) : X κ D A nL cells slots (pc) l (.int (iI z) :: .ref (ad 23 0) :: st) ad (jG Y (τ) (σ) ρ ad) := X_iald C jG_23 h0 h1 (by omega) (by rw [iz h0, hv]) hd kk
theorem Xm_versions_st (C : XB κ D Y A cc own nL R0) {z v : Int} (h0 : 0 ≤ z) (h1 : z < 3) (hd : decode cc pc = .ok (.iastore, 1)) (kk : X κ D A nL cells slots (pc + 1) l (st) ad (jG Y (τ) (up σ 2 z 0 v) ρ ad)) : X κ D A nL cells slots (pc) l (.int (iI v) :: .int (iI z) :: .ref (ad 23 0) :: st) ad (jG Y (τ) (σ) ρ ad) := by
  refine X_iast C jG_23 h0 h1 (by omega) hd ?_
  rw [mA_versions h0]
  exact kk
theorem Xm_closings_ld (C : XB κ D Y A cc own nL R0) {z v : Int} (h0 : 0 ≤ z) (h1 : z < 3) (hv : σ 4 z 0 = v) (hd : decode cc pc = .ok (.iaload, 1)) (kk : X κ D A nL cells slots (pc + 1) l (.int (iI v) :: st) ad (jG Y (τ) (σ) ρ ad)) : X κ D A nL cells slots (pc) l (.int (iI z) :: .ref (ad 24 0) :: st) ad (jG Y (τ) (σ) ρ ad) := X_iald C jG_24 h0 h1 (by omega) (by rw [iz h0, hv]) hd kk
theorem Xm_closings_st (C : XB κ D Y A cc own nL R0) {z v : Int} (h0 : 0 ≤ z) (h1 : z < 3) (hd : decode cc pc = .ok (.iastore, 1)) (kk : X κ D A nL cells slots (pc + 1) l (st) ad (jG Y (τ) (up σ 4 z 0 v) ρ ad)) : X κ D A nL cells slots (pc) l (.int (iI v) :: .int (iI z) :: .ref (ad 24 0) :: st) ad (jG Y (τ) (σ) ρ ad) := by
  refine X_iast C jG_24 h0 h1 (by omega) hd ?_
  rw [mA_closings h0]
  exact kk
theorem Xm_proofs_ld (C : XB κ D Y A cc own nL R0) {z v : Int} (d p : Int) (hd0 : 0 ≤ d) (hd3 : d < 3) (hp : 0 ≤ p ∧ p < 80) (hz : z = 80 * d + p) (hv : σ 0 (2 * d + 1) p = v) (hd : decode cc pc = .ok (.iaload, 1)) (kk : X κ D A nL cells slots (pc + 1) l (.int (iI v) :: st) ad (jG Y (τ) (σ) ρ ad)) : X κ D A nL cells slots (pc) l (.int (iI z) :: .ref (ad 25 0) :: st) ad (jG Y (τ) (σ) ρ ad) := X_iald C jG_25 (by omega) (by omega) (by omega) (by rw [iz (by omega), show 2 * (z / 80) + 1 = 2 * d + 1 by omega, show z % 80 = p by omega, hv]) hd kk
theorem Xm_proofs_st (C : XB κ D Y A cc own nL R0) {z v : Int} (d p : Int) (hd0 : 0 ≤ d) (hd3 : d < 3) (hp : 0 ≤ p ∧ p < 80) (hz : z = 80 * d + p) (hd : decode cc pc = .ok (.iastore, 1)) (kk : X κ D A nL cells slots (pc + 1) l (st) ad (jG Y (τ) (up σ 0 (2 * d + 1) p v) ρ ad)) : X κ D A nL cells slots (pc) l (.int (iI v) :: .int (iI z) :: .ref (ad 25 0) :: st) ad (jG Y (τ) (σ) ρ ad) := by
  refine X_iast C jG_25 (by omega) (by omega) (by omega) hd ?_
  rw [mA_proofs d p hd0 hp hz]
  exact kk
theorem Xm_proofLengths_ld (C : XB κ D Y A cc own nL R0) {z v : Int} (h0 : 0 ≤ z) (h1 : z < 3) (hv : σ 1 (2 * z + 1) 0 = v) (hd : decode cc pc = .ok (.iaload, 1)) (kk : X κ D A nL cells slots (pc + 1) l (.int (iI v) :: st) ad (jG Y (τ) (σ) ρ ad)) : X κ D A nL cells slots (pc) l (.int (iI z) :: .ref (ad 26 0) :: st) ad (jG Y (τ) (σ) ρ ad) := X_iald C jG_26 h0 h1 (by omega) (by rw [iz h0, hv]) hd kk
theorem Xm_proofLengths_st (C : XB κ D Y A cc own nL R0) {z v : Int} (h0 : 0 ≤ z) (h1 : z < 3) (hd : decode cc pc = .ok (.iastore, 1)) (kk : X κ D A nL cells slots (pc + 1) l (st) ad (jG Y (τ) (up σ 1 (2 * z + 1) 0 v) ρ ad)) : X κ D A nL cells slots (pc) l (.int (iI v) :: .int (iI z) :: .ref (ad 26 0) :: st) ad (jG Y (τ) (σ) ρ ad) := by
  refine X_iast C jG_26 h0 h1 (by omega) hd ?_
  rw [mA_proofLengths h0]
  exact kk
theorem Xm_proofVersions_ld (C : XB κ D Y A cc own nL R0) {z v : Int} (h0 : 0 ≤ z) (h1 : z < 3) (hv : σ 3 z 0 = v) (hd : decode cc pc = .ok (.iaload, 1)) (kk : X κ D A nL cells slots (pc + 1) l (.int (iI v) :: st) ad (jG Y (τ) (σ) ρ ad)) : X κ D A nL cells slots (pc) l (.int (iI z) :: .ref (ad 27 0) :: st) ad (jG Y (τ) (σ) ρ ad) := X_iald C jG_27 h0 h1 (by omega) (by rw [iz h0, hv]) hd kk
theorem Xm_proofVersions_st (C : XB κ D Y A cc own nL R0) {z v : Int} (h0 : 0 ≤ z) (h1 : z < 3) (hd : decode cc pc = .ok (.iastore, 1)) (kk : X κ D A nL cells slots (pc + 1) l (st) ad (jG Y (τ) (up σ 3 z 0 v) ρ ad)) : X κ D A nL cells slots (pc) l (.int (iI v) :: .int (iI z) :: .ref (ad 27 0) :: st) ad (jG Y (τ) (σ) ρ ad) := by
  refine X_iast C jG_27 h0 h1 (by omega) hd ?_
  rw [mA_proofVersions h0]
  exact kk
theorem Xm_commentOn_ld (C : XB κ D Y A cc own nL R0) {z v : Int} (h0 : 0 ≤ z) (h1 : z < 8) (hv : σ 5 z 0 = v) (hd : decode cc pc = .ok (.iaload, 1)) (kk : X κ D A nL cells slots (pc + 1) l (.int (iI v) :: st) ad (jG Y (τ) (σ) ρ ad)) : X κ D A nL cells slots (pc) l (.int (iI z) :: .ref (ad 28 0) :: st) ad (jG Y (τ) (σ) ρ ad) := X_iald C jG_28 h0 h1 (by omega) (by rw [iz h0, hv]) hd kk
theorem Xm_commentOn_st (C : XB κ D Y A cc own nL R0) {z v : Int} (h0 : 0 ≤ z) (h1 : z < 8) (hd : decode cc pc = .ok (.iastore, 1)) (kk : X κ D A nL cells slots (pc + 1) l (st) ad (jG Y (τ) (up σ 5 z 0 v) ρ ad)) : X κ D A nL cells slots (pc) l (.int (iI v) :: .int (iI z) :: .ref (ad 28 0) :: st) ad (jG Y (τ) (σ) ρ ad) := by
  refine X_iast C jG_28 h0 h1 (by omega) hd ?_
  rw [mA_commentOn h0]
  exact kk
theorem Xm_spanFrom_ld (C : XB κ D Y A cc own nL R0) {z v : Int} (h0 : 0 ≤ z) (h1 : z < 8) (hv : σ 6 z 0 = v) (hd : decode cc pc = .ok (.iaload, 1)) (kk : X κ D A nL cells slots (pc + 1) l (.int (iI v) :: st) ad (jG Y (τ) (σ) ρ ad)) : X κ D A nL cells slots (pc) l (.int (iI z) :: .ref (ad 29 0) :: st) ad (jG Y (τ) (σ) ρ ad) := X_iald C jG_29 h0 h1 (by omega) (by rw [iz h0, hv]) hd kk
theorem Xm_spanFrom_st (C : XB κ D Y A cc own nL R0) {z v : Int} (h0 : 0 ≤ z) (h1 : z < 8) (hd : decode cc pc = .ok (.iastore, 1)) (kk : X κ D A nL cells slots (pc + 1) l (st) ad (jG Y (τ) (up σ 6 z 0 v) ρ ad)) : X κ D A nL cells slots (pc) l (.int (iI v) :: .int (iI z) :: .ref (ad 29 0) :: st) ad (jG Y (τ) (σ) ρ ad) := by
  refine X_iast C jG_29 h0 h1 (by omega) hd ?_
  rw [mA_spanFrom h0]
  exact kk
theorem Xm_spanTo_ld (C : XB κ D Y A cc own nL R0) {z v : Int} (h0 : 0 ≤ z) (h1 : z < 8) (hv : σ 7 z 0 = v) (hd : decode cc pc = .ok (.iaload, 1)) (kk : X κ D A nL cells slots (pc + 1) l (.int (iI v) :: st) ad (jG Y (τ) (σ) ρ ad)) : X κ D A nL cells slots (pc) l (.int (iI z) :: .ref (ad 30 0) :: st) ad (jG Y (τ) (σ) ρ ad) := X_iald C jG_30 h0 h1 (by omega) (by rw [iz h0, hv]) hd kk
theorem Xm_spanTo_st (C : XB κ D Y A cc own nL R0) {z v : Int} (h0 : 0 ≤ z) (h1 : z < 8) (hd : decode cc pc = .ok (.iastore, 1)) (kk : X κ D A nL cells slots (pc + 1) l (st) ad (jG Y (τ) (up σ 7 z 0 v) ρ ad)) : X κ D A nL cells slots (pc) l (.int (iI v) :: .int (iI z) :: .ref (ad 30 0) :: st) ad (jG Y (τ) (σ) ρ ad) := by
  refine X_iast C jG_30 h0 h1 (by omega) hd ?_
  rw [mA_spanTo h0]
  exact kk
theorem Xm_isOpen_ld (C : XB κ D Y A cc own nL R0) {z v : Int} (h0 : 0 ≤ z) (h1 : z < 8) (hv : σ 8 z 0 = v) (hd : decode cc pc = .ok (.baload, 1)) (kk : X κ D A nL cells slots (pc + 1) l (.int (iI v) :: st) ad (jG Y (τ) (σ) ρ ad)) : X κ D A nL cells slots (pc) l (.int (iI z) :: .ref (ad 31 0) :: st) ad (jG Y (τ) (σ) ρ ad) := X_zald C jG_31 h0 h1 (by omega) (by rw [iz h0, hv]) hd kk
theorem Xm_isOpen_st (C : XB κ D Y A cc own nL R0) {z v : Int} (h0 : 0 ≤ z) (h1 : z < 8) (hb : v = 0 ∨ v = 1) (hd : decode cc pc = .ok (.bastore, 1)) (kk : X κ D A nL cells slots (pc + 1) l (st) ad (jG Y (τ) (up σ 8 z 0 v) ρ ad)) : X κ D A nL cells slots (pc) l (.int (iI v) :: .int (iI z) :: .ref (ad 31 0) :: st) ad (jG Y (τ) (σ) ρ ad) := by
  refine X_zast C (by rcases hb with rfl | rfl; exact Or.inl rfl; exact Or.inr rfl) jG_31 h0 h1 (by omega) hd ?_
  rw [mA_isOpen h0]
  exact kk
theorem Xm_orderOf_ld (C : XB κ D Y A cc own nL R0) {z v : Int} (h0 : 0 ≤ z) (h1 : z < 6) (hv : σ 9 z 0 = v) (hd : decode cc pc = .ok (.iaload, 1)) (kk : X κ D A nL cells slots (pc + 1) l (.int (iI v) :: st) ad (jG Y (τ) (σ) ρ ad)) : X κ D A nL cells slots (pc) l (.int (iI z) :: .ref (ad 32 0) :: st) ad (jG Y (τ) (σ) ρ ad) := X_iald C jG_32 h0 h1 (by omega) (by rw [iz h0, hv]) hd kk
theorem Xm_orderOf_st (C : XB κ D Y A cc own nL R0) {z v : Int} (h0 : 0 ≤ z) (h1 : z < 6) (hd : decode cc pc = .ok (.iastore, 1)) (kk : X κ D A nL cells slots (pc + 1) l (st) ad (jG Y (τ) (up σ 9 z 0 v) ρ ad)) : X κ D A nL cells slots (pc) l (.int (iI v) :: .int (iI z) :: .ref (ad 32 0) :: st) ad (jG Y (τ) (σ) ρ ad) := by
  refine X_iast C jG_32 h0 h1 (by omega) hd ?_
  rw [mA_orderOf h0]
  exact kk
theorem Xm_copies_ld (C : XB κ D Y A cc own nL R0) {z v : Int} (h0 : 0 ≤ z) (h1 : z < 6) (hv : σ 10 z 0 = v) (hd : decode cc pc = .ok (.iaload, 1)) (kk : X κ D A nL cells slots (pc + 1) l (.int (iI v) :: st) ad (jG Y (τ) (σ) ρ ad)) : X κ D A nL cells slots (pc) l (.int (iI z) :: .ref (ad 33 0) :: st) ad (jG Y (τ) (σ) ρ ad) := X_iald C jG_33 h0 h1 (by omega) (by rw [iz h0, hv]) hd kk
theorem Xm_copies_st (C : XB κ D Y A cc own nL R0) {z v : Int} (h0 : 0 ≤ z) (h1 : z < 6) (hd : decode cc pc = .ok (.iastore, 1)) (kk : X κ D A nL cells slots (pc + 1) l (st) ad (jG Y (τ) (up σ 10 z 0 v) ρ ad)) : X κ D A nL cells slots (pc) l (.int (iI v) :: .int (iI z) :: .ref (ad 33 0) :: st) ad (jG Y (τ) (σ) ρ ad) := by
  refine X_iast C jG_33 h0 h1 (by omega) hd ?_
  rw [mA_copies h0]
  exact kk
theorem Xm_dues_ld (C : XB κ D Y A cc own nL R0) {z v : Int} (h0 : 0 ≤ z) (h1 : z < 6) (hv : σ 11 z 0 = v) (hd : decode cc pc = .ok (.iaload, 1)) (kk : X κ D A nL cells slots (pc + 1) l (.int (iI v) :: st) ad (jG Y (τ) (σ) ρ ad)) : X κ D A nL cells slots (pc) l (.int (iI z) :: .ref (ad 34 0) :: st) ad (jG Y (τ) (σ) ρ ad) := X_iald C jG_34 h0 h1 (by omega) (by rw [iz h0, hv]) hd kk
theorem Xm_dues_st (C : XB κ D Y A cc own nL R0) {z v : Int} (h0 : 0 ≤ z) (h1 : z < 6) (hd : decode cc pc = .ok (.iastore, 1)) (kk : X κ D A nL cells slots (pc + 1) l (st) ad (jG Y (τ) (up σ 11 z 0 v) ρ ad)) : X κ D A nL cells slots (pc) l (.int (iI v) :: .int (iI z) :: .ref (ad 34 0) :: st) ad (jG Y (τ) (σ) ρ ad) := by
  refine X_iast C jG_34 h0 h1 (by omega) hd ?_
  rw [mA_dues h0]
  exact kk
theorem Xm_paperFor_ld (C : XB κ D Y A cc own nL R0) {z v : Int} (h0 : 0 ≤ z) (h1 : z < 6) (hv : σ 12 z 0 = v) (hd : decode cc pc = .ok (.iaload, 1)) (kk : X κ D A nL cells slots (pc + 1) l (.int (iI v) :: st) ad (jG Y (τ) (σ) ρ ad)) : X κ D A nL cells slots (pc) l (.int (iI z) :: .ref (ad 35 0) :: st) ad (jG Y (τ) (σ) ρ ad) := X_iald C jG_35 h0 h1 (by omega) (by rw [iz h0, hv]) hd kk
theorem Xm_paperFor_st (C : XB κ D Y A cc own nL R0) {z v : Int} (h0 : 0 ≤ z) (h1 : z < 6) (hd : decode cc pc = .ok (.iastore, 1)) (kk : X κ D A nL cells slots (pc + 1) l (st) ad (jG Y (τ) (up σ 12 z 0 v) ρ ad)) : X κ D A nL cells slots (pc) l (.int (iI v) :: .int (iI z) :: .ref (ad 35 0) :: st) ad (jG Y (τ) (σ) ρ ad) := by
  refine X_iast C jG_35 h0 h1 (by omega) hd ?_
  rw [mA_paperFor h0]
  exact kk
theorem Xm_platesFor_ld (C : XB κ D Y A cc own nL R0) {z v : Int} (h0 : 0 ≤ z) (h1 : z < 6) (hv : σ 13 z 0 = v) (hd : decode cc pc = .ok (.iaload, 1)) (kk : X κ D A nL cells slots (pc + 1) l (.int (iI v) :: st) ad (jG Y (τ) (σ) ρ ad)) : X κ D A nL cells slots (pc) l (.int (iI z) :: .ref (ad 36 0) :: st) ad (jG Y (τ) (σ) ρ ad) := X_iald C jG_36 h0 h1 (by omega) (by rw [iz h0, hv]) hd kk
theorem Xm_platesFor_st (C : XB κ D Y A cc own nL R0) {z v : Int} (h0 : 0 ≤ z) (h1 : z < 6) (hd : decode cc pc = .ok (.iastore, 1)) (kk : X κ D A nL cells slots (pc + 1) l (st) ad (jG Y (τ) (up σ 13 z 0 v) ρ ad)) : X κ D A nL cells slots (pc) l (.int (iI v) :: .int (iI z) :: .ref (ad 36 0) :: st) ad (jG Y (τ) (σ) ρ ad) := by
  refine X_iast C jG_36 h0 h1 (by omega) hd ?_
  rw [mA_platesFor h0]
  exact kk
theorem Xm_printings_ld (C : XB κ D Y A cc own nL R0) {z v : Int} (h0 : 0 ≤ z) (h1 : z < 18) (hv : σ 14 z 0 = v) (hd : decode cc pc = .ok (.iaload, 1)) (kk : X κ D A nL cells slots (pc + 1) l (.int (iI v) :: st) ad (jG Y (τ) (σ) ρ ad)) : X κ D A nL cells slots (pc) l (.int (iI z) :: .ref (ad 37 0) :: st) ad (jG Y (τ) (σ) ρ ad) := X_iald C jG_37 h0 h1 (by omega) (by rw [iz h0, hv]) hd kk
theorem Xm_printings_st (C : XB κ D Y A cc own nL R0) {z v : Int} (h0 : 0 ≤ z) (h1 : z < 18) (hd : decode cc pc = .ok (.iastore, 1)) (kk : X κ D A nL cells slots (pc + 1) l (st) ad (jG Y (τ) (up σ 14 z 0 v) ρ ad)) : X κ D A nL cells slots (pc) l (.int (iI v) :: .int (iI z) :: .ref (ad 37 0) :: st) ad (jG Y (τ) (σ) ρ ad) := by
  refine X_iast C jG_37 h0 h1 (by omega) hd ?_
  rw [mA_printings h0]
  exact kk
theorem Xm_plateLength_ld (C : XB κ D Y A cc own nL R0) {z v : Int} (h0 : 0 ≤ z) (h1 : z < 18) (hv : σ 15 z 0 = v) (hd : decode cc pc = .ok (.iaload, 1)) (kk : X κ D A nL cells slots (pc + 1) l (.int (iI v) :: st) ad (jG Y (τ) (σ) ρ ad)) : X κ D A nL cells slots (pc) l (.int (iI z) :: .ref (ad 38 0) :: st) ad (jG Y (τ) (σ) ρ ad) := X_iald C jG_38 h0 h1 (by omega) (by rw [iz h0, hv]) hd kk
theorem Xm_plateLength_st (C : XB κ D Y A cc own nL R0) {z v : Int} (h0 : 0 ≤ z) (h1 : z < 18) (hd : decode cc pc = .ok (.iastore, 1)) (kk : X κ D A nL cells slots (pc + 1) l (st) ad (jG Y (τ) (up σ 15 z 0 v) ρ ad)) : X κ D A nL cells slots (pc) l (.int (iI v) :: .int (iI z) :: .ref (ad 38 0) :: st) ad (jG Y (τ) (σ) ρ ad) := by
  refine X_iast C jG_38 h0 h1 (by omega) hd ?_
  rw [mA_plateLength h0]
  exact kk
theorem Xm_printed_ld (C : XB κ D Y A cc own nL R0) {z v : Int} (d p : Int) (hd0 : 0 ≤ d) (hd3 : d < 18) (hp : 0 ≤ p ∧ p < 32) (hz : z = 32 * d + p) (hv : σ 16 d p = v) (hd : decode cc pc = .ok (.iaload, 1)) (kk : X κ D A nL cells slots (pc + 1) l (.int (iI v) :: st) ad (jG Y (τ) (σ) ρ ad)) : X κ D A nL cells slots (pc) l (.int (iI z) :: .ref (ad 39 0) :: st) ad (jG Y (τ) (σ) ρ ad) := X_iald C jG_39 (by omega) (by omega) (by omega) (by rw [iz (by omega), show z / 32 = d by omega, show z % 32 = p by omega, hv]) hd kk
theorem Xm_printed_st (C : XB κ D Y A cc own nL R0) {z v : Int} (d p : Int) (hd0 : 0 ≤ d) (hd3 : d < 18) (hp : 0 ≤ p ∧ p < 32) (hz : z = 32 * d + p) (hd : decode cc pc = .ok (.iastore, 1)) (kk : X κ D A nL cells slots (pc + 1) l (st) ad (jG Y (τ) (up σ 16 d p v) ρ ad)) : X κ D A nL cells slots (pc) l (.int (iI v) :: .int (iI z) :: .ref (ad 39 0) :: st) ad (jG Y (τ) (σ) ρ ad) := by
  refine X_iast C jG_39 (by omega) (by omega) (by omega) hd ?_
  rw [mA_printed d p hd0 hp hz]
  exact kk
theorem Xm_plate_ld (C : XB κ D Y A cc own nL R0) {z v : Int} (d p : Int) (hd0 : 0 ≤ d) (hd3 : d < 18) (hp : 0 ≤ p ∧ p < 32) (hz : z = 32 * d + p) (hv : σ 17 d p = v) (hd : decode cc pc = .ok (.iaload, 1)) (kk : X κ D A nL cells slots (pc + 1) l (.int (iI v) :: st) ad (jG Y (τ) (σ) ρ ad)) : X κ D A nL cells slots (pc) l (.int (iI z) :: .ref (ad 40 0) :: st) ad (jG Y (τ) (σ) ρ ad) := X_iald C jG_40 (by omega) (by omega) (by omega) (by rw [iz (by omega), show z / 32 = d by omega, show z % 32 = p by omega, hv]) hd kk
theorem Xm_plate_st (C : XB κ D Y A cc own nL R0) {z v : Int} (d p : Int) (hd0 : 0 ≤ d) (hd3 : d < 18) (hp : 0 ≤ p ∧ p < 32) (hz : z = 32 * d + p) (hd : decode cc pc = .ok (.iastore, 1)) (kk : X κ D A nL cells slots (pc + 1) l (st) ad (jG Y (τ) (up σ 17 d p v) ρ ad)) : X κ D A nL cells slots (pc) l (.int (iI v) :: .int (iI z) :: .ref (ad 40 0) :: st) ad (jG Y (τ) (σ) ρ ad) := by
  refine X_iast C jG_40 (by omega) (by omega) (by omega) hd ?_
  rw [mA_plate d p hd0 hp hz]
  exact kk
theorem Xm_onPress_ld (C : XB κ D Y A cc own nL R0) {z v : Int} (h0 : 0 ≤ z) (h1 : z < 32) (hv : σ 18 0 z = v) (hd : decode cc pc = .ok (.iaload, 1)) (kk : X κ D A nL cells slots (pc + 1) l (.int (iI v) :: st) ad (jG Y (τ) (σ) ρ ad)) : X κ D A nL cells slots (pc) l (.int (iI z) :: .ref (ad 41 0) :: st) ad (jG Y (τ) (σ) ρ ad) := X_iald C jG_41 h0 h1 (by omega) (by rw [iz h0, hv]) hd kk
theorem Xm_onPress_st (C : XB κ D Y A cc own nL R0) {z v : Int} (h0 : 0 ≤ z) (h1 : z < 32) (hd : decode cc pc = .ok (.iastore, 1)) (kk : X κ D A nL cells slots (pc + 1) l (st) ad (jG Y (τ) (up σ 18 0 z v) ρ ad)) : X κ D A nL cells slots (pc) l (.int (iI v) :: .int (iI z) :: .ref (ad 41 0) :: st) ad (jG Y (τ) (σ) ρ ad) := by
  refine X_iast C jG_41 h0 h1 (by omega) hd ?_
  rw [mA_onPress h0]
  exact kk
end XT
