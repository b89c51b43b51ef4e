/-! both sides' states behind a call are one state again -/
abbrev jBr (n k : Int) (C M : xS) : Prop := ∃ T, xI n T ∧ T 40 0 0 = k ∧ ∀ (Y : Nat → ClassId) (ρ : xG) (ad : xL), jG Y C M ρ ad = jG Y T T ρ ad
theorem jBr_mk {n k : Int} {T C M : xS} (hk : k = 0) (I : xI n T) (hc : ∀ r, r ≠ 14 → r ≠ 15 → r ≠ 40 → C r = T r) (hm : ∀ r, r < 20 ∨ 30 ≤ r ∧ r ≠ 41 → M r = up T 40 0 0 0 r) : jBr n k C M :=
  ⟨up T 40 0 0 0, pr_thr I, by rw [up_s, hk], fun Y ρ ad => jG_ext (fun r a b c => by rw [up_r c]; exact hc r a b c) hm⟩
theorem jBr_q {n : Int} {θ : xS} {k : Int} (I : xI n θ) (hn : n < 512) : jBr (n + 1) k θ (up θ 40 0 0 k) := by
  have In := I.n0
  exact ⟨up θ 40 0 0 k, pr_thr (I.mono (by omega) (by omega)), up_s, fun Y ρ ad => jG_ext (fun r a b c => (up_r c).symm) (fun r _ => rfl)⟩
theorem jBr_no {n : Int} {θ : xS} {k : Int} {C : xS} {F : xS → xS} (I : xI n θ) (hn : n < 512) (h : k ≠ 0) : jBr (n + 1) k (mQ k C θ) (mS k F θ) := by
  rw [mQ_n h, mS_n rfl h]
  exact jBr_q I hn
/-- the same number on both sides where `thrown` was set first -/
abbrev tB (θ : xS) : xS := up θ 40 0 0 0
theorem tB_r {θ : xS} {r : Nat} (h : r ≠ 40) : tB θ r = θ r := up_r h
theorem mvS_40 {S : xS} {d p k b n v : Int} : mvS (up S 40 0 0 v) d p k b n = up (mvS S d p k b n) 40 0 0 v := by
  funext r i j
  by_cases h : r = 40
  · subst h
    have c : ∀ Z : Prop, ¬ ((40 = 6 ∨ 40 = 7) ∧ Z) := fun Z q => q.1.elim (fun e => absurd e (by decide)) (fun e => absurd e (by decide))
    rw [up_e]
    unfold mvS
    rw [pk_f (c _), pk_f (c _), up_e]
  · rw [up_r h]
    unfold mvS mvC
    rw [up_r h, up_r (by decide), up_r (by decide), up_r (by decide)]
theorem b_add {n : Int} {θ : xS} (I : xI n θ) (hn : n < 512) : jBr (n + 1) (kAdd θ) (mQ (kAdd θ) (addS θ) θ) (mS (kAdd θ) (fun σ => up (up (up σ 4 (σ 30 0 0) 0 999) 3 (σ 30 0 0) 0 (-1)) 30 0 0 (σ 30 0 0 + 1)) θ) := by
  by_cases h : kAdd θ = 0
  · rw [mQ_0 h, mS_0 h]
    have h3 : θ 30 0 0 < 3 := by unfold kAdd at h; split at h <;> omega
    refine jBr_mk h (pr_add I hn h3) (fun r _ _ _ => rfl) (fun r _ => ?_)
    have e : (up θ 40 0 0 0) 30 = θ 30 := up_r (by decide)
    simp only [e]
    funext i j
    unfold addS up
    (repeat' split) <;> first | rfl | omega
  · exact jBr_no I hn h
theorem b_com {n : Int} {θ : xS} {z f t : Int} (I : xI n θ) (hn : n < 512) : jBr (n + 1) (kCom θ z f t) (mQ (kCom θ z f t) (comS θ z f t) θ) (mS (kCom θ z f t) (fun σ => comS σ z f t) θ) := by
  by_cases h : kCom θ z f t = 0
  · rw [mQ_0 h, mS_0 h]
    have I2 := I.nc
    have hh : (0 ≤ z ∧ z < θ 30 0 0) ∧ (0 ≤ f ∧ f < t ∧ t ≤ θ 1 (2 * z) 0) ∧ θ 31 0 0 ≠ 8 := by unfold kCom at h; (repeat' split at h) <;> omega
    refine jBr_mk h (pr_com I hn (by omega) hh.1 hh.2.1) (fun r _ _ _ => rfl) (fun r _ => ?_)
    have e : (up θ 40 0 0 0) 31 = θ 31 := up_r (by decide)
    funext i j
    unfold comS
    simp only [e]
    unfold up
    (repeat' split) <;> first | rfl | omega
  · exact jBr_no I hn h
theorem b_clo {n : Int} {θ : xS} {z u : Int} (I : xI n θ) (hn : n < 512) : jBr (n + 1) (kClo θ z u) (mQ (kClo θ z u) (up θ 4 z 0 u) θ) (mS (kClo θ z u) (fun σ => up σ 4 z 0 u) θ) := by
  by_cases h : kClo θ z u = 0
  · rw [mQ_0 h, mS_0 h]
    have hh : 0 ≤ u ∧ u ≤ 999 := by unfold kClo at h; (repeat' split at h) <;> omega
    refine jBr_mk h (pr_close I hn hh) (fun r _ _ _ => rfl) (fun r _ => ?_)
    exact congrFun (up_cm (by decide)) r
  · exact jBr_no I hn h
theorem b_ans {n : Int} {θ : xS} {z : Int} (I : xI n θ) (hn : n < 512) : jBr (n + 1) (kAns θ z) (mQ (kAns θ z) (up θ 8 z 0 0) θ) (mS (kAns θ z) (fun σ => up σ 8 z 0 0) θ) := by
  by_cases h : kAns θ z = 0
  · rw [mQ_0 h, mS_0 h]
    have In := I.n0
    refine jBr_mk h (pr_answer (I.mono (m := n + 1) (by omega) (by omega))) (fun r _ _ _ => rfl) (fun r _ => ?_)
    exact congrFun (up_cm (by decide)) r
  · exact jBr_no I hn h
theorem b_sup {n : Int} {θ : xS} {a b : Int} (I : xI n θ) (hn : n < 512) : jBr (n + 1) (kSup θ a b) (mQ (kSup θ a b) (supS θ a b) θ) (mS (kSup θ a b) (fun σ => supS σ a b) θ) := by
  by_cases h : kSup θ a b = 0
  · rw [mQ_0 h, mS_0 h]
    have hh : ((0 ≤ a ∧ a ≤ 9999) ∧ 0 ≤ b ∧ b ≤ 99) ∧ ¬ (99999 < θ 33 0 0 + a ∨ 999 < θ 34 0 0 + b) := by unfold kSup at h; (repeat' split at h) <;> omega
    refine jBr_mk h (pr_supply I hn (by omega) (by omega)) (fun r _ _ _ => rfl) (fun r _ => ?_)
    have e : (up θ 40 0 0 0) 33 = θ 33 := up_r (by decide)
    have e2 : (up θ 40 0 0 0) 34 = θ 34 := up_r (by decide)
    funext i j
    unfold supS
    simp only [e, e2]
    unfold up
    (repeat' split) <;> first | rfl | omega
  · exact jBr_no I hn h
theorem b_ord {n : Int} {θ : xS} {z c u : Int} (I : xI n θ) (hn : n < 512) : jBr (n + 1) (kOrd θ z c u) (mQ (kOrd θ z c u) (ordS θ z c u) θ) (mS (kOrd θ z c u) (fun σ => up (m15 (up (up (up σ 9 (σ 32 0 0) 0 z) 10 (σ 32 0 0) 0 c) 11 (σ 32 0 0) 0 u) (σ 32 0 0) 3) 32 0 0 (σ 32 0 0 + 1)) θ) := by
  by_cases h : kOrd θ z c u = 0
  · rw [mQ_0 h, mS_0 h]
    have I2 := I.no
    have hh : (0 ≤ z ∧ z < θ 30 0 0) ∧ ((1 ≤ c ∧ c ≤ 500) ∧ 0 ≤ u ∧ u ≤ 999) ∧ ¬ (θ 3 z 0 = -1 ∨ θ 32 0 0 = 6) := by unfold kOrd at h; (repeat' split at h) <;> omega
    have hsh : 1 ≤ shT θ z := by
      have := I.pe z hh.1.1 hh.1.2 (by omega)
      unfold shT shC
      omega
    refine jBr_mk h (pr_ord I hn (by omega) hh.1 hsh hh.2.1.1 hh.2.1.2) (fun r _ b _ => (m15_r b).symm) (fun r _ => ?_)
    have e : (up θ 40 0 0 0) 32 = θ 32 := up_r (by decide)
    simp only [e]
    funext i j
    dsimp only [ordS, m15, up]
    (repeat' split) <;> first | rfl | omega
  · exact jBr_no I hn h
theorem b_ins {n : Int} {θ : xS} {z p c : Int} (I : xI n θ) (hn : n < 512) : jBr (n + 1) (kIns θ z p c) (mQ (kIns θ z p c) (insS θ z p c) θ) (mS (kIns θ z p c) (fun σ => mvS (up (up (upR σ 0 (2 * z) (insR (σ 0 (2 * z)) (σ 1 (2 * z) 0) p c)) 1 (2 * z) 0 (σ 1 (2 * z) 0 + 1)) 2 z 0 (σ 2 z 0 + 1)) z p 0 1 (σ 31 0 0)) θ) := by
  by_cases h : kIns θ z p c = 0
  · rw [mQ_0 h, mS_0 h]
    have I2 := I.sz (2 * z) 0
    have hh : (0 ≤ z ∧ z < θ 30 0 0) ∧ (0 ≤ p ∧ p ≤ θ 1 (2 * z) 0) ∧ (-1 ≤ c ∧ c ≤ 128527) ∧ θ 1 (2 * z) 0 ≠ 80 := by unfold kIns at h; (repeat' split at h) <;> omega
    refine jBr_mk h (pr_ins I hn hh.1 hh.2.1 hh.2.2.1 (by omega)) (fun r _ _ _ => rfl) (fun r hr => ?_)
    have e0 : (up θ 40 0 0 0) 0 = θ 0 := up_r (by decide)
    have e1 : (up θ 40 0 0 0) 1 = θ 1 := up_r (by decide)
    have e2 : (up θ 40 0 0 0) 2 = θ 2 := up_r (by decide)
    have e31 : (up θ 40 0 0 0) 31 = θ 31 := up_r (by decide)
    have e : up (up (upR (up θ 40 0 0 0) 0 (2 * z) (insR (θ 0 (2 * z)) (θ 1 (2 * z) 0) p c)) 1 (2 * z) 0 (θ 1 (2 * z) 0 + 1)) 2 z 0 (θ 2 z 0 + 1) = up (inS0 θ z p c) 40 0 0 0 := by
      unfold inS0 pinS
      rw [← upR_cm (by decide), up_cm (r := 40) (by decide), up_cm (r := 40) (by decide)]
    have e3 : inS0 θ z p c 31 = θ 31 := by
      unfold inS0 pinS
      rw [up_r (by decide), up_r (by decide), upR_r (by decide)]
    simp only [e0, e1, e2, e31]
    rw [e, mvS_40]
    by_cases h40 : r = 40
    · subst h40
      funext i j
      rw [up_e, up_e]
      unfold insS
      rw [lgA_r (by decide) (by decide) (by decide) (by decide) (by decide), e3]
    · rw [up_r h40, up_r h40]
      unfold insS
      rw [lgA_r (by omega) (by omega) (by omega) (by omega) (by omega), e3]
  · exact jBr_no I hn h
theorem b_del {n : Int} {θ : xS} {z p : Int} (I : xI n θ) (hn : n < 512) : jBr (n + 1) (kDel θ z p) (mQ (kDel θ z p) (delS θ z p) θ) (mS (kDel θ z p) (fun σ => mvS (up (up (upR σ 0 (2 * z) (dlR (σ 0 (2 * z)) p (σ 1 (2 * z) 0 - 1))) 1 (2 * z) 0 (σ 1 (2 * z) 0 - 1)) 2 z 0 (σ 2 z 0 + 1)) z p 1 (-1) (σ 31 0 0)) θ) := by
  by_cases h : kDel θ z p = 0
  · rw [mQ_0 h, mS_0 h]
    have hh : (0 ≤ z ∧ z < θ 30 0 0) ∧ (0 ≤ p ∧ p < θ 1 (2 * z) 0) ∧ brA θ z p 0 = 45 := by unfold kDel at h; (repeat' split at h) <;> omega
    refine jBr_mk h (pr_del I hn hh.1 hh.2.1 hh.2.2) (fun r _ _ _ => rfl) (fun r hr => ?_)
    have e0 : (up θ 40 0 0 0) 0 = θ 0 := up_r (by decide)
    have e1 : (up θ 40 0 0 0) 1 = θ 1 := up_r (by decide)
    have e2 : (up θ 40 0 0 0) 2 = θ 2 := up_r (by decide)
    have e31 : (up θ 40 0 0 0) 31 = θ 31 := up_r (by decide)
    have e : up (up (upR (up θ 40 0 0 0) 0 (2 * z) (dlR (θ 0 (2 * z)) p (θ 1 (2 * z) 0 - 1))) 1 (2 * z) 0 (θ 1 (2 * z) 0 - 1)) 2 z 0 (θ 2 z 0 + 1) = up (deS0 θ z p) 40 0 0 0 := by
      unfold deS0 pouS
      rw [← upR_cm (by decide), up_cm (r := 40) (by decide), up_cm (r := 40) (by decide), upR_cm (by decide)]
    have e3 : deS0 θ z p 31 = θ 31 := by
      unfold deS0 pouS
      rw [up_r (by decide), upR_r (by decide), up_r (by decide)]
    simp only [e0, e1, e2, e31]
    rw [e, mvS_40]
    by_cases h40 : r = 40
    · subst h40
      funext i j
      rw [up_e, up_e]
      unfold delS
      rw [lgA_r (by decide) (by decide) (by decide) (by decide) (by decide), e3]
    · rw [up_r h40, up_r h40]
      unfold delS
      rw [lgA_r (by omega) (by omega) (by omega) (by omega) (by omega), e3]
  · exact jBr_no I hn h
theorem b_sig {n : Int} {θ : xS} {z : Int} (I : xI n θ) (hn : n < 512) : jBr (n + 1) (kSig θ z) (mQ (kSig θ z) (sgnS θ z) θ) (mS (kSig θ z) (fun σ => up (up (upR σ 0 (2 * z + 1) (rwU (σ 0 (2 * z + 1)) (σ 0 (2 * z)) (σ 1 (2 * z) 0))) 1 (2 * z + 1) 0 (σ 1 (2 * z) 0)) 3 z 0 (σ 2 z 0)) θ) := by
  by_cases h : kSig θ z = 0
  · rw [mQ_0 h, mS_0 h]
    have I2 := I.sz (2 * z) 0
    have hh : (0 ≤ z ∧ z < θ 30 0 0) ∧ ¬ (θ 1 (2 * z) 0 = 0 ∨ 0 < opA θ z (θ 31 0 0) ∨ θ 2 z 0 = θ 3 z 0) := by unfold kSig at h; (repeat' split at h) <;> omega
    refine jBr_mk h (pr_sgn I hn hh.1 (by omega)) (fun r _ _ _ => rfl) (fun r hr => ?_)
    have e0 : (up θ 40 0 0 0) 0 = θ 0 := up_r (by decide)
    have e1 : (up θ 40 0 0 0) 1 = θ 1 := up_r (by decide)
    have e2 : (up θ 40 0 0 0) 2 = θ 2 := up_r (by decide)
    simp only [e0, e1, e2]
    have e : up (up (upR (up θ 40 0 0 0) 0 (2 * z + 1) (rwU (θ 0 (2 * z + 1)) (θ 0 (2 * z)) (θ 1 (2 * z) 0))) 1 (2 * z + 1) 0 (θ 1 (2 * z) 0)) 3 z 0 (θ 2 z 0) = up (up (becS θ (2 * z + 1) (2 * z)) 3 z 0 (θ 2 z 0)) 40 0 0 0 := by
      unfold becS
      rw [← upR_cm (by decide), up_cm (r := 40) (by decide), up_cm (r := 40) (by decide), upR_cm (by decide)]
    rw [e]
    by_cases h40 : r = 40
    · subst h40
      funext i j
      rw [up_e, up_e]
      unfold sgnS mkpS
      rw [lgA_r (by decide) (by decide) (by decide) (by decide) (by decide), up_r (r := 24) (by decide)]
    · rw [up_r h40, up_r h40]
      unfold sgnS mkpS
      rw [lgA_r (by omega) (by omega) (by omega) (by omega) (by omega), up_r (r := 24) (by omega)]
  · exact jBr_no I hn h
