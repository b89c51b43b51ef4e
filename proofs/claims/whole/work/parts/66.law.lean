/-! the law's loop -/
theorem lw_switch {κ : xK} {D : va_G} {Y : Nat → ClassId} {A : Nat → Prop} {cells slots b L : Nat} {xs : Nat → Int32} {θ : xS} {ρ : xG} {ad : xL} {n i w : Int} (C : XB κ D Y A cL_law RL 9 room_1) (hN : xGN κ.2.2.2.2.1) (S : xSc κ A b L xs) (hL : L ≤ 2048) (I : xI n θ) (hn : n < 512) (ho : oK Y ρ) (hi : 0 ≤ i ∧ i + 4 ≤ L) (hc : cells + 40 ≤ 603072) (hs : slots + 400 ≤ 7198826) (hw : 0 ≤ w ∧ w ≤ 63) (kk : ∀ (θ2 : xS) (ρ2 : xG) (ad2 : xL), xI (n + 1) θ2 → oK Y ρ2 → X κ D A 9 (cells + 40) (slots + 400) 2605 [some (.ref b), some (.ref (ad2 0 0)), some (.ref (ad2 20 0)), some (.ref (ad2 61 0)), some (.ref (ad2 62 0)), some (.int (iI i)), none, none, none] [] ad2 (jG Y θ2 θ2 ρ2 ad2)) : X κ D A 9 cells slots 44 [some (.ref b), some (.ref (ad 0 0)), some (.ref (ad 20 0)), some (.ref (ad 61 0)), some (.ref (ad 62 0)), some (.int (iI i)), none, none, none] [.int (iI w)] ad (jG Y θ θ ρ ad) := by
  have hwr : rg w := by constructor <;> omega
  have In := I.n0
  by_cases w0 : w = 0
  · subst w0
    exact X_tabIn (tgt := 224) C (by constructor <;> omega) dL_law_44 (by decide) (by decide) rfl rfl (lc_addDocument C hN S hL I hn ho hi hc hs kk)
  by_cases w1 : w = 1
  · subst w1
    exact X_tabIn (tgt := 268) C (by constructor <;> omega) dL_law_44 (by decide) (by decide) rfl rfl (lc_insert C hN S hL I hn ho hi hc hs kk)
  by_cases w2 : w = 2
  · subst w2
    exact X_tabIn (tgt := 348) C (by constructor <;> omega) dL_law_44 (by decide) (by decide) rfl rfl (lc_delete C hN S hL I hn ho hi hc hs kk)
  by_cases w3 : w = 3
  · subst w3
    exact X_tabIn (tgt := 416) C (by constructor <;> omega) dL_law_44 (by decide) (by decide) rfl rfl (lc_bar C hN S hL I hn ho hi hc hs kk)
  by_cases w4 : w = 4
  · subst w4
    exact X_tabIn (tgt := 512) C (by constructor <;> omega) dL_law_44 (by decide) (by decide) rfl rfl (lc_close C hN S hL I hn ho hi hc hs kk)
  by_cases w5 : w = 5
  · subst w5
    exact X_tabIn (tgt := 580) C (by constructor <;> omega) dL_law_44 (by decide) (by decide) rfl rfl (lc_length C hN S hL I hn ho hi hc hs kk)
  by_cases w6 : w = 6
  · subst w6
    exact X_tabIn (tgt := 636) C (by constructor <;> omega) dL_law_44 (by decide) (by decide) rfl rfl (lc_codeAt C hN S hL I hn ho hi hc hs kk)
  by_cases w7 : w = 7
  · subst w7
    exact X_tabIn (tgt := 704) C (by constructor <;> omega) dL_law_44 (by decide) (by decide) rfl rfl (lc_version C hN S hL I hn ho hi hc hs kk)
  by_cases w8 : w = 8
  · subst w8
    exact X_tabIn (tgt := 760) C (by constructor <;> omega) dL_law_44 (by decide) (by decide) rfl rfl (lc_comment C hN S hL I hn ho hi hc hs kk)
  by_cases w9 : w = 9
  · subst w9
    exact X_tabIn (tgt := 840) C (by constructor <;> omega) dL_law_44 (by decide) (by decide) rfl rfl (lc_answer C hN S hL I hn ho hi hc hs kk)
  by_cases w10 : w = 10
  · subst w10
    exact X_tabIn (tgt := 896) C (by constructor <;> omega) dL_law_44 (by decide) (by decide) rfl rfl (lc_isOpen C hN S hL I hn ho hi hc hs kk)
  by_cases w11 : w = 11
  · subst w11
    exact X_tabIn (tgt := 959) C (by constructor <;> omega) dL_law_44 (by decide) (by decide) rfl rfl (lc_spanFrom C hN S hL I hn ho hi hc hs kk)
  by_cases w12 : w = 12
  · subst w12
    exact X_tabIn (tgt := 1015) C (by constructor <;> omega) dL_law_44 (by decide) (by decide) rfl rfl (lc_spanTo C hN S hL I hn ho hi hc hs kk)
  by_cases w13 : w = 13
  · subst w13
    exact X_tabIn (tgt := 1071) C (by constructor <;> omega) dL_law_44 (by decide) (by decide) rfl rfl (lc_sign C hN S hL I hn ho hi hc hs kk)
  by_cases w14 : w = 14
  · subst w14
    exact X_tabIn (tgt := 1127) C (by constructor <;> omega) dL_law_44 (by decide) (by decide) rfl rfl (lc_signed C hN S hL I hn ho hi hc hs kk)
  by_cases w15 : w = 15
  · subst w15
    exact X_tabIn (tgt := 1183) C (by constructor <;> omega) dL_law_44 (by decide) (by decide) rfl rfl (lc_sheets C hN S hL I hn ho hi hc hs kk)
  by_cases w16 : w = 16
  · subst w16
    exact X_tabIn (tgt := 1239) C (by constructor <;> omega) dL_law_44 (by decide) (by decide) rfl rfl (lc_pageOn C hN S hL I hn ho hi hc hs kk)
  by_cases w17 : w = 17
  · subst w17
    exact X_tabIn (tgt := 1319) C (by constructor <;> omega) dL_law_44 (by decide) (by decide) rfl rfl (lc_shown C hN S hL I hn ho hi hc hs kk)
  by_cases w18 : w = 18
  · subst w18
    exact X_tabIn (tgt := 1399) C (by constructor <;> omega) dL_law_44 (by decide) (by decide) rfl rfl (lc_shownByLog C hN S hL I hn ho hi hc hs kk)
  by_cases w19 : w = 19
  · subst w19
    exact X_tabIn (tgt := 1479) C (by constructor <;> omega) dL_law_44 (by decide) (by decide) rfl rfl (lc_supply C hN S hL I hn ho hi hc hs kk)
  by_cases w20 : w = 20
  · subst w20
    exact X_tabIn (tgt := 1547) C (by constructor <;> omega) dL_law_44 (by decide) (by decide) rfl rfl (lc_paper C hN S hL I hn ho hi hc hs kk)
  by_cases w21 : w = 21
  · subst w21
    exact X_tabIn (tgt := 1560) C (by constructor <;> omega) dL_law_44 (by decide) (by decide) rfl rfl (lc_plates C hN S hL I hn ho hi hc hs kk)
  by_cases w22 : w = 22
  · subst w22
    exact X_tabIn (tgt := 1573) C (by constructor <;> omega) dL_law_44 (by decide) (by decide) rfl rfl (lc_order C hN S hL I hn ho hi hc hs kk)
  by_cases w23 : w = 23
  · subst w23
    exact X_tabIn (tgt := 1653) C (by constructor <;> omega) dL_law_44 (by decide) (by decide) rfl rfl (lc_needs C hN S hL I hn ho hi hc hs kk)
  by_cases w24 : w = 24
  · subst w24
    exact X_tabIn (tgt := 1709) C (by constructor <;> omega) dL_law_44 (by decide) (by decide) rfl rfl (lc_freePaper C hN S hL I hn ho hi hc hs kk)
  by_cases w25 : w = 25
  · subst w25
    exact X_tabIn (tgt := 1722) C (by constructor <;> omega) dL_law_44 (by decide) (by decide) rfl rfl (lc_stateOf C hN S hL I hn ho hi hc hs kk)
  by_cases w26 : w = 26
  · subst w26
    exact X_tabIn (tgt := 1790) C (by constructor <;> omega) dL_law_44 (by decide) (by decide) rfl rfl (lc_isDone C hN S hL I hn ho hi hc hs kk)
  by_cases w27 : w = 27
  · subst w27
    exact X_tabIn (tgt := 1853) C (by constructor <;> omega) dL_law_44 (by decide) (by decide) rfl rfl (lc_lateBy C hN S hL I hn ho hi hc hs kk)
  by_cases w28 : w = 28
  · subst w28
    exact X_tabIn (tgt := 1909) C (by constructor <;> omega) dL_law_44 (by decide) (by decide) rfl rfl (lc_nextOrder C hN S hL I hn ho hi hc hs kk)
  by_cases w29 : w = 29
  · subst w29
    exact X_tabIn (tgt := 1953) C (by constructor <;> omega) dL_law_44 (by decide) (by decide) rfl rfl (lc_nextSheet C hN S hL I hn ho hi hc hs kk)
  by_cases w30 : w = 30
  · subst w30
    exact X_tabIn (tgt := 2009) C (by constructor <;> omega) dL_law_44 (by decide) (by decide) rfl rfl (lc_print C hN S hL I hn ho hi hc hs kk)
  by_cases w31 : w = 31
  · subst w31
    exact X_tabIn (tgt := 2077) C (by constructor <;> omega) dL_law_44 (by decide) (by decide) rfl rfl (lc_onPress C hN S hL I hn ho hi hc hs kk)
  by_cases w32 : w = 32
  · subst w32
    exact X_tabIn (tgt := 2090) C (by constructor <;> omega) dL_law_44 (by decide) (by decide) rfl rfl (lc_pass C hN S hL I hn ho hi hc hs kk)
  by_cases w33 : w = 33
  · subst w33
    exact X_tabIn (tgt := 2146) C (by constructor <;> omega) dL_law_44 (by decide) (by decide) rfl rfl (lc_hour C hN S hL I hn ho hi hc hs kk)
  by_cases w34 : w = 34
  · subst w34
    exact X_tabIn (tgt := 2159) C (by constructor <;> omega) dL_law_44 (by decide) (by decide) rfl rfl (lc_plateLength C hN S hL I hn ho hi hc hs kk)
  by_cases w35 : w = 35
  · subst w35
    exact X_tabIn (tgt := 2227) C (by constructor <;> omega) dL_law_44 (by decide) (by decide) rfl rfl (lc_plateAt C hN S hL I hn ho hi hc hs kk)
  by_cases w36 : w = 36
  · subst w36
    exact X_tabIn (tgt := 2307) C (by constructor <;> omega) dL_law_44 (by decide) (by decide) rfl rfl (lc_platesFor C hN S hL I hn ho hi hc hs kk)
  by_cases w37 : w = 37
  · subst w37
    exact X_tabIn (tgt := 2363) C (by constructor <;> omega) dL_law_44 (by decide) (by decide) rfl rfl (lc_wasted C hN S hL I hn ho hi hc hs kk)
  by_cases w38 : w = 38
  · subst w38
    exact X_tabIn (tgt := 2419) C (by constructor <;> omega) dL_law_44 (by decide) (by decide) rfl rfl (lc_cost C hN S hL I hn ho hi hc hs kk)
  by_cases w39 : w = 39
  · subst w39
    exact X_tabIn (tgt := 2474) C (by constructor <;> omega) dL_law_44 (by decide) (by decide) rfl rfl (lc_goodShare C hN S hL I hn ho hi hc hs kk)
  by_cases w40 : w = 40
  · subst w40
    exact X_tabIn (tgt := 2540) C (by constructor <;> omega) dL_law_44 (by decide) (by decide) rfl rfl (lc_meanLength C hN S hL I hn ho hi hc hs kk)
  exact X_tabOut (tgt := 2605) C hwr dL_law_44 (Or.inr (by omega)) rfl (X.widen (by omega) (by omega) (kk θ ρ ad (I.mono (by omega) (by omega)) ho))
theorem lw_loop {κ : xK} {D : va_G} {Y : Nat → ClassId} {A : Nat → Prop} {b L : Nat} {xs : Nat → Int32} (C : XB κ D Y A cL_law RL 9 room_1) (hN : xGN κ.2.2.2.2.1) (S : xSc κ A b L xs) (hL : L ≤ 2048) (hend : ∀ (cells slots : Nat) (l : List (Option Value)) (ad : xL) (g : xG), cells ≤ 603072 → slots ≤ 7198826 → X κ D A 9 cells slots 2612 l [.int (iI 1)] ad g) : ∀ (m n : Nat), n + m = 512 → ∀ (θ : xS) (ρ : xG) (ad : xL), xI (n : Int) θ → oK Y ρ → X κ D A 9 (100 + 40 * n) (10000 + 400 * n) 28 [some (.ref b), some (.ref (ad 0 0)), some (.ref (ad 20 0)), some (.ref (ad 61 0)), some (.ref (ad 62 0)), some (.int (iI (4 * (n : Int)))), none, none, none] [] ad (jG Y θ θ ρ ad) := by
  intro m
  induction m with
  | zero =>
    intro n hnm θ ρ ad I ho
    refine X_iload C rfl dL_law_28 ?_
    refine X_aload_n C rfl dL_law_30 ?_
    refine X_slen C S (by omega) dL_law_31 ?_
    refine X_iconst C dL_law_32 ?_
    refine X_isub C dL_law_33 ?_
    refine X_icmp_gt (tgt := 2611) C dL_law_34 rfl (by constructor <;> omega) (by constructor <;> omega) (fun _ => ?_) (fun h => absurd h (by omega))
    refine X_iconst C dL_law_2611 ?_
    exact hend _ _ _ _ _ (by omega) (by omega)
  | succ m ih =>
    intro n hnm θ ρ ad I ho
    refine X_iload C rfl dL_law_28 ?_
    refine X_aload_n C rfl dL_law_30 ?_
    refine X_slen C S (by omega) dL_law_31 ?_
    refine X_iconst C dL_law_32 ?_
    refine X_isub C dL_law_33 ?_
    refine X_icmp_gt (tgt := 2611) C dL_law_34 rfl (by constructor <;> omega) (by constructor <;> omega) (fun _ => ?_) (fun h => ?_)
    · refine X_iconst C dL_law_2611 ?_
      exact hend _ _ _ _ _ (by omega) (by omega)
    · refine X_aload_n C rfl dL_law_37 ?_
      refine X_iload C rfl dL_law_38 ?_
      refine X_sld C S (by omega) (by omega) (by omega) rfl dL_law_40 ?_
      refine X_bipush C (by decide) dL_law_41 ?_
      refine X_iand C dL_law_43 ?_
      obtain ⟨w, hw0, hw1, hw⟩ := and63 (iI (xs (4 * (n : Int)).toNat).toInt)
      rw [hw]
      refine lw_switch (n := (n : Int)) C hN S hL I (by omega) ho (by omega) (by omega) (by omega) ⟨hw0, hw1⟩ (fun θ2 ρ2 ad2 I2 ho2 => ?_)
      refine X_iinc_5 C (by decide) rfl dL_law_2605 ?_
      refine X_goto (tgt := 28) C dL_law_2608 rfl ?_
      have e : 4 * (n : Int) + 4 = 4 * ((n + 1 : Nat) : Int) := by omega
      rw [e]
      exact X.widen (by omega) (by omega) (ih (n + 1) (by omega) θ2 ρ2 ad2 (by rw [show ((n + 1 : Nat) : Int) = (n : Int) + 1 by omega]; exact I2) ho2)
