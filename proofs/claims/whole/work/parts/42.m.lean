set_option maxRecDepth 100000 in
set_option maxHeartbeats 4000000 in
theorem c_X9_barOf {lc : Launch} (hlc : lc.stackTraces = false) {D : va_G} {Y : Nat → ClassId} {A : Nat → Prop} {τ σ : xS} {ρ : xG} {ad : xL} {n d p b : Int} (I : xI n σ) (hd : 0 ≤ d ∧ d < σ 30 0 0) (hp : 0 ≤ p ∧ p ≤ 80) (hb : b = 0 ∨ b = 1) : Ct lc yX9_barOf cX9_barOf 7 (some .char) (rmL 1 0 0) D Y A ad (jG Y τ σ ρ ad) [.ref (ad 20 0), .int (iI d), .int (iI p), .int (iI b)] (pE (some (.int (iI (brA σ d p b)))) ad (jG Y τ σ ρ ad)) (pF) := by
  refine Ct_of hlc (by decide +kernel) rfl rfl (own := RX9) (nm := "barOf") (l0 := [some (.ref (ad 20 0)), some (.int (iI d)), some (.int (iI p)), some (.int (iI b)), none, none, none]) rfl (Nat.le_of_ble_eq_true rfl) (fun κ C M => ?_)
  have Ind := I.nd
  have Inc := I.nc
  have Ino := I.no
  have In := I.n0
  have h1 := I.hr
  have h2 := I.cl d 0
  have h3 := I.pm
  have h4 := I.po
  refine X_aload_n C rfl dX9_barOf_0 ?_
  refine Xg_X9_hour C rfl fl_X9_88 dX9_barOf_1 ?_
  refine X_aload_n C rfl dX9_barOf_4 ?_
  refine Xg_X9_closings C fl_X9_19 dX9_barOf_5 ?_
  refine X_iload_n C rfl dX9_barOf_8 ?_
  refine Xm_closings_ld C (by omega) (by omega) rfl dX9_barOf_9 ?_
  refine X_icmp_lt C (tgt := 16) dX9_barOf_10 (by decide) ⟨by omega, by omega⟩ ⟨by omega, by omega⟩ (fun c_10 => ?_) (fun c_10 => ?_)
  · refine X_iconst C dX9_barOf_16 ?_
    refine X_istore_4 C (by decide) rfl dX9_barOf_17 ?_
    have L19 : ∀ (n9 : Nat) (c : Int) (w5 w6 : Option Value), (0 ≤ c ∧ c ≤ σ 31 0 0) → (∀ q, 0 ≤ q → q < c → ¬ fzP σ d p b q) → σ 31 0 0 - c < (n9 : Int) → X κ D A 7 0 0 19 ([some (.ref (ad 20 0)), some (.int (iI d)), some (.int (iI p)), some (.int (iI b)), some (.int (iI c)), w5, w6]) ([]) ad (jG Y τ σ ρ ad) := by
      intro n9
      induction n9 with
      | zero => intro c w5 w6  hc hall hm; exfalso; omega
      | succ n9 ih =>
        intro c w5 w6  hc hall hm
        refine X_iload C rfl dX9_barOf_19 ?_
        refine X_aload_n C rfl dX9_barOf_21 ?_
        refine Xg_X9_comments C rfl fl_X9_91 dX9_barOf_22 ?_
        refine X_icmp_ge C (tgt := 110) dX9_barOf_25 (by decide) ⟨by omega, by omega⟩ ⟨by omega, by omega⟩ (fun c_25 => ?_) (fun c_25 => ?_)
        · refine X_aload_n C rfl dX9_barOf_110 ?_
          refine Xg_X9_pressOrder C rfl fl_X9_71 dX9_barOf_111 ?_
          refine X_iconst C dX9_barOf_114 ?_
          refine X_icmp_eq C (tgt := 146) dX9_barOf_115 (by decide) ⟨by omega, by omega⟩ ⟨by omega, by omega⟩ (fun c_115 => ?_) (fun c_115 => ?_)
          · refine X_iconst C dX9_barOf_146 ?_
            refine X_istore_4 C (by decide) rfl dX9_barOf_147 ?_
            refine X_iload C rfl dX9_barOf_149 ?_
            refine X_if_eq C (tgt := 159) dX9_barOf_151 (by decide) ⟨by omega, by omega⟩ (fun c_151 => ?_) (fun c_151 => ?_)
            rotate_left
            · exfalso; omega
            refine X_bipush C ⟨by decide, by decide⟩ dX9_barOf_159 ?_
            exact X_ireturn C M rfl (by decide) (by decide) dX9_barOf_161 ⟨rI (by unfold brA; rw [if_neg (by omega), pk_f (show ¬ fzA σ d p b from fun ⟨q, a1, a2, a3⟩ => hall q a1 (by omega) a3), pk_f (fun w => by have w1 := w.1; have w2 := w.2.1; have w3 := w.2.2; omega)]), rfl, rfl⟩
          · refine X_aload_n C rfl dX9_barOf_118 ?_
            refine Xg_X9_orderOf C fl_X9_44 dX9_barOf_119 ?_
            refine X_aload_n C rfl dX9_barOf_122 ?_
            refine Xg_X9_pressOrder C rfl fl_X9_71 dX9_barOf_123 ?_
            refine Xm_orderOf_ld C (by omega) (by omega) rfl dX9_barOf_126 ?_
            refine X_iload_n C rfl dX9_barOf_127 ?_
            have k5 := I.od (σ 35 0 0) (by omega) (by omega)
            refine X_icmp_ne C (tgt := 146) dX9_barOf_128 (by decide) ⟨by omega, by omega⟩ ⟨by omega, by omega⟩ (fun c_128 => ?_) (fun c_128 => ?_)
            · refine X_iconst C dX9_barOf_146 ?_
              refine X_istore_4 C (by decide) rfl dX9_barOf_147 ?_
              refine X_iload C rfl dX9_barOf_149 ?_
              refine X_if_eq C (tgt := 159) dX9_barOf_151 (by decide) ⟨by omega, by omega⟩ (fun c_151 => ?_) (fun c_151 => ?_)
              rotate_left
              · exfalso; omega
              refine X_bipush C ⟨by decide, by decide⟩ dX9_barOf_159 ?_
              exact X_ireturn C M rfl (by decide) (by decide) dX9_barOf_161 ⟨rI (by unfold brA; rw [if_neg (by omega), pk_f (show ¬ fzA σ d p b from fun ⟨q, a1, a2, a3⟩ => hall q a1 (by omega) a3), pk_f (fun w => by have w1 := w.1; have w2 := w.2.1; have w3 := w.2.2; omega)]), rfl, rfl⟩
            · refine X_aload_n C rfl dX9_barOf_131 ?_
              refine Xg_X9_pressMost C rfl fl_X9_94 dX9_barOf_132 ?_
              refine X_iload_n C rfl dX9_barOf_135 ?_
              refine X_bipush C ⟨by decide, by decide⟩ dX9_barOf_136 ?_
              refine X_idiv C ⟨by omega, by omega⟩ (by omega) ⟨by omega, by omega⟩ (by omega) dX9_barOf_138 ?_
              refine X_icmp_lt C (tgt := 146) dX9_barOf_139 (by decide) ⟨by omega, by omega⟩ ⟨by omega, by omega⟩ (fun c_139 => ?_) (fun c_139 => ?_)
              · refine X_iconst C dX9_barOf_146 ?_
                refine X_istore_4 C (by decide) rfl dX9_barOf_147 ?_
                refine X_iload C rfl dX9_barOf_149 ?_
                refine X_if_eq C (tgt := 159) dX9_barOf_151 (by decide) ⟨by omega, by omega⟩ (fun c_151 => ?_) (fun c_151 => ?_)
                rotate_left
                · exfalso; omega
                refine X_bipush C ⟨by decide, by decide⟩ dX9_barOf_159 ?_
                exact X_ireturn C M rfl (by decide) (by decide) dX9_barOf_161 ⟨rI (by unfold brA; rw [if_neg (by omega), pk_f (show ¬ fzA σ d p b from fun ⟨q, a1, a2, a3⟩ => hall q a1 (by omega) a3), pk_f (fun w => by have w1 := w.1; have w2 := w.2.1; have w3 := w.2.2; omega)]), rfl, rfl⟩
              · refine X_iconst C dX9_barOf_142 ?_
                refine X_goto C (tgt := 147) dX9_barOf_143 (by decide) ?_
                refine X_istore_4 C (by decide) rfl dX9_barOf_147 ?_
                refine X_iload C rfl dX9_barOf_149 ?_
                refine X_if_eq C (tgt := 159) dX9_barOf_151 (by decide) ⟨by omega, by omega⟩ (fun c_151 => ?_) (fun c_151 => ?_)
                · exfalso; omega
                refine X_bipush C ⟨by decide, by decide⟩ dX9_barOf_154 ?_
                refine X_goto C (tgt := 161) dX9_barOf_156 (by decide) ?_
                exact X_ireturn C M rfl (by decide) (by decide) dX9_barOf_161 ⟨rI (by unfold brA; rw [if_neg (by omega), pk_f (show ¬ fzA σ d p b from fun ⟨q, a1, a2, a3⟩ => hall q a1 (by omega) a3), pk_t ⟨by omega, by omega, by omega⟩]), rfl, rfl⟩
        · have k1 := I.op c 0
          have k2 := I.on c (by omega) (by omega)
          have k3 := I.fr c 0
          have k4 := I.to c 0
          refine X_aload_n C rfl dX9_barOf_28 ?_
          refine Xg_X9_isOpen C fl_X9_40 dX9_barOf_29 ?_
          refine X_iload C rfl dX9_barOf_32 ?_
          refine Xm_isOpen_ld C (by omega) (by omega) rfl dX9_barOf_34 ?_
          refine X_if_eq C (tgt := 53) dX9_barOf_35 (by decide) ⟨by omega, by omega⟩ (fun c_35 => ?_) (fun c_35 => ?_)
          · refine X_iconst C dX9_barOf_53 ?_
            refine X_istore_5 C (by decide) rfl dX9_barOf_54 ?_
            refine X_aload_n C rfl dX9_barOf_56 ?_
            refine Xg_X9_spanFrom C fl_X9_34 dX9_barOf_57 ?_
            refine X_iload C rfl dX9_barOf_60 ?_
            refine Xm_spanFrom_ld C (by omega) (by omega) rfl dX9_barOf_62 ?_
            refine X_iload_n C rfl dX9_barOf_63 ?_
            refine X_if_eq C (tgt := 71) dX9_barOf_64 (by decide) ⟨by omega, by omega⟩ (fun c_64 => ?_) (fun c_64 => ?_)
            · refine X_iconst C dX9_barOf_71 ?_
              refine X_iadd C dX9_barOf_72 ?_
              refine X_istore_6 C (by decide) rfl dX9_barOf_73 ?_
              refine X_iload C rfl dX9_barOf_75 ?_
              refine X_if_eq C (tgt := 104) dX9_barOf_77 (by decide) ⟨by omega, by omega⟩ (fun c_77 => ?_) (fun c_77 => ?_)
              rotate_left
              · exfalso; omega
              refine X_iinc_4 C (by decide) rfl dX9_barOf_104 ?_
              refine X_goto C (tgt := 19) dX9_barOf_107 (by decide) ?_
              exact ih (c + 1) _ _ (by omega) (fun q a1 a2 => by by_cases e : q = c; subst e; exact fun w => (by have w1 := w.1; have w2 := w.2.1; have w3 := w.2.2.1; have w4 := w.2.2.2; omega); exact hall q a1 (by omega)) (by omega)
            · refine X_iconst C dX9_barOf_67 ?_
              refine X_goto C (tgt := 72) dX9_barOf_68 (by decide) ?_
              refine X_iadd C dX9_barOf_72 ?_
              refine X_istore_6 C (by decide) rfl dX9_barOf_73 ?_
              refine X_iload C rfl dX9_barOf_75 ?_
              refine X_if_eq C (tgt := 104) dX9_barOf_77 (by decide) ⟨by omega, by omega⟩ (fun c_77 => ?_) (fun c_77 => ?_)
              rotate_left
              · exfalso; omega
              refine X_iinc_4 C (by decide) rfl dX9_barOf_104 ?_
              refine X_goto C (tgt := 19) dX9_barOf_107 (by decide) ?_
              exact ih (c + 1) _ _ (by omega) (fun q a1 a2 => by by_cases e : q = c; subst e; exact fun w => (by have w1 := w.1; have w2 := w.2.1; have w3 := w.2.2.1; have w4 := w.2.2.2; omega); exact hall q a1 (by omega)) (by omega)
          · refine X_aload_n C rfl dX9_barOf_38 ?_
            refine Xg_X9_commentOn C fl_X9_31 dX9_barOf_39 ?_
            refine X_iload C rfl dX9_barOf_42 ?_
            refine Xm_commentOn_ld C (by omega) (by omega) rfl dX9_barOf_44 ?_
            refine X_iload_n C rfl dX9_barOf_45 ?_
            refine X_icmp_ne C (tgt := 53) dX9_barOf_46 (by decide) ⟨by omega, by omega⟩ ⟨by omega, by omega⟩ (fun c_46 => ?_) (fun c_46 => ?_)
            · refine X_iconst C dX9_barOf_53 ?_
              refine X_istore_5 C (by decide) rfl dX9_barOf_54 ?_
              refine X_aload_n C rfl dX9_barOf_56 ?_
              refine Xg_X9_spanFrom C fl_X9_34 dX9_barOf_57 ?_
              refine X_iload C rfl dX9_barOf_60 ?_
              refine Xm_spanFrom_ld C (by omega) (by omega) rfl dX9_barOf_62 ?_
              refine X_iload_n C rfl dX9_barOf_63 ?_
              refine X_if_eq C (tgt := 71) dX9_barOf_64 (by decide) ⟨by omega, by omega⟩ (fun c_64 => ?_) (fun c_64 => ?_)
              · refine X_iconst C dX9_barOf_71 ?_
                refine X_iadd C dX9_barOf_72 ?_
                refine X_istore_6 C (by decide) rfl dX9_barOf_73 ?_
                refine X_iload C rfl dX9_barOf_75 ?_
                refine X_if_eq C (tgt := 104) dX9_barOf_77 (by decide) ⟨by omega, by omega⟩ (fun c_77 => ?_) (fun c_77 => ?_)
                rotate_left
                · exfalso; omega
                refine X_iinc_4 C (by decide) rfl dX9_barOf_104 ?_
                refine X_goto C (tgt := 19) dX9_barOf_107 (by decide) ?_
                exact ih (c + 1) _ _ (by omega) (fun q a1 a2 => by by_cases e : q = c; subst e; exact fun w => (by have w1 := w.1; have w2 := w.2.1; have w3 := w.2.2.1; have w4 := w.2.2.2; omega); exact hall q a1 (by omega)) (by omega)
              · refine X_iconst C dX9_barOf_67 ?_
                refine X_goto C (tgt := 72) dX9_barOf_68 (by decide) ?_
                refine X_iadd C dX9_barOf_72 ?_
                refine X_istore_6 C (by decide) rfl dX9_barOf_73 ?_
                refine X_iload C rfl dX9_barOf_75 ?_
                refine X_if_eq C (tgt := 104) dX9_barOf_77 (by decide) ⟨by omega, by omega⟩ (fun c_77 => ?_) (fun c_77 => ?_)
                rotate_left
                · exfalso; omega
                refine X_iinc_4 C (by decide) rfl dX9_barOf_104 ?_
                refine X_goto C (tgt := 19) dX9_barOf_107 (by decide) ?_
                exact ih (c + 1) _ _ (by omega) (fun q a1 a2 => by by_cases e : q = c; subst e; exact fun w => (by have w1 := w.1; have w2 := w.2.1; have w3 := w.2.2.1; have w4 := w.2.2.2; omega); exact hall q a1 (by omega)) (by omega)
            · refine X_iconst C dX9_barOf_49 ?_
              refine X_goto C (tgt := 54) dX9_barOf_50 (by decide) ?_
              refine X_istore_5 C (by decide) rfl dX9_barOf_54 ?_
              refine X_aload_n C rfl dX9_barOf_56 ?_
              refine Xg_X9_spanFrom C fl_X9_34 dX9_barOf_57 ?_
              refine X_iload C rfl dX9_barOf_60 ?_
              refine Xm_spanFrom_ld C (by omega) (by omega) rfl dX9_barOf_62 ?_
              refine X_iload_n C rfl dX9_barOf_63 ?_
              refine X_if_eq C (tgt := 71) dX9_barOf_64 (by decide) ⟨by omega, by omega⟩ (fun c_64 => ?_) (fun c_64 => ?_)
              · refine X_iconst C dX9_barOf_71 ?_
                refine X_iadd C dX9_barOf_72 ?_
                refine X_istore_6 C (by decide) rfl dX9_barOf_73 ?_
                refine X_iload C rfl dX9_barOf_75 ?_
                refine X_if_eq C (tgt := 104) dX9_barOf_77 (by decide) ⟨by omega, by omega⟩ (fun c_77 => ?_) (fun c_77 => ?_)
                · exfalso; omega
                refine X_iload_n C rfl dX9_barOf_80 ?_
                refine X_i2l C ⟨by omega, by omega⟩ dX9_barOf_81 ?_
                refine X_iload C rfl dX9_barOf_82 ?_
                refine X_i2l C ⟨by omega, by omega⟩ dX9_barOf_84 ?_
                refine X_aload_n C rfl dX9_barOf_85 ?_
                refine Xg_X9_spanTo C fl_X9_37 dX9_barOf_86 ?_
                refine X_iload C rfl dX9_barOf_89 ?_
                refine Xm_spanTo_ld C (by omega) (by omega) rfl dX9_barOf_91 ?_
                refine X_iconst C dX9_barOf_92 ?_
                refine X_isub C dX9_barOf_93 ?_
                refine X_i2l C ⟨by omega, by omega⟩ dX9_barOf_94 ?_
                refine X_callSE_3 C (c_X9_in C.hlc (by omega) (by omega) (by omega)) cs_X9_84 rfl rfl dX9_barOf_95 ?_
                refine X_if_eqB C (tgt := 104) dX9_barOf_98 (by decide) (fun c_98 => ?_) (fun c_98 => ?_)
                · refine X_iinc_4 C (by decide) rfl dX9_barOf_104 ?_
                  refine X_goto C (tgt := 19) dX9_barOf_107 (by decide) ?_
                  exact ih (c + 1) _ _ (by omega) (fun q a1 a2 => by by_cases e : q = c; subst e; exact fun w => (by have w1 := w.1; have w2 := w.2.1; have w3 := w.2.2.1; have w4 := w.2.2.2; omega); exact hall q a1 (by omega)) (by omega)
                · refine X_bipush C ⟨by decide, by decide⟩ dX9_barOf_101 ?_
                  exact X_ireturn C M rfl (by decide) (by decide) dX9_barOf_103 ⟨rI (by unfold brA; rw [if_neg (by omega), pk_t (show fzA σ d p b from ⟨c, by omega, by omega, by omega, by omega, by omega, by omega⟩)]), rfl, rfl⟩
              · refine X_iconst C dX9_barOf_67 ?_
                refine X_goto C (tgt := 72) dX9_barOf_68 (by decide) ?_
                refine X_iadd C dX9_barOf_72 ?_
                refine X_istore_6 C (by decide) rfl dX9_barOf_73 ?_
                refine X_iload C rfl dX9_barOf_75 ?_
                refine X_if_eq C (tgt := 104) dX9_barOf_77 (by decide) ⟨by omega, by omega⟩ (fun c_77 => ?_) (fun c_77 => ?_)
                · exfalso; omega
                refine X_iload_n C rfl dX9_barOf_80 ?_
                refine X_i2l C ⟨by omega, by omega⟩ dX9_barOf_81 ?_
                refine X_iload C rfl dX9_barOf_82 ?_
                refine X_i2l C ⟨by omega, by omega⟩ dX9_barOf_84 ?_
                refine X_aload_n C rfl dX9_barOf_85 ?_
                refine Xg_X9_spanTo C fl_X9_37 dX9_barOf_86 ?_
                refine X_iload C rfl dX9_barOf_89 ?_
                refine Xm_spanTo_ld C (by omega) (by omega) rfl dX9_barOf_91 ?_
                refine X_iconst C dX9_barOf_92 ?_
                refine X_isub C dX9_barOf_93 ?_
                refine X_i2l C ⟨by omega, by omega⟩ dX9_barOf_94 ?_
                refine X_callSE_3 C (c_X9_in C.hlc (by omega) (by omega) (by omega)) cs_X9_84 rfl rfl dX9_barOf_95 ?_
                refine X_if_eqB C (tgt := 104) dX9_barOf_98 (by decide) (fun c_98 => ?_) (fun c_98 => ?_)
                · refine X_iinc_4 C (by decide) rfl dX9_barOf_104 ?_
                  refine X_goto C (tgt := 19) dX9_barOf_107 (by decide) ?_
                  exact ih (c + 1) _ _ (by omega) (fun q a1 a2 => by by_cases e : q = c; subst e; exact fun w => (by have w1 := w.1; have w2 := w.2.1; have w3 := w.2.2.1; have w4 := w.2.2.2; omega); exact hall q a1 (by omega)) (by omega)
                · refine X_bipush C ⟨by decide, by decide⟩ dX9_barOf_101 ?_
                  exact X_ireturn C M rfl (by decide) (by decide) dX9_barOf_103 ⟨rI (by unfold brA; rw [if_neg (by omega), pk_t (show fzA σ d p b from ⟨c, by omega, by omega, by omega, by omega, by omega, by omega⟩)]), rfl, rfl⟩
    exact L19 9 0 none none (by omega) (fun q a1 a2 => by omega) (by omega)
  · refine X_bipush C ⟨by decide, by decide⟩ dX9_barOf_13 ?_
    exact X_ireturn C M rfl (by decide) (by decide) dX9_barOf_15 ⟨rI (by unfold brA; rw [if_pos (by omega)]), rfl, rfl⟩
set_option maxRecDepth 100000 in
set_option maxHeartbeats 4000000 in
theorem c_X9_moves_p {lc : Launch} (hlc : lc.stackTraces = false) {D : va_G} {Y : Nat → ClassId} {A : Nat → Prop} {τ σ : xS} {ρ : xG} {ad : xL} {n d p : Int} (hnc : 0 ≤ σ 31 0 0 ∧ σ 31 0 0 ≤ 8) (hd : 0 ≤ d ∧ d < σ 30 0 0) (hnd : σ 30 0 0 ≤ 3) (hp : 0 ≤ p ∧ p ≤ 80) (hon : ∀ i, 0 ≤ i → i < σ 31 0 0 → 0 ≤ σ 5 i 0 ∧ σ 5 i 0 < σ 30 0 0) (hop : ∀ i j, σ 8 i j = 0 ∨ σ 8 i j = 1) (hfr : ∀ i j, 0 ≤ σ 6 i j ∧ σ 6 i j ≤ 80) : Ct lc yX9_moves cX9_moves 6 none (rmL 0 0 0) D Y A ad (jG Y τ σ ρ ad) [.ref (ad 20 0), .int (iI d), .int (iI p), .int (iI 1)] (pE none ad (jG Y τ (mvS σ d p 0 1 (σ 31 0 0)) ρ ad)) (pF) := by
  refine Ct_of hlc (by decide +kernel) rfl rfl (own := RX9) (nm := "moves") (l0 := [some (.ref (ad 20 0)), some (.int (iI d)), some (.int (iI p)), some (.int (iI 1)), none, none]) rfl (Nat.le_of_ble_eq_true rfl) (fun κ C M => ?_)
  refine X_iconst C dX9_moves_0 ?_
  refine X_istore_4 C (by decide) rfl dX9_moves_1 ?_
  have L3 : ∀ (n9 : Nat) (c : Int) (w5 : Option Value), (0 ≤ c ∧ c ≤ σ 31 0 0) → σ 31 0 0 - c < (n9 : Int) → X κ D A 6 0 0 3 ([some (.ref (ad 20 0)), some (.int (iI d)), some (.int (iI p)), some (.int (iI 1)), some (.int (iI c)), w5]) ([]) ad (jG Y τ (mvS σ d p 0 1 c) ρ ad) := by
    intro n9
    induction n9 with
    | zero => intro c w5  hc hm; exfalso; omega
    | succ n9 ih =>
      intro c w5  hc hm
      refine X_iload C rfl dX9_moves_3 ?_
      refine X_aload_n C rfl dX9_moves_5 ?_
      refine Xg_X9_comments C (v := σ 31 0 0) (by simp (discharger := decide) only [mvS_r]) fl_X9_91 dX9_moves_6 ?_
      refine X_icmp_ge C (tgt := 107) dX9_moves_9 (by decide) ⟨by omega, by omega⟩ ⟨by omega, by omega⟩ (fun c_9 => ?_) (fun c_9 => ?_)
      · obtain rfl : c = σ 31 0 0 := by omega
        exact X_return C M (by decide) (by decide) dX9_moves_107 ⟨rfl, rfl, rfl⟩
      · have k1 := hop c 0
        have k2 := hon c (by omega) (by omega)
        have k3 := hfr c 0
        refine X_iload_n C rfl dX9_moves_12 ?_
        refine X_if_le C (tgt := 35) dX9_moves_13 (by decide) ⟨by omega, by omega⟩ (fun c_13 => ?_) (fun c_13 => ?_)
        · exfalso; omega
        refine X_iload_n C rfl dX9_moves_16 ?_
        refine X_aload_n C rfl dX9_moves_17 ?_
        refine Xg_X9_spanFrom C fl_X9_34 dX9_moves_18 ?_
        refine X_iload C rfl dX9_moves_21 ?_
        refine Xm_spanFrom_ld C (by omega) (by omega) (v := σ 6 c 0) (mvS_hi (Int.le_refl c)) dX9_moves_23 ?_
        refine X_icmp_gt C (tgt := 31) dX9_moves_24 (by decide) ⟨by omega, by omega⟩ ⟨by omega, by omega⟩ (fun c_24 => ?_) (fun c_24 => ?_)
        · refine X_iconst C dX9_moves_31 ?_
          refine X_goto C (tgt := 51) dX9_moves_32 (by decide) ?_
          refine X_istore_5 C (by decide) rfl dX9_moves_51 ?_
          refine X_aload_n C rfl dX9_moves_53 ?_
          refine Xg_X9_isOpen C fl_X9_40 dX9_moves_54 ?_
          refine X_iload C rfl dX9_moves_57 ?_
          refine Xm_isOpen_ld C (by omega) (by omega) (v := σ 8 c 0) (by simp (discharger := decide) only [mvS_r]) dX9_moves_59 ?_
          refine X_if_eq C (tgt := 101) dX9_moves_60 (by decide) ⟨by omega, by omega⟩ (fun c_60 => ?_) (fun c_60 => ?_)
          · refine X_iinc_4 C (by decide) rfl dX9_moves_101 ?_
            refine X_goto C (tgt := 3) dX9_moves_104 (by decide) ?_
            rw [← mvS_n (τ := σ) (d := d) (p := p) (k := 0) (b := 1) hc.1 (fun q => by have q1 := q.1; have q2 := q.2.1; have q3 := q.2.2; omega)]
            exact ih (c + 1) _ (by omega) (by omega)
          · refine X_aload_n C rfl dX9_moves_63 ?_
            refine Xg_X9_commentOn C fl_X9_31 dX9_moves_64 ?_
            refine X_iload C rfl dX9_moves_67 ?_
            refine Xm_commentOn_ld C (by omega) (by omega) (v := σ 5 c 0) (by simp (discharger := decide) only [mvS_r]) dX9_moves_69 ?_
            refine X_iload_n C rfl dX9_moves_70 ?_
            refine X_icmp_ne C (tgt := 101) dX9_moves_71 (by decide) ⟨by omega, by omega⟩ ⟨by omega, by omega⟩ (fun c_71 => ?_) (fun c_71 => ?_)
            · refine X_iinc_4 C (by decide) rfl dX9_moves_101 ?_
              refine X_goto C (tgt := 3) dX9_moves_104 (by decide) ?_
              rw [← mvS_n (τ := σ) (d := d) (p := p) (k := 0) (b := 1) hc.1 (fun q => by have q1 := q.1; have q2 := q.2.1; have q3 := q.2.2; omega)]
              exact ih (c + 1) _ (by omega) (by omega)
            · refine X_iload C rfl dX9_moves_74 ?_
              refine X_if_eq C (tgt := 101) dX9_moves_76 (by decide) ⟨by omega, by omega⟩ (fun c_76 => ?_) (fun c_76 => ?_)
              rotate_left
              · exfalso; omega
              refine X_iinc_4 C (by decide) rfl dX9_moves_101 ?_
              refine X_goto C (tgt := 3) dX9_moves_104 (by decide) ?_
              rw [← mvS_n (τ := σ) (d := d) (p := p) (k := 0) (b := 1) hc.1 (fun q => by have q1 := q.1; have q2 := q.2.1; have q3 := q.2.2; omega)]
              exact ih (c + 1) _ (by omega) (by omega)
        · refine X_iconst C dX9_moves_27 ?_
          refine X_goto C (tgt := 51) dX9_moves_28 (by decide) ?_
          refine X_istore_5 C (by decide) rfl dX9_moves_51 ?_
          refine X_aload_n C rfl dX9_moves_53 ?_
          refine Xg_X9_isOpen C fl_X9_40 dX9_moves_54 ?_
          refine X_iload C rfl dX9_moves_57 ?_
          refine Xm_isOpen_ld C (by omega) (by omega) (v := σ 8 c 0) (by simp (discharger := decide) only [mvS_r]) dX9_moves_59 ?_
          refine X_if_eq C (tgt := 101) dX9_moves_60 (by decide) ⟨by omega, by omega⟩ (fun c_60 => ?_) (fun c_60 => ?_)
          · refine X_iinc_4 C (by decide) rfl dX9_moves_101 ?_
            refine X_goto C (tgt := 3) dX9_moves_104 (by decide) ?_
            rw [← mvS_n (τ := σ) (d := d) (p := p) (k := 0) (b := 1) hc.1 (fun q => by have q1 := q.1; have q2 := q.2.1; have q3 := q.2.2; omega)]
            exact ih (c + 1) _ (by omega) (by omega)
          · refine X_aload_n C rfl dX9_moves_63 ?_
            refine Xg_X9_commentOn C fl_X9_31 dX9_moves_64 ?_
            refine X_iload C rfl dX9_moves_67 ?_
            refine Xm_commentOn_ld C (by omega) (by omega) (v := σ 5 c 0) (by simp (discharger := decide) only [mvS_r]) dX9_moves_69 ?_
            refine X_iload_n C rfl dX9_moves_70 ?_
            refine X_icmp_ne C (tgt := 101) dX9_moves_71 (by decide) ⟨by omega, by omega⟩ ⟨by omega, by omega⟩ (fun c_71 => ?_) (fun c_71 => ?_)
            · refine X_iinc_4 C (by decide) rfl dX9_moves_101 ?_
              refine X_goto C (tgt := 3) dX9_moves_104 (by decide) ?_
              rw [← mvS_n (τ := σ) (d := d) (p := p) (k := 0) (b := 1) hc.1 (fun q => by have q1 := q.1; have q2 := q.2.1; have q3 := q.2.2; omega)]
              exact ih (c + 1) _ (by omega) (by omega)
            · refine X_iload C rfl dX9_moves_74 ?_
              refine X_if_eq C (tgt := 101) dX9_moves_76 (by decide) ⟨by omega, by omega⟩ (fun c_76 => ?_) (fun c_76 => ?_)
              · exfalso; omega
              refine X_aload_n C rfl dX9_moves_79 ?_
              refine Xg_X9_spanFrom C fl_X9_34 dX9_moves_80 ?_
              refine X_iload C rfl dX9_moves_83 ?_
              refine X_dup2 C rfl rfl dX9_moves_85 ?_
              refine Xm_spanFrom_ld C (by omega) (by omega) (v := σ 6 c 0) (mvS_hi (Int.le_refl c)) dX9_moves_86 ?_
              refine X_iload_n C rfl dX9_moves_87 ?_
              refine X_iadd C dX9_moves_88 ?_
              refine Xm_spanFrom_st C (by omega) (by omega) dX9_moves_89 ?_
              refine X_aload_n C rfl dX9_moves_90 ?_
              refine Xg_X9_spanTo C fl_X9_37 dX9_moves_91 ?_
              refine X_iload C rfl dX9_moves_94 ?_
              refine X_dup2 C rfl rfl dX9_moves_96 ?_
              refine Xm_spanTo_ld C (by omega) (by omega) (v := σ 7 c 0) (by rw [up_r (by decide)]; exact mvS_hi (Int.le_refl c)) dX9_moves_97 ?_
              refine X_iload_n C rfl dX9_moves_98 ?_
              refine X_iadd C dX9_moves_99 ?_
              refine Xm_spanTo_st C (by omega) (by omega) dX9_moves_100 ?_
              refine X_iinc_4 C (by decide) rfl dX9_moves_101 ?_
              refine X_goto C (tgt := 3) dX9_moves_104 (by decide) ?_
              rw [← mvS_y (τ := σ) (d := d) (p := p) (k := 0) (b := 1) hc.1 ⟨by omega, by omega, by omega⟩]
              exact ih (c + 1) _ (by omega) (by omega)
  have h9 := L3 9 0 none (by omega) (by omega)
  rw [mvS_0] at h9
  exact h9
set_option maxRecDepth 100000 in
set_option maxHeartbeats 4000000 in
theorem c_X9_moves_m {lc : Launch} (hlc : lc.stackTraces = false) {D : va_G} {Y : Nat → ClassId} {A : Nat → Prop} {τ σ : xS} {ρ : xG} {ad : xL} {n d p : Int} (hnc : 0 ≤ σ 31 0 0 ∧ σ 31 0 0 ≤ 8) (hd : 0 ≤ d ∧ d < σ 30 0 0) (hnd : σ 30 0 0 ≤ 3) (hp : 0 ≤ p ∧ p ≤ 80) (hon : ∀ i, 0 ≤ i → i < σ 31 0 0 → 0 ≤ σ 5 i 0 ∧ σ 5 i 0 < σ 30 0 0) (hop : ∀ i j, σ 8 i j = 0 ∨ σ 8 i j = 1) (hfr : ∀ i j, 0 ≤ σ 6 i j ∧ σ 6 i j ≤ 80) : Ct lc yX9_moves cX9_moves 6 none (rmL 0 0 0) D Y A ad (jG Y τ σ ρ ad) [.ref (ad 20 0), .int (iI d), .int (iI p), .int (iI (-1))] (pE none ad (jG Y τ (mvS σ d p 1 (-1) (σ 31 0 0)) ρ ad)) (pF) := by
  refine Ct_of hlc (by decide +kernel) rfl rfl (own := RX9) (nm := "moves") (l0 := [some (.ref (ad 20 0)), some (.int (iI d)), some (.int (iI p)), some (.int (iI (-1))), none, none]) rfl (Nat.le_of_ble_eq_true rfl) (fun κ C M => ?_)
  refine X_iconst C dX9_moves_0 ?_
  refine X_istore_4 C (by decide) rfl dX9_moves_1 ?_
  have L3 : ∀ (n9 : Nat) (c : Int) (w5 : Option Value), (0 ≤ c ∧ c ≤ σ 31 0 0) → σ 31 0 0 - c < (n9 : Int) → X κ D A 6 0 0 3 ([some (.ref (ad 20 0)), some (.int (iI d)), some (.int (iI p)), some (.int (iI (-1))), some (.int (iI c)), w5]) ([]) ad (jG Y τ (mvS σ d p 1 (-1) c) ρ ad) := by
    intro n9
    induction n9 with
    | zero => intro c w5  hc hm; exfalso; omega
    | succ n9 ih =>
      intro c w5  hc hm
      refine X_iload C rfl dX9_moves_3 ?_
      refine X_aload_n C rfl dX9_moves_5 ?_
      refine Xg_X9_comments C (v := σ 31 0 0) (by simp (discharger := decide) only [mvS_r]) fl_X9_91 dX9_moves_6 ?_
      refine X_icmp_ge C (tgt := 107) dX9_moves_9 (by decide) ⟨by omega, by omega⟩ ⟨by omega, by omega⟩ (fun c_9 => ?_) (fun c_9 => ?_)
      · obtain rfl : c = σ 31 0 0 := by omega
        exact X_return C M (by decide) (by decide) dX9_moves_107 ⟨rfl, rfl, rfl⟩
      · have k1 := hop c 0
        have k2 := hon c (by omega) (by omega)
        have k3 := hfr c 0
        refine X_iload_n C rfl dX9_moves_12 ?_
        refine X_if_le C (tgt := 35) dX9_moves_13 (by decide) ⟨by omega, by omega⟩ (fun c_13 => ?_) (fun c_13 => ?_)
        rotate_left
        · exfalso; omega
        refine X_iload_n C rfl dX9_moves_35 ?_
        refine X_aload_n C rfl dX9_moves_36 ?_
        refine Xg_X9_spanFrom C fl_X9_34 dX9_moves_37 ?_
        refine X_iload C rfl dX9_moves_40 ?_
        refine Xm_spanFrom_ld C (by omega) (by omega) (v := σ 6 c 0) (mvS_hi (Int.le_refl c)) dX9_moves_42 ?_
        refine X_icmp_ge C (tgt := 50) dX9_moves_43 (by decide) ⟨by omega, by omega⟩ ⟨by omega, by omega⟩ (fun c_43 => ?_) (fun c_43 => ?_)
        · refine X_iconst C dX9_moves_50 ?_
          refine X_istore_5 C (by decide) rfl dX9_moves_51 ?_
          refine X_aload_n C rfl dX9_moves_53 ?_
          refine Xg_X9_isOpen C fl_X9_40 dX9_moves_54 ?_
          refine X_iload C rfl dX9_moves_57 ?_
          refine Xm_isOpen_ld C (by omega) (by omega) (v := σ 8 c 0) (by simp (discharger := decide) only [mvS_r]) dX9_moves_59 ?_
          refine X_if_eq C (tgt := 101) dX9_moves_60 (by decide) ⟨by omega, by omega⟩ (fun c_60 => ?_) (fun c_60 => ?_)
          · refine X_iinc_4 C (by decide) rfl dX9_moves_101 ?_
            refine X_goto C (tgt := 3) dX9_moves_104 (by decide) ?_
            rw [← mvS_n (τ := σ) (d := d) (p := p) (k := 1) (b := (-1)) hc.1 (fun q => by have q1 := q.1; have q2 := q.2.1; have q3 := q.2.2; omega)]
            exact ih (c + 1) _ (by omega) (by omega)
          · refine X_aload_n C rfl dX9_moves_63 ?_
            refine Xg_X9_commentOn C fl_X9_31 dX9_moves_64 ?_
            refine X_iload C rfl dX9_moves_67 ?_
            refine Xm_commentOn_ld C (by omega) (by omega) (v := σ 5 c 0) (by simp (discharger := decide) only [mvS_r]) dX9_moves_69 ?_
            refine X_iload_n C rfl dX9_moves_70 ?_
            refine X_icmp_ne C (tgt := 101) dX9_moves_71 (by decide) ⟨by omega, by omega⟩ ⟨by omega, by omega⟩ (fun c_71 => ?_) (fun c_71 => ?_)
            · refine X_iinc_4 C (by decide) rfl dX9_moves_101 ?_
              refine X_goto C (tgt := 3) dX9_moves_104 (by decide) ?_
              rw [← mvS_n (τ := σ) (d := d) (p := p) (k := 1) (b := (-1)) hc.1 (fun q => by have q1 := q.1; have q2 := q.2.1; have q3 := q.2.2; omega)]
              exact ih (c + 1) _ (by omega) (by omega)
            · refine X_iload C rfl dX9_moves_74 ?_
              refine X_if_eq C (tgt := 101) dX9_moves_76 (by decide) ⟨by omega, by omega⟩ (fun c_76 => ?_) (fun c_76 => ?_)
              rotate_left
              · exfalso; omega
              refine X_iinc_4 C (by decide) rfl dX9_moves_101 ?_
              refine X_goto C (tgt := 3) dX9_moves_104 (by decide) ?_
              rw [← mvS_n (τ := σ) (d := d) (p := p) (k := 1) (b := (-1)) hc.1 (fun q => by have q1 := q.1; have q2 := q.2.1; have q3 := q.2.2; omega)]
              exact ih (c + 1) _ (by omega) (by omega)
        · refine X_iconst C dX9_moves_46 ?_
          refine X_goto C (tgt := 51) dX9_moves_47 (by decide) ?_
          refine X_istore_5 C (by decide) rfl dX9_moves_51 ?_
          refine X_aload_n C rfl dX9_moves_53 ?_
          refine Xg_X9_isOpen C fl_X9_40 dX9_moves_54 ?_
          refine X_iload C rfl dX9_moves_57 ?_
          refine Xm_isOpen_ld C (by omega) (by omega) (v := σ 8 c 0) (by simp (discharger := decide) only [mvS_r]) dX9_moves_59 ?_
          refine X_if_eq C (tgt := 101) dX9_moves_60 (by decide) ⟨by omega, by omega⟩ (fun c_60 => ?_) (fun c_60 => ?_)
          · refine X_iinc_4 C (by decide) rfl dX9_moves_101 ?_
            refine X_goto C (tgt := 3) dX9_moves_104 (by decide) ?_
            rw [← mvS_n (τ := σ) (d := d) (p := p) (k := 1) (b := (-1)) hc.1 (fun q => by have q1 := q.1; have q2 := q.2.1; have q3 := q.2.2; omega)]
            exact ih (c + 1) _ (by omega) (by omega)
          · refine X_aload_n C rfl dX9_moves_63 ?_
            refine Xg_X9_commentOn C fl_X9_31 dX9_moves_64 ?_
            refine X_iload C rfl dX9_moves_67 ?_
            refine Xm_commentOn_ld C (by omega) (by omega) (v := σ 5 c 0) (by simp (discharger := decide) only [mvS_r]) dX9_moves_69 ?_
            refine X_iload_n C rfl dX9_moves_70 ?_
            refine X_icmp_ne C (tgt := 101) dX9_moves_71 (by decide) ⟨by omega, by omega⟩ ⟨by omega, by omega⟩ (fun c_71 => ?_) (fun c_71 => ?_)
            · refine X_iinc_4 C (by decide) rfl dX9_moves_101 ?_
              refine X_goto C (tgt := 3) dX9_moves_104 (by decide) ?_
              rw [← mvS_n (τ := σ) (d := d) (p := p) (k := 1) (b := (-1)) hc.1 (fun q => by have q1 := q.1; have q2 := q.2.1; have q3 := q.2.2; omega)]
              exact ih (c + 1) _ (by omega) (by omega)
            · refine X_iload C rfl dX9_moves_74 ?_
              refine X_if_eq C (tgt := 101) dX9_moves_76 (by decide) ⟨by omega, by omega⟩ (fun c_76 => ?_) (fun c_76 => ?_)
              · exfalso; omega
              refine X_aload_n C rfl dX9_moves_79 ?_
              refine Xg_X9_spanFrom C fl_X9_34 dX9_moves_80 ?_
              refine X_iload C rfl dX9_moves_83 ?_
              refine X_dup2 C rfl rfl dX9_moves_85 ?_
              refine Xm_spanFrom_ld C (by omega) (by omega) (v := σ 6 c 0) (mvS_hi (Int.le_refl c)) dX9_moves_86 ?_
              refine X_iload_n C rfl dX9_moves_87 ?_
              refine X_iadd C dX9_moves_88 ?_
              refine Xm_spanFrom_st C (by omega) (by omega) dX9_moves_89 ?_
              refine X_aload_n C rfl dX9_moves_90 ?_
              refine Xg_X9_spanTo C fl_X9_37 dX9_moves_91 ?_
              refine X_iload C rfl dX9_moves_94 ?_
              refine X_dup2 C rfl rfl dX9_moves_96 ?_
              refine Xm_spanTo_ld C (by omega) (by omega) (v := σ 7 c 0) (by rw [up_r (by decide)]; exact mvS_hi (Int.le_refl c)) dX9_moves_97 ?_
              refine X_iload_n C rfl dX9_moves_98 ?_
              refine X_iadd C dX9_moves_99 ?_
              refine Xm_spanTo_st C (by omega) (by omega) dX9_moves_100 ?_
              refine X_iinc_4 C (by decide) rfl dX9_moves_101 ?_
              refine X_goto C (tgt := 3) dX9_moves_104 (by decide) ?_
              rw [← mvS_y (τ := σ) (d := d) (p := p) (k := 1) (b := (-1)) hc.1 ⟨by omega, by omega, by omega⟩]
              exact ih (c + 1) _ (by omega) (by omega)
  have h9 := L3 9 0 none (by omega) (by omega)
  rw [mvS_0] at h9
  exact h9
set_option maxRecDepth 100000 in
set_option maxHeartbeats 4000000 in
theorem c_X9_asksSheet {lc : Launch} (hlc : lc.stackTraces = false) {D : va_G} {Y : Nat → ClassId} {A : Nat → Prop} {τ σ : xS} {ρ : xG} {ad : xL} {n z s : Int} (I : xI n σ) (hz : rg z) (hs : rg s) : Ct lc yX9_asksSheet cX9_asksSheet 3 (some .boolean) (rmL 3 0 0) D Y A ad (jG Y τ σ ρ ad) [.ref (ad 20 0), .int (iI z), .int (iI s)] (pE (some (.int (iI (bI (kSta σ z s = 0))))) ad (jG Y τ (up σ 40 0 0 (kSta σ z s)) ρ ad)) (pF) := by
  refine Ct_of hlc (by decide +kernel) rfl rfl (own := RX9) (nm := "asksSheet") (l0 := [some (.ref (ad 20 0)), some (.int (iI z)), some (.int (iI s))]) rfl (Nat.le_of_ble_eq_true rfl) (fun κ C M => ?_)
  have Ind := I.nd
  have Inc := I.nc
  have Ino := I.no
  have In := I.n0
  have ko : (kOdr σ z = 1 ∧ ¬ (0 ≤ z ∧ z < σ 32 0 0)) ∨ (kOdr σ z = 0 ∧ 0 ≤ z ∧ z < σ 32 0 0) := by unfold kOdr; split <;> omega
  refine X_aload_n C rfl dX9_asksSheet_0 ?_
  refine X_iload_n C rfl dX9_asksSheet_1 ?_
  refine X_callVE_1 C (c_X9_asksOrder C.hlc (by assumption) (by omega)) cv_X9_192 jG_20 ⟨_, _, rfl⟩ rfl rfl dX9_asksSheet_2 ?_
  refine X_if_eqB C (tgt := 34) dX9_asksSheet_5 (by decide) (fun c_5 => ?_) (fun c_5 => ?_)
  · refine X_aload_n C rfl dX9_asksSheet_34 ?_
    refine Xg_X9_thrown C up_s fl_X9_78 dX9_asksSheet_35 ?_
    refine X_if_ne C (tgt := 45) dX9_asksSheet_38 (by decide) ⟨by omega, by omega⟩ (fun c_38 => ?_) (fun c_38 => ?_)
    rotate_left
    · exfalso; omega
    refine X_iconst C dX9_asksSheet_45 ?_
    exact X_ireturn C M rfl (by decide) (by decide) dX9_asksSheet_46 ⟨rB0 (fun w => by have : kSta σ z s = 1 := (by unfold kSta; (repeat' split) <;> omega); omega), rfl, congrArg (fun v9 => jG Y τ (up σ 40 0 0 v9) ρ ad) (show kOdr σ z = kSta σ z s from by rw [show kSta σ z s = 1 from (by unfold kSta; (repeat' split) <;> omega)]; omega)⟩
  · refine X_aload_n C rfl dX9_asksSheet_8 ?_
    refine X_iload_n C rfl dX9_asksSheet_9 ?_
    refine X_i2l C ⟨by omega, by omega⟩ dX9_asksSheet_10 ?_
    refine X_lconst C (v := 0) rfl dX9_asksSheet_11 ?_
    refine X_aload_n C rfl dX9_asksSheet_12 ?_
    refine X_iload_n C rfl dX9_asksSheet_13 ?_
    refine X_callVE_1 C (c_X9_sheetsIn C.hlc (pr_thr I) (show 0 ≤ z ∧ z < σ 32 0 0 from by omega)) cv_X9_175 jG_20 ⟨_, _, rfl⟩ rfl rfl dX9_asksSheet_14 ?_
    rw [show shT (up σ 40 0 0 (kOdr σ z)) ((up σ 40 0 0 (kOdr σ z)) 9 z 0) = shT σ (σ 9 z 0) from rfl]
    have k5 := I.sb (σ 9 z 0)
    refine X_iconst C dX9_asksSheet_17 ?_
    refine X_isub C dX9_asksSheet_18 ?_
    refine X_i2l C ⟨by omega, by omega⟩ dX9_asksSheet_19 ?_
    refine X_callSE_3 C (c_X9_in C.hlc (by omega) (by omega) (by omega)) cs_X9_84 rfl rfl dX9_asksSheet_20 ?_
    refine X_if_eqB C (tgt := 30) dX9_asksSheet_23 (by decide) (fun c_23 => ?_) (fun c_23 => ?_)
    · refine X_iconst C dX9_asksSheet_30 ?_
      refine Xp_X9_thrown C fw_X9_78 dX9_asksSheet_31 ?_
      refine X_aload_n C rfl dX9_asksSheet_34 ?_
      refine Xg_X9_thrown C up_s fl_X9_78 dX9_asksSheet_35 ?_
      refine X_if_ne C (tgt := 45) dX9_asksSheet_38 (by decide) ⟨by omega, by omega⟩ (fun c_38 => ?_) (fun c_38 => ?_)
      rotate_left
      · exfalso; omega
      refine X_iconst C dX9_asksSheet_45 ?_
      exact X_ireturn C M rfl (by decide) (by decide) dX9_asksSheet_46 ⟨rB0 (fun w => by have : kSta σ z s = 2 := (by unfold kSta; (repeat' split) <;> omega); omega), rfl, jG_up (show (2 : Int) = kSta σ z s from (by unfold kSta; (repeat' split) <;> omega))⟩
    · refine X_iconst C dX9_asksSheet_26 ?_
      refine X_goto C (tgt := 31) dX9_asksSheet_27 (by decide) ?_
      refine Xp_X9_thrown C fw_X9_78 dX9_asksSheet_31 ?_
      refine X_aload_n C rfl dX9_asksSheet_34 ?_
      refine Xg_X9_thrown C up_s fl_X9_78 dX9_asksSheet_35 ?_
      refine X_if_ne C (tgt := 45) dX9_asksSheet_38 (by decide) ⟨by omega, by omega⟩ (fun c_38 => ?_) (fun c_38 => ?_)
      · exfalso; omega
      refine X_iconst C dX9_asksSheet_41 ?_
      refine X_goto C (tgt := 46) dX9_asksSheet_42 (by decide) ?_
      exact X_ireturn C M rfl (by decide) (by decide) dX9_asksSheet_46 ⟨rB1 (by unfold kSta; (repeat' split) <;> omega), rfl, jG_up (show (0 : Int) = kSta σ z s from (by unfold kSta; (repeat' split) <;> omega))⟩
