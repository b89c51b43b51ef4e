/-! the calls of the law, 2 -/
theorem lc_answer {κ : xK} {D : va_G} {Y : Nat → ClassId} {A : Nat → Prop} {cells slots b L : Nat} {xs : Nat → Int32} {θ : xS} {ρ : xG} {ad : xL} {n i : Int} (C : XB κ D Y A cL_law RL 9 room_1) (hN : xGN κ.2.2.2.2.1) (S : xSc κ A b L xs) (hL : L ≤ 2048) (I : xI n θ) (hn : n < 512) (ho : oK Y ρ) (hi : 0 ≤ i ∧ i + 4 ≤ L) (hc : cells + 40 ≤ 603072) (hs : slots + 400 ≤ 7198826) (kk : ∀ (θ2 : xS) (ρ2 : xG) (ad2 : xL), xI (n + 1) θ2 → oK Y ρ2 → X κ D A 9 (cells + 40) (slots + 400) 2605 [some (.ref b), some (.ref (ad2 0 0)), some (.ref (ad2 20 0)), some (.ref (ad2 61 0)), some (.ref (ad2 62 0)), some (.int (iI i)), none, none, none] [] ad2 (jG Y θ2 θ2 ρ2 ad2)) : X κ D A 9 cells slots 840 [some (.ref b), some (.ref (ad 0 0)), some (.ref (ad 20 0)), some (.ref (ad 61 0)), some (.ref (ad 62 0)), some (.int (iI i)), none, none, none] [] ad (jG Y θ θ ρ ad) := by
  obtain ⟨z0, hz0, ez0⟩ : ∃ z : Int, rg z ∧ (xs (i + 1).toNat).toInt = z := ⟨_, rg_of _, rfl⟩
  refine X_aload_n C rfl dL_law_840 ?_
  refine X_aload_n C rfl dL_law_841 ?_
  refine X_iload C rfl dL_law_842 ?_
  refine X_iconst C dL_law_844 ?_
  refine X_iadd C dL_law_845 ?_
  refine X_sld C S (by omega) (by omega) (by omega) ez0 dL_law_846 ?_
  refine X_aload_n C rfl dL_law_847 ?_
  refine X_callSW C hN (w_answer C.hlc I hz0 ho) cw_answer (As := [.ref (ad 0 0), .int (iI z0), .ref (ad 61 0)]) rfl rfl rfl (xroom_of rfl rfl (show cells + 12 ≤ 603072 by omega) (show slots + 224 ≤ 7198826 by omega)) dL_law_848 (fun r ad2 g2 hp => ?_)
  obtain ⟨h1, hkp, ρ2, ho2, hV, h2⟩ := hp
  rw [h1, h2, ← hkp 0 0 (by omega), ← hkp 20 0 (by omega), ← hkp 61 0 (by omega), ← hkp 62 0 (by omega)]
  refine X_istore_6 C (by decide) rfl dL_law_851 ?_
  refine X_aload_n C rfl dL_law_853 ?_
  refine X_aload_n C rfl dL_law_854 ?_
  refine X_iload C rfl dL_law_855 ?_
  refine X_iconst C dL_law_857 ?_
  refine X_iadd C dL_law_858 ?_
  refine X_sld C S (by omega) (by omega) (by omega) ez0 dL_law_859 ?_
  refine X_callVg C (c_X9_answer C.hlc I hz0) cv_L_182 jG_20 ⟨_, _, rfl⟩ (As := [.int (iI z0)]) rfl rfl rfl (xroom_of rfl rfl (show cells + 12 + 0 ≤ 603072 by omega) (show slots + 224 + 0 ≤ 7198826 by omega)) dL_law_860 (fun _ _ _ h => h.elim) (fun r3 ad3 g3 hp3 => ?_)
  obtain ⟨h3, h4, h5⟩ := hp3
  rw [h3, h4, h5]
  refine X_istore_7 C (by decide) rfl dL_law_863 ?_
  obtain ⟨T, IT, hT, hj⟩ := b_ans (z := z0) I hn
  rw [hj]
  refine X_aload_n C rfl dL_law_865 ?_
  refine X_callVg C (c_X9_thrown C.hlc) cv_L_149 jG_20 ⟨_, _, rfl⟩ (As := []) rfl rfl rfl (xroom_of rfl rfl (show cells + 12 + 0 + 0 ≤ 603072 by omega) (show slots + 224 + 0 + 0 ≤ 7198826 by omega)) dL_law_866 (fun _ _ _ h => h.elim) (fun r6 ad6 g6 hp6 => ?_)
  obtain ⟨h6, h7, h8⟩ := hp6
  rw [h6, h7, h8, hT]
  have hK : 0 ≤ kAns θ z0 ∧ kAns θ z0 ≤ 5 := by unfold kAns; (repeat' split) <;> omega
  have hKr : rg (kAns θ z0) := by constructor <;> omega
  refine X_iload C rfl dL_law_869 ?_
  refine X_icmp_eq (tgt := 876) C dL_law_871 rfl hKr hKr (fun _ => ?_) (fun h => absurd rfl h)
  refine X_iload C rfl dL_law_876 ?_
  refine X_if_ne (tgt := 893) C dL_law_878 rfl hKr (fun _ => ?_) (fun hk0 => ?_)
  · refine X_goto (tgt := 2605) C dL_law_893 rfl ?_
    exact X_fg9 (X.widen (show cells + 12 + 0 + 0 ≤ cells + 40 by omega) (show slots + 224 + 0 + 0 ≤ slots + 400 by omega) (kk T ρ2 ad2 IT ho2))
  · obtain ⟨f, hf, hx⟩ := hV hk0
    rw [mA_0 hk0]
    refine X_aload_n C rfl dL_law_881 ?_
    refine X_iconst C dL_law_882 ?_
    refine X_lald C ((jG_at (by decide)).trans hf) (by decide) (by decide) (by decide) hx dL_law_883 ?_
    refine X_iload C rfl dL_law_884 ?_
    refine X_i2lR C dL_law_886 ?_
    refine X_lcmpR C dL_law_887 ?_
    refine X_if_eq (tgt := 893) C dL_law_888 rfl rg0 (fun _ => ?_) (fun h => absurd rfl h)
    refine X_goto (tgt := 2605) C dL_law_893 rfl ?_
    exact X_fg9 (X.widen (show cells + 12 + 0 + 0 ≤ cells + 40 by omega) (show slots + 224 + 0 + 0 ≤ slots + 400 by omega) (kk T ρ2 ad2 IT ho2))
theorem lc_isOpen {κ : xK} {D : va_G} {Y : Nat → ClassId} {A : Nat → Prop} {cells slots b L : Nat} {xs : Nat → Int32} {θ : xS} {ρ : xG} {ad : xL} {n i : Int} (C : XB κ D Y A cL_law RL 9 room_1) (hN : xGN κ.2.2.2.2.1) (S : xSc κ A b L xs) (hL : L ≤ 2048) (I : xI n θ) (hn : n < 512) (ho : oK Y ρ) (hi : 0 ≤ i ∧ i + 4 ≤ L) (hc : cells + 40 ≤ 603072) (hs : slots + 400 ≤ 7198826) (kk : ∀ (θ2 : xS) (ρ2 : xG) (ad2 : xL), xI (n + 1) θ2 → oK Y ρ2 → X κ D A 9 (cells + 40) (slots + 400) 2605 [some (.ref b), some (.ref (ad2 0 0)), some (.ref (ad2 20 0)), some (.ref (ad2 61 0)), some (.ref (ad2 62 0)), some (.int (iI i)), none, none, none] [] ad2 (jG Y θ2 θ2 ρ2 ad2)) : X κ D A 9 cells slots 896 [some (.ref b), some (.ref (ad 0 0)), some (.ref (ad 20 0)), some (.ref (ad 61 0)), some (.ref (ad 62 0)), some (.int (iI i)), none, none, none] [] ad (jG Y θ θ ρ ad) := by
  obtain ⟨z0, hz0, ez0⟩ : ∃ z : Int, rg z ∧ (xs (i + 1).toNat).toInt = z := ⟨_, rg_of _, rfl⟩
  refine X_aload_n C rfl dL_law_896 ?_
  refine X_aload_n C rfl dL_law_897 ?_
  refine X_iload C rfl dL_law_898 ?_
  refine X_iconst C dL_law_900 ?_
  refine X_iadd C dL_law_901 ?_
  refine X_sld C S (by omega) (by omega) (by omega) ez0 dL_law_902 ?_
  refine X_aload_n C rfl dL_law_903 ?_
  refine X_callSW C hN (w_isOpen C.hlc I hz0 ho) cw_isOpen (As := [.ref (ad 0 0), .int (iI z0), .ref (ad 61 0)]) rfl rfl rfl (xroom_of rfl rfl (show cells + 12 ≤ 603072 by omega) (show slots + 224 ≤ 7198826 by omega)) dL_law_904 (fun r ad2 g2 hp => ?_)
  obtain ⟨h1, hkp, ρ2, ho2, hV, h2⟩ := hp
  rw [h1, h2, ← hkp 0 0 (by omega), ← hkp 20 0 (by omega), ← hkp 61 0 (by omega), ← hkp 62 0 (by omega)]
  refine X_istore_6 C (by decide) rfl dL_law_907 ?_
  refine X_aload_n C rfl dL_law_909 ?_
  refine X_aload_n C rfl dL_law_910 ?_
  refine X_iload C rfl dL_law_911 ?_
  refine X_iconst C dL_law_913 ?_
  refine X_iadd C dL_law_914 ?_
  refine X_sld C S (by omega) (by omega) (by omega) ez0 dL_law_915 ?_
  refine X_callVg C (c_X9_isOpen C.hlc I hz0) cv_L_185 jG_20 ⟨_, _, rfl⟩ (As := [.int (iI z0)]) rfl rfl rfl (xroom_of rfl rfl (show cells + 12 + 0 ≤ 603072 by omega) (show slots + 224 + 0 ≤ 7198826 by omega)) dL_law_916 (fun _ _ _ h => h.elim) (fun r3 ad3 g3 hp3 => ?_)
  obtain ⟨h3, h4, h5⟩ := hp3
  rw [h3, h4, h5]
  refine X_istore_7 C (by decide) rfl dL_law_919 ?_
  obtain ⟨T, IT, hT, hj⟩ := jBr_q (k := kIsO θ z0) I hn
  rw [hj]
  refine X_aload_n C rfl dL_law_921 ?_
  refine X_callVg C (c_X9_thrown C.hlc) cv_L_149 jG_20 ⟨_, _, rfl⟩ (As := []) rfl rfl rfl (xroom_of rfl rfl (show cells + 12 + 0 + 0 ≤ 603072 by omega) (show slots + 224 + 0 + 0 ≤ 7198826 by omega)) dL_law_922 (fun _ _ _ h => h.elim) (fun r6 ad6 g6 hp6 => ?_)
  obtain ⟨h6, h7, h8⟩ := hp6
  rw [h6, h7, h8, hT]
  have hK : 0 ≤ kIsO θ z0 ∧ kIsO θ z0 ≤ 5 := by unfold kIsO; (repeat' split) <;> omega
  have hKr : rg (kIsO θ z0) := by constructor <;> omega
  refine X_iload C rfl dL_law_925 ?_
  refine X_icmp_eq (tgt := 932) C dL_law_927 rfl hKr hKr (fun _ => ?_) (fun h => absurd rfl h)
  refine X_iload C rfl dL_law_932 ?_
  refine X_if_ne (tgt := 956) C dL_law_934 rfl hKr (fun _ => ?_) (fun hk0 => ?_)
  · refine X_goto (tgt := 2605) C dL_law_956 rfl ?_
    exact X_fg9 (X.widen (show cells + 12 + 0 + 0 ≤ cells + 40 by omega) (show slots + 224 + 0 + 0 ≤ slots + 400 by omega) (kk T ρ2 ad2 IT ho2))
  · obtain ⟨f, hf, hx⟩ := hV hk0
    rw [mA_0 hk0]
    refine X_aload_n C rfl dL_law_937 ?_
    refine X_iconst C dL_law_938 ?_
    refine X_lald C ((jG_at (by decide)).trans hf) (by decide) (by decide) (by decide) hx dL_law_939 ?_
    refine X_iload C rfl dL_law_940 ?_
    refine X_if_eq (tgt := 949) C dL_law_942 rfl (by have h := I.op z0 0; constructor <;> omega) (fun h0 => ?_) (fun h0 => ?_)
    · rw [if_pos h0]
      refine X_lconst (v := 0) C rfl dL_law_949 ?_
      refine X_lcmpR C dL_law_950 ?_
      refine X_if_eq (tgt := 956) C dL_law_951 rfl rg0 (fun _ => ?_) (fun h => absurd rfl h)
      refine X_goto (tgt := 2605) C dL_law_956 rfl ?_
      exact X_fg9 (X.widen (show cells + 12 + 0 + 0 ≤ cells + 40 by omega) (show slots + 224 + 0 + 0 ≤ slots + 400 by omega) (kk T ρ2 ad2 IT ho2))
    · rw [if_neg h0]
      refine X_lconst (v := 1) C rfl dL_law_945 ?_
      refine X_goto (tgt := 950) C dL_law_946 rfl ?_
      refine X_lcmpR C dL_law_950 ?_
      refine X_if_eq (tgt := 956) C dL_law_951 rfl rg0 (fun _ => ?_) (fun h => absurd rfl h)
      refine X_goto (tgt := 2605) C dL_law_956 rfl ?_
      exact X_fg9 (X.widen (show cells + 12 + 0 + 0 ≤ cells + 40 by omega) (show slots + 224 + 0 + 0 ≤ slots + 400 by omega) (kk T ρ2 ad2 IT ho2))
theorem lc_spanFrom {κ : xK} {D : va_G} {Y : Nat → ClassId} {A : Nat → Prop} {cells slots b L : Nat} {xs : Nat → Int32} {θ : xS} {ρ : xG} {ad : xL} {n i : Int} (C : XB κ D Y A cL_law RL 9 room_1) (hN : xGN κ.2.2.2.2.1) (S : xSc κ A b L xs) (hL : L ≤ 2048) (I : xI n θ) (hn : n < 512) (ho : oK Y ρ) (hi : 0 ≤ i ∧ i + 4 ≤ L) (hc : cells + 40 ≤ 603072) (hs : slots + 400 ≤ 7198826) (kk : ∀ (θ2 : xS) (ρ2 : xG) (ad2 : xL), xI (n + 1) θ2 → oK Y ρ2 → X κ D A 9 (cells + 40) (slots + 400) 2605 [some (.ref b), some (.ref (ad2 0 0)), some (.ref (ad2 20 0)), some (.ref (ad2 61 0)), some (.ref (ad2 62 0)), some (.int (iI i)), none, none, none] [] ad2 (jG Y θ2 θ2 ρ2 ad2)) : X κ D A 9 cells slots 959 [some (.ref b), some (.ref (ad 0 0)), some (.ref (ad 20 0)), some (.ref (ad 61 0)), some (.ref (ad 62 0)), some (.int (iI i)), none, none, none] [] ad (jG Y θ θ ρ ad) := by
  obtain ⟨z0, hz0, ez0⟩ : ∃ z : Int, rg z ∧ (xs (i + 1).toNat).toInt = z := ⟨_, rg_of _, rfl⟩
  refine X_aload_n C rfl dL_law_959 ?_
  refine X_aload_n C rfl dL_law_960 ?_
  refine X_iload C rfl dL_law_961 ?_
  refine X_iconst C dL_law_963 ?_
  refine X_iadd C dL_law_964 ?_
  refine X_sld C S (by omega) (by omega) (by omega) ez0 dL_law_965 ?_
  refine X_aload_n C rfl dL_law_966 ?_
  refine X_callSW C hN (w_spanFrom C.hlc I hz0 ho) cw_spanFrom (As := [.ref (ad 0 0), .int (iI z0), .ref (ad 61 0)]) rfl rfl rfl (xroom_of rfl rfl (show cells + 12 ≤ 603072 by omega) (show slots + 224 ≤ 7198826 by omega)) dL_law_967 (fun r ad2 g2 hp => ?_)
  obtain ⟨h1, hkp, ρ2, ho2, hV, h2⟩ := hp
  rw [h1, h2, ← hkp 0 0 (by omega), ← hkp 20 0 (by omega), ← hkp 61 0 (by omega), ← hkp 62 0 (by omega)]
  refine X_istore_6 C (by decide) rfl dL_law_970 ?_
  refine X_aload_n C rfl dL_law_972 ?_
  refine X_aload_n C rfl dL_law_973 ?_
  refine X_iload C rfl dL_law_974 ?_
  refine X_iconst C dL_law_976 ?_
  refine X_iadd C dL_law_977 ?_
  refine X_sld C S (by omega) (by omega) (by omega) ez0 dL_law_978 ?_
  refine X_callVg C (c_X9_spanFrom C.hlc I hz0) cv_L_188 jG_20 ⟨_, _, rfl⟩ (As := [.int (iI z0)]) rfl rfl rfl (xroom_of rfl rfl (show cells + 12 + 0 ≤ 603072 by omega) (show slots + 224 + 0 ≤ 7198826 by omega)) dL_law_979 (fun _ _ _ h => h.elim) (fun r3 ad3 g3 hp3 => ?_)
  obtain ⟨h3, h4, h5⟩ := hp3
  rw [h3, h4, h5]
  refine X_istore_7 C (by decide) rfl dL_law_982 ?_
  obtain ⟨T, IT, hT, hj⟩ := jBr_q (k := kAns θ z0) I hn
  rw [hj]
  refine X_aload_n C rfl dL_law_984 ?_
  refine X_callVg C (c_X9_thrown C.hlc) cv_L_149 jG_20 ⟨_, _, rfl⟩ (As := []) rfl rfl rfl (xroom_of rfl rfl (show cells + 12 + 0 + 0 ≤ 603072 by omega) (show slots + 224 + 0 + 0 ≤ 7198826 by omega)) dL_law_985 (fun _ _ _ h => h.elim) (fun r6 ad6 g6 hp6 => ?_)
  obtain ⟨h6, h7, h8⟩ := hp6
  rw [h6, h7, h8, hT]
  have hK : 0 ≤ kAns θ z0 ∧ kAns θ z0 ≤ 5 := by unfold kAns; (repeat' split) <;> omega
  have hKr : rg (kAns θ z0) := by constructor <;> omega
  refine X_iload C rfl dL_law_988 ?_
  refine X_icmp_eq (tgt := 995) C dL_law_990 rfl hKr hKr (fun _ => ?_) (fun h => absurd rfl h)
  refine X_iload C rfl dL_law_995 ?_
  refine X_if_ne (tgt := 1012) C dL_law_997 rfl hKr (fun _ => ?_) (fun hk0 => ?_)
  · refine X_goto (tgt := 2605) C dL_law_1012 rfl ?_
    exact X_fg9 (X.widen (show cells + 12 + 0 + 0 ≤ cells + 40 by omega) (show slots + 224 + 0 + 0 ≤ slots + 400 by omega) (kk T ρ2 ad2 IT ho2))
  · obtain ⟨f, hf, hx⟩ := hV hk0
    rw [mA_0 hk0]
    refine X_aload_n C rfl dL_law_1000 ?_
    refine X_iconst C dL_law_1001 ?_
    refine X_lald C ((jG_at (by decide)).trans hf) (by decide) (by decide) (by decide) hx dL_law_1002 ?_
    refine X_iload C rfl dL_law_1003 ?_
    refine X_i2lR C dL_law_1005 ?_
    refine X_lcmpR C dL_law_1006 ?_
    refine X_if_eq (tgt := 1012) C dL_law_1007 rfl rg0 (fun _ => ?_) (fun h => absurd rfl h)
    refine X_goto (tgt := 2605) C dL_law_1012 rfl ?_
    exact X_fg9 (X.widen (show cells + 12 + 0 + 0 ≤ cells + 40 by omega) (show slots + 224 + 0 + 0 ≤ slots + 400 by omega) (kk T ρ2 ad2 IT ho2))
theorem lc_spanTo {κ : xK} {D : va_G} {Y : Nat → ClassId} {A : Nat → Prop} {cells slots b L : Nat} {xs : Nat → Int32} {θ : xS} {ρ : xG} {ad : xL} {n i : Int} (C : XB κ D Y A cL_law RL 9 room_1) (hN : xGN κ.2.2.2.2.1) (S : xSc κ A b L xs) (hL : L ≤ 2048) (I : xI n θ) (hn : n < 512) (ho : oK Y ρ) (hi : 0 ≤ i ∧ i + 4 ≤ L) (hc : cells + 40 ≤ 603072) (hs : slots + 400 ≤ 7198826) (kk : ∀ (θ2 : xS) (ρ2 : xG) (ad2 : xL), xI (n + 1) θ2 → oK Y ρ2 → X κ D A 9 (cells + 40) (slots + 400) 2605 [some (.ref b), some (.ref (ad2 0 0)), some (.ref (ad2 20 0)), some (.ref (ad2 61 0)), some (.ref (ad2 62 0)), some (.int (iI i)), none, none, none] [] ad2 (jG Y θ2 θ2 ρ2 ad2)) : X κ D A 9 cells slots 1015 [some (.ref b), some (.ref (ad 0 0)), some (.ref (ad 20 0)), some (.ref (ad 61 0)), some (.ref (ad 62 0)), some (.int (iI i)), none, none, none] [] ad (jG Y θ θ ρ ad) := by
  obtain ⟨z0, hz0, ez0⟩ : ∃ z : Int, rg z ∧ (xs (i + 1).toNat).toInt = z := ⟨_, rg_of _, rfl⟩
  refine X_aload_n C rfl dL_law_1015 ?_
  refine X_aload_n C rfl dL_law_1016 ?_
  refine X_iload C rfl dL_law_1017 ?_
  refine X_iconst C dL_law_1019 ?_
  refine X_iadd C dL_law_1020 ?_
  refine X_sld C S (by omega) (by omega) (by omega) ez0 dL_law_1021 ?_
  refine X_aload_n C rfl dL_law_1022 ?_
  refine X_callSW C hN (w_spanTo C.hlc I hz0 ho) cw_spanTo (As := [.ref (ad 0 0), .int (iI z0), .ref (ad 61 0)]) rfl rfl rfl (xroom_of rfl rfl (show cells + 12 ≤ 603072 by omega) (show slots + 224 ≤ 7198826 by omega)) dL_law_1023 (fun r ad2 g2 hp => ?_)
  obtain ⟨h1, hkp, ρ2, ho2, hV, h2⟩ := hp
  rw [h1, h2, ← hkp 0 0 (by omega), ← hkp 20 0 (by omega), ← hkp 61 0 (by omega), ← hkp 62 0 (by omega)]
  refine X_istore_6 C (by decide) rfl dL_law_1026 ?_
  refine X_aload_n C rfl dL_law_1028 ?_
  refine X_aload_n C rfl dL_law_1029 ?_
  refine X_iload C rfl dL_law_1030 ?_
  refine X_iconst C dL_law_1032 ?_
  refine X_iadd C dL_law_1033 ?_
  refine X_sld C S (by omega) (by omega) (by omega) ez0 dL_law_1034 ?_
  refine X_callVg C (c_X9_spanTo C.hlc I hz0) cv_L_191 jG_20 ⟨_, _, rfl⟩ (As := [.int (iI z0)]) rfl rfl rfl (xroom_of rfl rfl (show cells + 12 + 0 ≤ 603072 by omega) (show slots + 224 + 0 ≤ 7198826 by omega)) dL_law_1035 (fun _ _ _ h => h.elim) (fun r3 ad3 g3 hp3 => ?_)
  obtain ⟨h3, h4, h5⟩ := hp3
  rw [h3, h4, h5]
  refine X_istore_7 C (by decide) rfl dL_law_1038 ?_
  obtain ⟨T, IT, hT, hj⟩ := jBr_q (k := kAns θ z0) I hn
  rw [hj]
  refine X_aload_n C rfl dL_law_1040 ?_
  refine X_callVg C (c_X9_thrown C.hlc) cv_L_149 jG_20 ⟨_, _, rfl⟩ (As := []) rfl rfl rfl (xroom_of rfl rfl (show cells + 12 + 0 + 0 ≤ 603072 by omega) (show slots + 224 + 0 + 0 ≤ 7198826 by omega)) dL_law_1041 (fun _ _ _ h => h.elim) (fun r6 ad6 g6 hp6 => ?_)
  obtain ⟨h6, h7, h8⟩ := hp6
  rw [h6, h7, h8, hT]
  have hK : 0 ≤ kAns θ z0 ∧ kAns θ z0 ≤ 5 := by unfold kAns; (repeat' split) <;> omega
  have hKr : rg (kAns θ z0) := by constructor <;> omega
  refine X_iload C rfl dL_law_1044 ?_
  refine X_icmp_eq (tgt := 1051) C dL_law_1046 rfl hKr hKr (fun _ => ?_) (fun h => absurd rfl h)
  refine X_iload C rfl dL_law_1051 ?_
  refine X_if_ne (tgt := 1068) C dL_law_1053 rfl hKr (fun _ => ?_) (fun hk0 => ?_)
  · refine X_goto (tgt := 2605) C dL_law_1068 rfl ?_
    exact X_fg9 (X.widen (show cells + 12 + 0 + 0 ≤ cells + 40 by omega) (show slots + 224 + 0 + 0 ≤ slots + 400 by omega) (kk T ρ2 ad2 IT ho2))
  · obtain ⟨f, hf, hx⟩ := hV hk0
    rw [mA_0 hk0]
    refine X_aload_n C rfl dL_law_1056 ?_
    refine X_iconst C dL_law_1057 ?_
    refine X_lald C ((jG_at (by decide)).trans hf) (by decide) (by decide) (by decide) hx dL_law_1058 ?_
    refine X_iload C rfl dL_law_1059 ?_
    refine X_i2lR C dL_law_1061 ?_
    refine X_lcmpR C dL_law_1062 ?_
    refine X_if_eq (tgt := 1068) C dL_law_1063 rfl rg0 (fun _ => ?_) (fun h => absurd rfl h)
    refine X_goto (tgt := 2605) C dL_law_1068 rfl ?_
    exact X_fg9 (X.widen (show cells + 12 + 0 + 0 ≤ cells + 40 by omega) (show slots + 224 + 0 + 0 ≤ slots + 400 by omega) (kk T ρ2 ad2 IT ho2))
theorem lc_sign {κ : xK} {D : va_G} {Y : Nat → ClassId} {A : Nat → Prop} {cells slots b L : Nat} {xs : Nat → Int32} {θ : xS} {ρ : xG} {ad : xL} {n i : Int} (C : XB κ D Y A cL_law RL 9 room_1) (hN : xGN κ.2.2.2.2.1) (S : xSc κ A b L xs) (hL : L ≤ 2048) (I : xI n θ) (hn : n < 512) (ho : oK Y ρ) (hi : 0 ≤ i ∧ i + 4 ≤ L) (hc : cells + 40 ≤ 603072) (hs : slots + 400 ≤ 7198826) (kk : ∀ (θ2 : xS) (ρ2 : xG) (ad2 : xL), xI (n + 1) θ2 → oK Y ρ2 → X κ D A 9 (cells + 40) (slots + 400) 2605 [some (.ref b), some (.ref (ad2 0 0)), some (.ref (ad2 20 0)), some (.ref (ad2 61 0)), some (.ref (ad2 62 0)), some (.int (iI i)), none, none, none] [] ad2 (jG Y θ2 θ2 ρ2 ad2)) : X κ D A 9 cells slots 1071 [some (.ref b), some (.ref (ad 0 0)), some (.ref (ad 20 0)), some (.ref (ad 61 0)), some (.ref (ad 62 0)), some (.int (iI i)), none, none, none] [] ad (jG Y θ θ ρ ad) := by
  obtain ⟨z0, hz0, ez0⟩ : ∃ z : Int, rg z ∧ (xs (i + 1).toNat).toInt = z := ⟨_, rg_of _, rfl⟩
  refine X_aload_n C rfl dL_law_1071 ?_
  refine X_aload_n C rfl dL_law_1072 ?_
  refine X_iload C rfl dL_law_1073 ?_
  refine X_iconst C dL_law_1075 ?_
  refine X_iadd C dL_law_1076 ?_
  refine X_sld C S (by omega) (by omega) (by omega) ez0 dL_law_1077 ?_
  refine X_aload_n C rfl dL_law_1078 ?_
  refine X_callSW C hN (w_sign C.hlc I hz0 hn ho) cw_sign (As := [.ref (ad 0 0), .int (iI z0), .ref (ad 61 0)]) rfl rfl rfl (xroom_of rfl rfl (show cells + 12 ≤ 603072 by omega) (show slots + 224 ≤ 7198826 by omega)) dL_law_1079 (fun r ad2 g2 hp => ?_)
  obtain ⟨h1, hkp, ρ2, ho2, hV, h2⟩ := hp
  rw [h1, h2, ← hkp 0 0 (by omega), ← hkp 20 0 (by omega), ← hkp 61 0 (by omega), ← hkp 62 0 (by omega)]
  refine X_istore_6 C (by decide) rfl dL_law_1082 ?_
  refine X_aload_n C rfl dL_law_1084 ?_
  refine X_aload_n C rfl dL_law_1085 ?_
  refine X_iload C rfl dL_law_1086 ?_
  refine X_iconst C dL_law_1088 ?_
  refine X_iadd C dL_law_1089 ?_
  refine X_sld C S (by omega) (by omega) (by omega) ez0 dL_law_1090 ?_
  refine X_callVg C (c_X9_sign C.hlc I hz0) cv_L_194 jG_20 ⟨_, _, rfl⟩ (As := [.int (iI z0)]) rfl rfl rfl (xroom_of rfl rfl (show cells + 12 + 0 ≤ 603072 by omega) (show slots + 224 + 0 ≤ 7198826 by omega)) dL_law_1091 (fun _ _ _ h => h.elim) (fun r3 ad3 g3 hp3 => ?_)
  obtain ⟨h3, h4, h5⟩ := hp3
  rw [h3, h4, h5]
  refine X_istore_7 C (by decide) rfl dL_law_1094 ?_
  obtain ⟨T, IT, hT, hj⟩ := b_sig (z := z0) I hn
  rw [hj]
  refine X_aload_n C rfl dL_law_1096 ?_
  refine X_callVg C (c_X9_thrown C.hlc) cv_L_149 jG_20 ⟨_, _, rfl⟩ (As := []) rfl rfl rfl (xroom_of rfl rfl (show cells + 12 + 0 + 0 ≤ 603072 by omega) (show slots + 224 + 0 + 0 ≤ 7198826 by omega)) dL_law_1097 (fun _ _ _ h => h.elim) (fun r6 ad6 g6 hp6 => ?_)
  obtain ⟨h6, h7, h8⟩ := hp6
  rw [h6, h7, h8, hT]
  have hK : 0 ≤ kSig θ z0 ∧ kSig θ z0 ≤ 5 := by unfold kSig; (repeat' split) <;> omega
  have hKr : rg (kSig θ z0) := by constructor <;> omega
  refine X_iload C rfl dL_law_1100 ?_
  refine X_icmp_eq (tgt := 1107) C dL_law_1102 rfl hKr hKr (fun _ => ?_) (fun h => absurd rfl h)
  refine X_iload C rfl dL_law_1107 ?_
  refine X_if_ne (tgt := 1124) C dL_law_1109 rfl hKr (fun _ => ?_) (fun hk0 => ?_)
  · refine X_goto (tgt := 2605) C dL_law_1124 rfl ?_
    exact X_fg9 (X.widen (show cells + 12 + 0 + 0 ≤ cells + 40 by omega) (show slots + 224 + 0 + 0 ≤ slots + 400 by omega) (kk T ρ2 ad2 IT ho2))
  · obtain ⟨f, hf, hx⟩ := hV hk0
    rw [mA_0 hk0]
    refine X_aload_n C rfl dL_law_1112 ?_
    refine X_iconst C dL_law_1113 ?_
    refine X_lald C ((jG_at (by decide)).trans hf) (by decide) (by decide) (by decide) hx dL_law_1114 ?_
    refine X_iload C rfl dL_law_1115 ?_
    refine X_i2lR C dL_law_1117 ?_
    refine X_lcmpR C dL_law_1118 ?_
    refine X_if_eq (tgt := 1124) C dL_law_1119 rfl rg0 (fun _ => ?_) (fun h => absurd rfl h)
    refine X_goto (tgt := 2605) C dL_law_1124 rfl ?_
    exact X_fg9 (X.widen (show cells + 12 + 0 + 0 ≤ cells + 40 by omega) (show slots + 224 + 0 + 0 ≤ slots + 400 by omega) (kk T ρ2 ad2 IT ho2))
theorem lc_signed {κ : xK} {D : va_G} {Y : Nat → ClassId} {A : Nat → Prop} {cells slots b L : Nat} {xs : Nat → Int32} {θ : xS} {ρ : xG} {ad : xL} {n i : Int} (C : XB κ D Y A cL_law RL 9 room_1) (hN : xGN κ.2.2.2.2.1) (S : xSc κ A b L xs) (hL : L ≤ 2048) (I : xI n θ) (hn : n < 512) (ho : oK Y ρ) (hi : 0 ≤ i ∧ i + 4 ≤ L) (hc : cells + 40 ≤ 603072) (hs : slots + 400 ≤ 7198826) (kk : ∀ (θ2 : xS) (ρ2 : xG) (ad2 : xL), xI (n + 1) θ2 → oK Y ρ2 → X κ D A 9 (cells + 40) (slots + 400) 2605 [some (.ref b), some (.ref (ad2 0 0)), some (.ref (ad2 20 0)), some (.ref (ad2 61 0)), some (.ref (ad2 62 0)), some (.int (iI i)), none, none, none] [] ad2 (jG Y θ2 θ2 ρ2 ad2)) : X κ D A 9 cells slots 1127 [some (.ref b), some (.ref (ad 0 0)), some (.ref (ad 20 0)), some (.ref (ad 61 0)), some (.ref (ad 62 0)), some (.int (iI i)), none, none, none] [] ad (jG Y θ θ ρ ad) := by
  obtain ⟨z0, hz0, ez0⟩ : ∃ z : Int, rg z ∧ (xs (i + 1).toNat).toInt = z := ⟨_, rg_of _, rfl⟩
  refine X_aload_n C rfl dL_law_1127 ?_
  refine X_aload_n C rfl dL_law_1128 ?_
  refine X_iload C rfl dL_law_1129 ?_
  refine X_iconst C dL_law_1131 ?_
  refine X_iadd C dL_law_1132 ?_
  refine X_sld C S (by omega) (by omega) (by omega) ez0 dL_law_1133 ?_
  refine X_aload_n C rfl dL_law_1134 ?_
  refine X_callSW C hN (w_signed C.hlc I hz0 ho) cw_signed (As := [.ref (ad 0 0), .int (iI z0), .ref (ad 61 0)]) rfl rfl rfl (xroom_of rfl rfl (show cells + 12 ≤ 603072 by omega) (show slots + 224 ≤ 7198826 by omega)) dL_law_1135 (fun r ad2 g2 hp => ?_)
  obtain ⟨h1, hkp, ρ2, ho2, hV, h2⟩ := hp
  rw [h1, h2, ← hkp 0 0 (by omega), ← hkp 20 0 (by omega), ← hkp 61 0 (by omega), ← hkp 62 0 (by omega)]
  refine X_istore_6 C (by decide) rfl dL_law_1138 ?_
  refine X_aload_n C rfl dL_law_1140 ?_
  refine X_aload_n C rfl dL_law_1141 ?_
  refine X_iload C rfl dL_law_1142 ?_
  refine X_iconst C dL_law_1144 ?_
  refine X_iadd C dL_law_1145 ?_
  refine X_sld C S (by omega) (by omega) (by omega) ez0 dL_law_1146 ?_
  refine X_callVg C (c_X9_signed C.hlc I hz0) cv_L_197 jG_20 ⟨_, _, rfl⟩ (As := [.int (iI z0)]) rfl rfl rfl (xroom_of rfl rfl (show cells + 12 + 0 ≤ 603072 by omega) (show slots + 224 + 0 ≤ 7198826 by omega)) dL_law_1147 (fun _ _ _ h => h.elim) (fun r3 ad3 g3 hp3 => ?_)
  obtain ⟨h3, h4, h5⟩ := hp3
  rw [h3, h4, h5]
  refine X_istore_7 C (by decide) rfl dL_law_1150 ?_
  obtain ⟨T, IT, hT, hj⟩ := jBr_q (k := kPrf θ z0) I hn
  rw [hj]
  refine X_aload_n C rfl dL_law_1152 ?_
  refine X_callVg C (c_X9_thrown C.hlc) cv_L_149 jG_20 ⟨_, _, rfl⟩ (As := []) rfl rfl rfl (xroom_of rfl rfl (show cells + 12 + 0 + 0 ≤ 603072 by omega) (show slots + 224 + 0 + 0 ≤ 7198826 by omega)) dL_law_1153 (fun _ _ _ h => h.elim) (fun r6 ad6 g6 hp6 => ?_)
  obtain ⟨h6, h7, h8⟩ := hp6
  rw [h6, h7, h8, hT]
  have hK : 0 ≤ kPrf θ z0 ∧ kPrf θ z0 ≤ 5 := by unfold kPrf; (repeat' split) <;> omega
  have hKr : rg (kPrf θ z0) := by constructor <;> omega
  refine X_iload C rfl dL_law_1156 ?_
  refine X_icmp_eq (tgt := 1163) C dL_law_1158 rfl hKr hKr (fun _ => ?_) (fun h => absurd rfl h)
  refine X_iload C rfl dL_law_1163 ?_
  refine X_if_ne (tgt := 1180) C dL_law_1165 rfl hKr (fun _ => ?_) (fun hk0 => ?_)
  · refine X_goto (tgt := 2605) C dL_law_1180 rfl ?_
    exact X_fg9 (X.widen (show cells + 12 + 0 + 0 ≤ cells + 40 by omega) (show slots + 224 + 0 + 0 ≤ slots + 400 by omega) (kk T ρ2 ad2 IT ho2))
  · obtain ⟨f, hf, hx⟩ := hV hk0
    rw [mA_0 hk0]
    refine X_aload_n C rfl dL_law_1168 ?_
    refine X_iconst C dL_law_1169 ?_
    refine X_lald C ((jG_at (by decide)).trans hf) (by decide) (by decide) (by decide) hx dL_law_1170 ?_
    refine X_iload C rfl dL_law_1171 ?_
    refine X_i2lR C dL_law_1173 ?_
    refine X_lcmpR C dL_law_1174 ?_
    refine X_if_eq (tgt := 1180) C dL_law_1175 rfl rg0 (fun _ => ?_) (fun h => absurd rfl h)
    refine X_goto (tgt := 2605) C dL_law_1180 rfl ?_
    exact X_fg9 (X.widen (show cells + 12 + 0 + 0 ≤ cells + 40 by omega) (show slots + 224 + 0 + 0 ≤ slots + 400 by omega) (kk T ρ2 ad2 IT ho2))
theorem lc_sheets {κ : xK} {D : va_G} {Y : Nat → ClassId} {A : Nat → Prop} {cells slots b L : Nat} {xs : Nat → Int32} {θ : xS} {ρ : xG} {ad : xL} {n i : Int} (C : XB κ D Y A cL_law RL 9 room_1) (hN : xGN κ.2.2.2.2.1) (S : xSc κ A b L xs) (hL : L ≤ 2048) (I : xI n θ) (hn : n < 512) (ho : oK Y ρ) (hi : 0 ≤ i ∧ i + 4 ≤ L) (hc : cells + 40 ≤ 603072) (hs : slots + 400 ≤ 7198826) (kk : ∀ (θ2 : xS) (ρ2 : xG) (ad2 : xL), xI (n + 1) θ2 → oK Y ρ2 → X κ D A 9 (cells + 40) (slots + 400) 2605 [some (.ref b), some (.ref (ad2 0 0)), some (.ref (ad2 20 0)), some (.ref (ad2 61 0)), some (.ref (ad2 62 0)), some (.int (iI i)), none, none, none] [] ad2 (jG Y θ2 θ2 ρ2 ad2)) : X κ D A 9 cells slots 1183 [some (.ref b), some (.ref (ad 0 0)), some (.ref (ad 20 0)), some (.ref (ad 61 0)), some (.ref (ad 62 0)), some (.int (iI i)), none, none, none] [] ad (jG Y θ θ ρ ad) := by
  obtain ⟨z0, hz0, ez0⟩ : ∃ z : Int, rg z ∧ (xs (i + 1).toNat).toInt = z := ⟨_, rg_of _, rfl⟩
  refine X_aload_n C rfl dL_law_1183 ?_
  refine X_aload_n C rfl dL_law_1184 ?_
  refine X_iload C rfl dL_law_1185 ?_
  refine X_iconst C dL_law_1187 ?_
  refine X_iadd C dL_law_1188 ?_
  refine X_sld C S (by omega) (by omega) (by omega) ez0 dL_law_1189 ?_
  refine X_aload_n C rfl dL_law_1190 ?_
  refine X_callSW C hN (w_sheets C.hlc I hz0 ho) cw_sheets (As := [.ref (ad 0 0), .int (iI z0), .ref (ad 61 0)]) rfl rfl rfl (xroom_of rfl rfl (show cells + 12 ≤ 603072 by omega) (show slots + 224 ≤ 7198826 by omega)) dL_law_1191 (fun r ad2 g2 hp => ?_)
  obtain ⟨h1, hkp, ρ2, ho2, hV, h2⟩ := hp
  rw [h1, h2, ← hkp 0 0 (by omega), ← hkp 20 0 (by omega), ← hkp 61 0 (by omega), ← hkp 62 0 (by omega)]
  refine X_istore_6 C (by decide) rfl dL_law_1194 ?_
  refine X_aload_n C rfl dL_law_1196 ?_
  refine X_aload_n C rfl dL_law_1197 ?_
  refine X_iload C rfl dL_law_1198 ?_
  refine X_iconst C dL_law_1200 ?_
  refine X_iadd C dL_law_1201 ?_
  refine X_sld C S (by omega) (by omega) (by omega) ez0 dL_law_1202 ?_
  refine X_callVg C (c_X9_sheets C.hlc I hz0) cv_L_200 jG_20 ⟨_, _, rfl⟩ (As := [.int (iI z0)]) rfl rfl rfl (xroom_of rfl rfl (show cells + 12 + 0 ≤ 603072 by omega) (show slots + 224 + 0 ≤ 7198826 by omega)) dL_law_1203 (fun _ _ _ h => h.elim) (fun r3 ad3 g3 hp3 => ?_)
  obtain ⟨h3, h4, h5⟩ := hp3
  rw [h3, h4, h5]
  refine X_istore_7 C (by decide) rfl dL_law_1206 ?_
  obtain ⟨T, IT, hT, hj⟩ := jBr_q (k := kPrf θ z0) I hn
  rw [hj]
  refine X_aload_n C rfl dL_law_1208 ?_
  refine X_callVg C (c_X9_thrown C.hlc) cv_L_149 jG_20 ⟨_, _, rfl⟩ (As := []) rfl rfl rfl (xroom_of rfl rfl (show cells + 12 + 0 + 0 ≤ 603072 by omega) (show slots + 224 + 0 + 0 ≤ 7198826 by omega)) dL_law_1209 (fun _ _ _ h => h.elim) (fun r6 ad6 g6 hp6 => ?_)
  obtain ⟨h6, h7, h8⟩ := hp6
  rw [h6, h7, h8, hT]
  have hK : 0 ≤ kPrf θ z0 ∧ kPrf θ z0 ≤ 5 := by unfold kPrf; (repeat' split) <;> omega
  have hKr : rg (kPrf θ z0) := by constructor <;> omega
  refine X_iload C rfl dL_law_1212 ?_
  refine X_icmp_eq (tgt := 1219) C dL_law_1214 rfl hKr hKr (fun _ => ?_) (fun h => absurd rfl h)
  refine X_iload C rfl dL_law_1219 ?_
  refine X_if_ne (tgt := 1236) C dL_law_1221 rfl hKr (fun _ => ?_) (fun hk0 => ?_)
  · refine X_goto (tgt := 2605) C dL_law_1236 rfl ?_
    exact X_fg9 (X.widen (show cells + 12 + 0 + 0 ≤ cells + 40 by omega) (show slots + 224 + 0 + 0 ≤ slots + 400 by omega) (kk T ρ2 ad2 IT ho2))
  · obtain ⟨f, hf, hx⟩ := hV hk0
    rw [mA_0 hk0]
    refine X_aload_n C rfl dL_law_1224 ?_
    refine X_iconst C dL_law_1225 ?_
    refine X_lald C ((jG_at (by decide)).trans hf) (by decide) (by decide) (by decide) hx dL_law_1226 ?_
    refine X_iload C rfl dL_law_1227 ?_
    refine X_i2lR C dL_law_1229 ?_
    refine X_lcmpR C dL_law_1230 ?_
    refine X_if_eq (tgt := 1236) C dL_law_1231 rfl rg0 (fun _ => ?_) (fun h => absurd rfl h)
    refine X_goto (tgt := 2605) C dL_law_1236 rfl ?_
    exact X_fg9 (X.widen (show cells + 12 + 0 + 0 ≤ cells + 40 by omega) (show slots + 224 + 0 + 0 ≤ slots + 400 by omega) (kk T ρ2 ad2 IT ho2))
theorem lc_pageOn {κ : xK} {D : va_G} {Y : Nat → ClassId} {A : Nat → Prop} {cells slots b L : Nat} {xs : Nat → Int32} {θ : xS} {ρ : xG} {ad : xL} {n i : Int} (C : XB κ D Y A cL_law RL 9 room_1) (hN : xGN κ.2.2.2.2.1) (S : xSc κ A b L xs) (hL : L ≤ 2048) (I : xI n θ) (hn : n < 512) (ho : oK Y ρ) (hi : 0 ≤ i ∧ i + 4 ≤ L) (hc : cells + 40 ≤ 603072) (hs : slots + 400 ≤ 7198826) (kk : ∀ (θ2 : xS) (ρ2 : xG) (ad2 : xL), xI (n + 1) θ2 → oK Y ρ2 → X κ D A 9 (cells + 40) (slots + 400) 2605 [some (.ref b), some (.ref (ad2 0 0)), some (.ref (ad2 20 0)), some (.ref (ad2 61 0)), some (.ref (ad2 62 0)), some (.int (iI i)), none, none, none] [] ad2 (jG Y θ2 θ2 ρ2 ad2)) : X κ D A 9 cells slots 1239 [some (.ref b), some (.ref (ad 0 0)), some (.ref (ad 20 0)), some (.ref (ad 61 0)), some (.ref (ad 62 0)), some (.int (iI i)), none, none, none] [] ad (jG Y θ θ ρ ad) := by
  obtain ⟨z0, hz0, ez0⟩ : ∃ z : Int, rg z ∧ (xs (i + 1).toNat).toInt = z := ⟨_, rg_of _, rfl⟩
  obtain ⟨z1, hz1, ez1⟩ : ∃ z : Int, rg z ∧ (xs (i + 2).toNat).toInt = z := ⟨_, rg_of _, rfl⟩
  obtain ⟨z2, hz2, ez2⟩ : ∃ z : Int, rg z ∧ (xs (i + 3).toNat).toInt = z := ⟨_, rg_of _, rfl⟩
  refine X_aload_n C rfl dL_law_1239 ?_
  refine X_aload_n C rfl dL_law_1240 ?_
  refine X_iload C rfl dL_law_1241 ?_
  refine X_iconst C dL_law_1243 ?_
  refine X_iadd C dL_law_1244 ?_
  refine X_sld C S (by omega) (by omega) (by omega) ez0 dL_law_1245 ?_
  refine X_aload_n C rfl dL_law_1246 ?_
  refine X_iload C rfl dL_law_1247 ?_
  refine X_iconst C dL_law_1249 ?_
  refine X_iadd C dL_law_1250 ?_
  refine X_sld C S (by omega) (by omega) (by omega) ez1 dL_law_1251 ?_
  refine X_aload_n C rfl dL_law_1252 ?_
  refine X_iload C rfl dL_law_1253 ?_
  refine X_iconst C dL_law_1255 ?_
  refine X_iadd C dL_law_1256 ?_
  refine X_sld C S (by omega) (by omega) (by omega) ez2 dL_law_1257 ?_
  refine X_aload_n C rfl dL_law_1258 ?_
  refine X_callSW C hN (w_pageOn C.hlc I hz0 hz1 hz2 ho) cw_pageOn (As := [.ref (ad 0 0), .int (iI z0), .int (iI z1), .int (iI z2), .ref (ad 61 0)]) rfl rfl rfl (xroom_of rfl rfl (show cells + 12 ≤ 603072 by omega) (show slots + 224 ≤ 7198826 by omega)) dL_law_1259 (fun r ad2 g2 hp => ?_)
  obtain ⟨h1, hkp, ρ2, ho2, hV, h2⟩ := hp
  rw [h1, h2, ← hkp 0 0 (by omega), ← hkp 20 0 (by omega), ← hkp 61 0 (by omega), ← hkp 62 0 (by omega)]
  refine X_istore_6 C (by decide) rfl dL_law_1262 ?_
  refine X_aload_n C rfl dL_law_1264 ?_
  refine X_aload_n C rfl dL_law_1265 ?_
  refine X_iload C rfl dL_law_1266 ?_
  refine X_iconst C dL_law_1268 ?_
  refine X_iadd C dL_law_1269 ?_
  refine X_sld C S (by omega) (by omega) (by omega) ez0 dL_law_1270 ?_
  refine X_aload_n C rfl dL_law_1271 ?_
  refine X_iload C rfl dL_law_1272 ?_
  refine X_iconst C dL_law_1274 ?_
  refine X_iadd C dL_law_1275 ?_
  refine X_sld C S (by omega) (by omega) (by omega) ez1 dL_law_1276 ?_
  refine X_aload_n C rfl dL_law_1277 ?_
  refine X_iload C rfl dL_law_1278 ?_
  refine X_iconst C dL_law_1280 ?_
  refine X_iadd C dL_law_1281 ?_
  refine X_sld C S (by omega) (by omega) (by omega) ez2 dL_law_1282 ?_
  refine X_callVg C (c_X9_pageOn C.hlc I hz0 hz1 hz2) cv_L_203 jG_20 ⟨_, _, rfl⟩ (As := [.int (iI z0), .int (iI z1), .int (iI z2)]) rfl rfl rfl (xroom_of rfl rfl (show cells + 12 + 0 ≤ 603072 by omega) (show slots + 224 + 0 ≤ 7198826 by omega)) dL_law_1283 (fun _ _ _ h => h.elim) (fun r3 ad3 g3 hp3 => ?_)
  obtain ⟨h3, h4, h5⟩ := hp3
  rw [h3, h4, h5]
  refine X_istore_7 C (by decide) rfl dL_law_1286 ?_
  obtain ⟨T, IT, hT, hj⟩ := jBr_q (k := kPag θ z0 z1 z2 4) I hn
  rw [hj]
  refine X_aload_n C rfl dL_law_1288 ?_
  refine X_callVg C (c_X9_thrown C.hlc) cv_L_149 jG_20 ⟨_, _, rfl⟩ (As := []) rfl rfl rfl (xroom_of rfl rfl (show cells + 12 + 0 + 0 ≤ 603072 by omega) (show slots + 224 + 0 + 0 ≤ 7198826 by omega)) dL_law_1289 (fun _ _ _ h => h.elim) (fun r6 ad6 g6 hp6 => ?_)
  obtain ⟨h6, h7, h8⟩ := hp6
  rw [h6, h7, h8, hT]
  have hK : 0 ≤ kPag θ z0 z1 z2 4 ∧ kPag θ z0 z1 z2 4 ≤ 5 := by unfold kPag; (repeat' split) <;> omega
  have hKr : rg (kPag θ z0 z1 z2 4) := by constructor <;> omega
  refine X_iload C rfl dL_law_1292 ?_
  refine X_icmp_eq (tgt := 1299) C dL_law_1294 rfl hKr hKr (fun _ => ?_) (fun h => absurd rfl h)
  refine X_iload C rfl dL_law_1299 ?_
  refine X_if_ne (tgt := 1316) C dL_law_1301 rfl hKr (fun _ => ?_) (fun hk0 => ?_)
  · refine X_goto (tgt := 2605) C dL_law_1316 rfl ?_
    exact X_fg9 (X.widen (show cells + 12 + 0 + 0 ≤ cells + 40 by omega) (show slots + 224 + 0 + 0 ≤ slots + 400 by omega) (kk T ρ2 ad2 IT ho2))
  · obtain ⟨f, hf, hx⟩ := hV hk0
    rw [mA_0 hk0]
    refine X_aload_n C rfl dL_law_1304 ?_
    refine X_iconst C dL_law_1305 ?_
    refine X_lald C ((jG_at (by decide)).trans hf) (by decide) (by decide) (by decide) hx dL_law_1306 ?_
    refine X_iload C rfl dL_law_1307 ?_
    refine X_i2lR C dL_law_1309 ?_
    refine X_lcmpR C dL_law_1310 ?_
    refine X_if_eq (tgt := 1316) C dL_law_1311 rfl rg0 (fun _ => ?_) (fun h => absurd rfl h)
    refine X_goto (tgt := 2605) C dL_law_1316 rfl ?_
    exact X_fg9 (X.widen (show cells + 12 + 0 + 0 ≤ cells + 40 by omega) (show slots + 224 + 0 + 0 ≤ slots + 400 by omega) (kk T ρ2 ad2 IT ho2))
theorem lc_shown {κ : xK} {D : va_G} {Y : Nat → ClassId} {A : Nat → Prop} {cells slots b L : Nat} {xs : Nat → Int32} {θ : xS} {ρ : xG} {ad : xL} {n i : Int} (C : XB κ D Y A cL_law RL 9 room_1) (hN : xGN κ.2.2.2.2.1) (S : xSc κ A b L xs) (hL : L ≤ 2048) (I : xI n θ) (hn : n < 512) (ho : oK Y ρ) (hi : 0 ≤ i ∧ i + 4 ≤ L) (hc : cells + 40 ≤ 603072) (hs : slots + 400 ≤ 7198826) (kk : ∀ (θ2 : xS) (ρ2 : xG) (ad2 : xL), xI (n + 1) θ2 → oK Y ρ2 → X κ D A 9 (cells + 40) (slots + 400) 2605 [some (.ref b), some (.ref (ad2 0 0)), some (.ref (ad2 20 0)), some (.ref (ad2 61 0)), some (.ref (ad2 62 0)), some (.int (iI i)), none, none, none] [] ad2 (jG Y θ2 θ2 ρ2 ad2)) : X κ D A 9 cells slots 1319 [some (.ref b), some (.ref (ad 0 0)), some (.ref (ad 20 0)), some (.ref (ad 61 0)), some (.ref (ad 62 0)), some (.int (iI i)), none, none, none] [] ad (jG Y θ θ ρ ad) := by
  obtain ⟨z0, hz0, ez0⟩ : ∃ z : Int, rg z ∧ (xs (i + 1).toNat).toInt = z := ⟨_, rg_of _, rfl⟩
  obtain ⟨z1, hz1, ez1⟩ : ∃ z : Int, rg z ∧ (xs (i + 2).toNat).toInt = z := ⟨_, rg_of _, rfl⟩
  obtain ⟨z2, hz2, ez2⟩ : ∃ z : Int, rg z ∧ (xs (i + 3).toNat).toInt = z := ⟨_, rg_of _, rfl⟩
  refine X_aload_n C rfl dL_law_1319 ?_
  refine X_aload_n C rfl dL_law_1320 ?_
  refine X_iload C rfl dL_law_1321 ?_
  refine X_iconst C dL_law_1323 ?_
  refine X_iadd C dL_law_1324 ?_
  refine X_sld C S (by omega) (by omega) (by omega) ez0 dL_law_1325 ?_
  refine X_aload_n C rfl dL_law_1326 ?_
  refine X_iload C rfl dL_law_1327 ?_
  refine X_iconst C dL_law_1329 ?_
  refine X_iadd C dL_law_1330 ?_
  refine X_sld C S (by omega) (by omega) (by omega) ez1 dL_law_1331 ?_
  refine X_aload_n C rfl dL_law_1332 ?_
  refine X_iload C rfl dL_law_1333 ?_
  refine X_iconst C dL_law_1335 ?_
  refine X_iadd C dL_law_1336 ?_
  refine X_sld C S (by omega) (by omega) (by omega) ez2 dL_law_1337 ?_
  refine X_aload_n C rfl dL_law_1338 ?_
  refine X_callSW C hN (w_shown C.hlc I hz0 hz1 hz2 ho) cw_shown (As := [.ref (ad 0 0), .int (iI z0), .int (iI z1), .int (iI z2), .ref (ad 61 0)]) rfl rfl rfl (xroom_of rfl rfl (show cells + 12 ≤ 603072 by omega) (show slots + 224 ≤ 7198826 by omega)) dL_law_1339 (fun r ad2 g2 hp => ?_)
  obtain ⟨h1, hkp, ρ2, ho2, hV, h2⟩ := hp
  rw [h1, h2, ← hkp 0 0 (by omega), ← hkp 20 0 (by omega), ← hkp 61 0 (by omega), ← hkp 62 0 (by omega)]
  refine X_istore_6 C (by decide) rfl dL_law_1342 ?_
  refine X_aload_n C rfl dL_law_1344 ?_
  refine X_aload_n C rfl dL_law_1345 ?_
  refine X_iload C rfl dL_law_1346 ?_
  refine X_iconst C dL_law_1348 ?_
  refine X_iadd C dL_law_1349 ?_
  refine X_sld C S (by omega) (by omega) (by omega) ez0 dL_law_1350 ?_
  refine X_aload_n C rfl dL_law_1351 ?_
  refine X_iload C rfl dL_law_1352 ?_
  refine X_iconst C dL_law_1354 ?_
  refine X_iadd C dL_law_1355 ?_
  refine X_sld C S (by omega) (by omega) (by omega) ez1 dL_law_1356 ?_
  refine X_aload_n C rfl dL_law_1357 ?_
  refine X_iload C rfl dL_law_1358 ?_
  refine X_iconst C dL_law_1360 ?_
  refine X_iadd C dL_law_1361 ?_
  refine X_sld C S (by omega) (by omega) (by omega) ez2 dL_law_1362 ?_
  refine X_callVg C (c_X9_shown C.hlc I hz0 hz1 hz2) cv_L_206 jG_20 ⟨_, _, rfl⟩ (As := [.int (iI z0), .int (iI z1), .int (iI z2)]) rfl rfl rfl (xroom_of rfl rfl (show cells + 12 + 0 ≤ 603072 by omega) (show slots + 224 + 0 ≤ 7198826 by omega)) dL_law_1363 (fun _ _ _ h => h.elim) (fun r3 ad3 g3 hp3 => ?_)
  obtain ⟨h3, h4, h5⟩ := hp3
  rw [h3, h4, h5]
  refine X_istore_7 C (by decide) rfl dL_law_1366 ?_
  obtain ⟨T, IT, hT, hj⟩ := jBr_q (k := kPag θ z0 z1 z2 32) I hn
  rw [hj]
  refine X_aload_n C rfl dL_law_1368 ?_
  refine X_callVg C (c_X9_thrown C.hlc) cv_L_149 jG_20 ⟨_, _, rfl⟩ (As := []) rfl rfl rfl (xroom_of rfl rfl (show cells + 12 + 0 + 0 ≤ 603072 by omega) (show slots + 224 + 0 + 0 ≤ 7198826 by omega)) dL_law_1369 (fun _ _ _ h => h.elim) (fun r6 ad6 g6 hp6 => ?_)
  obtain ⟨h6, h7, h8⟩ := hp6
  rw [h6, h7, h8, hT]
  have hK : 0 ≤ kPag θ z0 z1 z2 32 ∧ kPag θ z0 z1 z2 32 ≤ 5 := by unfold kPag; (repeat' split) <;> omega
  have hKr : rg (kPag θ z0 z1 z2 32) := by constructor <;> omega
  refine X_iload C rfl dL_law_1372 ?_
  refine X_icmp_eq (tgt := 1379) C dL_law_1374 rfl hKr hKr (fun _ => ?_) (fun h => absurd rfl h)
  refine X_iload C rfl dL_law_1379 ?_
  refine X_if_ne (tgt := 1396) C dL_law_1381 rfl hKr (fun _ => ?_) (fun hk0 => ?_)
  · refine X_goto (tgt := 2605) C dL_law_1396 rfl ?_
    exact X_fg9 (X.widen (show cells + 12 + 0 + 0 ≤ cells + 40 by omega) (show slots + 224 + 0 + 0 ≤ slots + 400 by omega) (kk T ρ2 ad2 IT ho2))
  · obtain ⟨f, hf, hx⟩ := hV hk0
    rw [mA_0 hk0]
    refine X_aload_n C rfl dL_law_1384 ?_
    refine X_iconst C dL_law_1385 ?_
    refine X_lald C ((jG_at (by decide)).trans hf) (by decide) (by decide) (by decide) hx dL_law_1386 ?_
    refine X_iload C rfl dL_law_1387 ?_
    refine X_i2lR C dL_law_1389 ?_
    refine X_lcmpR C dL_law_1390 ?_
    refine X_if_eq (tgt := 1396) C dL_law_1391 rfl rg0 (fun _ => ?_) (fun h => absurd rfl h)
    refine X_goto (tgt := 2605) C dL_law_1396 rfl ?_
    exact X_fg9 (X.widen (show cells + 12 + 0 + 0 ≤ cells + 40 by omega) (show slots + 224 + 0 + 0 ≤ slots + 400 by omega) (kk T ρ2 ad2 IT ho2))
