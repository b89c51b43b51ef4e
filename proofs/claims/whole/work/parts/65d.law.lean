/-! the calls of the law, 4 -/
theorem lc_lateBy {κ : xK} {D : va_G} {Y : Nat → ClassId} {A : Nat → Prop} {cells slots b L : Nat} {xs : Nat → Int32} {θ : xS} {ρ : xG} {ad : xL} {n i : Int} (C : XB κ D Y A cL_law RL 9 room_1) (hN : xGN κ.2.2.2.2.1) (S : xSc κ A b L xs) (hL : L ≤ 2048) (I : xI n θ) (hn : n < 512) (ho : oK Y ρ) (hi : 0 ≤ i ∧ i + 4 ≤ L) (hc : cells + 40 ≤ 603072) (hs : slots + 400 ≤ 7198826) (kk : ∀ (θ2 : xS) (ρ2 : xG) (ad2 : xL), xI (n + 1) θ2 → oK Y ρ2 → X κ D A 9 (cells + 40) (slots + 400) 2605 [some (.ref b), some (.ref (ad2 0 0)), some (.ref (ad2 20 0)), some (.ref (ad2 61 0)), some (.ref (ad2 62 0)), some (.int (iI i)), none, none, none] [] ad2 (jG Y θ2 θ2 ρ2 ad2)) : X κ D A 9 cells slots 1853 [some (.ref b), some (.ref (ad 0 0)), some (.ref (ad 20 0)), some (.ref (ad 61 0)), some (.ref (ad 62 0)), some (.int (iI i)), none, none, none] [] ad (jG Y θ θ ρ ad) := by
  obtain ⟨z0, hz0, ez0⟩ : ∃ z : Int, rg z ∧ (xs (i + 1).toNat).toInt = z := ⟨_, rg_of _, rfl⟩
  refine X_aload_n C rfl dL_law_1853 ?_
  refine X_aload_n C rfl dL_law_1854 ?_
  refine X_iload C rfl dL_law_1855 ?_
  refine X_iconst C dL_law_1857 ?_
  refine X_iadd C dL_law_1858 ?_
  refine X_sld C S (by omega) (by omega) (by omega) ez0 dL_law_1859 ?_
  refine X_aload_n C rfl dL_law_1860 ?_
  refine X_callSW C hN (w_lateBy C.hlc I hz0 ho) cw_lateBy (As := [.ref (ad 0 0), .int (iI z0), .ref (ad 61 0)]) rfl rfl rfl (xroom_of rfl rfl (show cells + 12 ≤ 603072 by omega) (show slots + 224 ≤ 7198826 by omega)) dL_law_1861 (fun r ad2 g2 hp => ?_)
  obtain ⟨h1, hkp, ρ2, ho2, hV, h2⟩ := hp
  rw [h1, h2, ← hkp 0 0 (by omega), ← hkp 20 0 (by omega), ← hkp 61 0 (by omega), ← hkp 62 0 (by omega)]
  refine X_istore_6 C (by decide) rfl dL_law_1864 ?_
  refine X_aload_n C rfl dL_law_1866 ?_
  refine X_aload_n C rfl dL_law_1867 ?_
  refine X_iload C rfl dL_law_1868 ?_
  refine X_iconst C dL_law_1870 ?_
  refine X_iadd C dL_law_1871 ?_
  refine X_sld C S (by omega) (by omega) (by omega) ez0 dL_law_1872 ?_
  refine X_callVg C (c_X9_lateBy C.hlc I hz0) cv_L_239 jG_20 ⟨_, _, rfl⟩ (As := [.int (iI z0)]) rfl rfl rfl (xroom_of rfl rfl (show cells + 12 + 0 ≤ 603072 by omega) (show slots + 224 + 0 ≤ 7198826 by omega)) dL_law_1873 (fun _ _ _ h => h.elim) (fun r3 ad3 g3 hp3 => ?_)
  obtain ⟨h3, h4, h5⟩ := hp3
  rw [h3, h4, h5]
  refine X_istore_7 C (by decide) rfl dL_law_1876 ?_
  obtain ⟨T, IT, hT, hj⟩ := jBr_q (k := kOdr θ z0) I hn
  rw [hj]
  refine X_aload_n C rfl dL_law_1878 ?_
  refine X_callVg C (c_X9_thrown C.hlc) cv_L_149 jG_20 ⟨_, _, rfl⟩ (As := []) rfl rfl rfl (xroom_of rfl rfl (show cells + 12 + 0 + 0 ≤ 603072 by omega) (show slots + 224 + 0 + 0 ≤ 7198826 by omega)) dL_law_1879 (fun _ _ _ h => h.elim) (fun r6 ad6 g6 hp6 => ?_)
  obtain ⟨h6, h7, h8⟩ := hp6
  rw [h6, h7, h8, hT]
  have hK : 0 ≤ kOdr θ z0 ∧ kOdr θ z0 ≤ 5 := by unfold kOdr; (repeat' split) <;> omega
  have hKr : rg (kOdr θ z0) := by constructor <;> omega
  refine X_iload C rfl dL_law_1882 ?_
  refine X_icmp_eq (tgt := 1889) C dL_law_1884 rfl hKr hKr (fun _ => ?_) (fun h => absurd rfl h)
  refine X_iload C rfl dL_law_1889 ?_
  refine X_if_ne (tgt := 1906) C dL_law_1891 rfl hKr (fun _ => ?_) (fun hk0 => ?_)
  · refine X_goto (tgt := 2605) C dL_law_1906 rfl ?_
    exact X_fg9 (X.widen (show cells + 12 + 0 + 0 ≤ cells + 40 by omega) (show slots + 224 + 0 + 0 ≤ slots + 400 by omega) (kk T ρ2 ad2 IT ho2))
  · obtain ⟨f, hf, hx⟩ := hV hk0
    rw [mA_0 hk0]
    refine X_aload_n C rfl dL_law_1894 ?_
    refine X_iconst C dL_law_1895 ?_
    refine X_lald C ((jG_at (by decide)).trans hf) (by decide) (by decide) (by decide) hx dL_law_1896 ?_
    refine X_iload C rfl dL_law_1897 ?_
    refine X_i2lR C dL_law_1899 ?_
    refine X_lcmpR C dL_law_1900 ?_
    refine X_if_eq (tgt := 1906) C dL_law_1901 rfl rg0 (fun _ => ?_) (fun h => absurd rfl h)
    refine X_goto (tgt := 2605) C dL_law_1906 rfl ?_
    exact X_fg9 (X.widen (show cells + 12 + 0 + 0 ≤ cells + 40 by omega) (show slots + 224 + 0 + 0 ≤ slots + 400 by omega) (kk T ρ2 ad2 IT ho2))
theorem lc_nextOrder {κ : xK} {D : va_G} {Y : Nat → ClassId} {A : Nat → Prop} {cells slots b L : Nat} {xs : Nat → Int32} {θ : xS} {ρ : xG} {ad : xL} {n i : Int} (C : XB κ D Y A cL_law RL 9 room_1) (hN : xGN κ.2.2.2.2.1) (S : xSc κ A b L xs) (hL : L ≤ 2048) (I : xI n θ) (hn : n < 512) (ho : oK Y ρ) (hi : 0 ≤ i ∧ i + 4 ≤ L) (hc : cells + 40 ≤ 603072) (hs : slots + 400 ≤ 7198826) (kk : ∀ (θ2 : xS) (ρ2 : xG) (ad2 : xL), xI (n + 1) θ2 → oK Y ρ2 → X κ D A 9 (cells + 40) (slots + 400) 2605 [some (.ref b), some (.ref (ad2 0 0)), some (.ref (ad2 20 0)), some (.ref (ad2 61 0)), some (.ref (ad2 62 0)), some (.int (iI i)), none, none, none] [] ad2 (jG Y θ2 θ2 ρ2 ad2)) : X κ D A 9 cells slots 1909 [some (.ref b), some (.ref (ad 0 0)), some (.ref (ad 20 0)), some (.ref (ad 61 0)), some (.ref (ad 62 0)), some (.int (iI i)), none, none, none] [] ad (jG Y θ θ ρ ad) := by
  refine X_aload_n C rfl dL_law_1909 ?_
  refine X_aload_n C rfl dL_law_1910 ?_
  refine X_callSW C hN (w_nextOrder C.hlc I ho) cw_nextOrder (As := [.ref (ad 0 0), .ref (ad 61 0)]) rfl rfl rfl (xroom_of rfl rfl (show cells + 12 ≤ 603072 by omega) (show slots + 224 ≤ 7198826 by omega)) dL_law_1911 (fun r ad2 g2 hp => ?_)
  obtain ⟨h1, hkp, ρ2, ho2, hV, h2⟩ := hp
  rw [h1, h2, ← hkp 0 0 (by omega), ← hkp 20 0 (by omega), ← hkp 61 0 (by omega), ← hkp 62 0 (by omega)]
  refine X_istore_6 C (by decide) rfl dL_law_1914 ?_
  refine X_aload_n C rfl dL_law_1916 ?_
  refine X_callVg C (c_X9_nextOrder C.hlc I) cv_L_242 jG_20 ⟨_, _, rfl⟩ (As := []) rfl rfl rfl (xroom_of rfl rfl (show cells + 12 + 0 ≤ 603072 by omega) (show slots + 224 + 0 ≤ 7198826 by omega)) dL_law_1917 (fun _ _ _ h => h.elim) (fun r3 ad3 g3 hp3 => ?_)
  obtain ⟨h3, h4, h5⟩ := hp3
  rw [h3, h4, h5]
  refine X_istore_7 C (by decide) rfl dL_law_1920 ?_
  obtain ⟨T, IT, hT, hj⟩ := jBr_q (k := kNxo θ) I hn
  rw [hj]
  refine X_aload_n C rfl dL_law_1922 ?_
  refine X_callVg C (c_X9_thrown C.hlc) cv_L_149 jG_20 ⟨_, _, rfl⟩ (As := []) rfl rfl rfl (xroom_of rfl rfl (show cells + 12 + 0 + 0 ≤ 603072 by omega) (show slots + 224 + 0 + 0 ≤ 7198826 by omega)) dL_law_1923 (fun _ _ _ h => h.elim) (fun r6 ad6 g6 hp6 => ?_)
  obtain ⟨h6, h7, h8⟩ := hp6
  rw [h6, h7, h8, hT]
  have hK : 0 ≤ kNxo θ ∧ kNxo θ ≤ 5 := by unfold kNxo; (repeat' split) <;> omega
  have hKr : rg (kNxo θ) := by constructor <;> omega
  refine X_iload C rfl dL_law_1926 ?_
  refine X_icmp_eq (tgt := 1933) C dL_law_1928 rfl hKr hKr (fun _ => ?_) (fun h => absurd rfl h)
  refine X_iload C rfl dL_law_1933 ?_
  refine X_if_ne (tgt := 1950) C dL_law_1935 rfl hKr (fun _ => ?_) (fun hk0 => ?_)
  · refine X_goto (tgt := 2605) C dL_law_1950 rfl ?_
    exact X_fg9 (X.widen (show cells + 12 + 0 + 0 ≤ cells + 40 by omega) (show slots + 224 + 0 + 0 ≤ slots + 400 by omega) (kk T ρ2 ad2 IT ho2))
  · obtain ⟨f, hf, hx⟩ := hV hk0
    refine X_aload_n C rfl dL_law_1938 ?_
    refine X_iconst C dL_law_1939 ?_
    refine X_lald C ((jG_at (by decide)).trans hf) (by decide) (by decide) (by decide) hx dL_law_1940 ?_
    refine X_iload C rfl dL_law_1941 ?_
    refine X_i2lR C dL_law_1943 ?_
    refine X_lcmpR C dL_law_1944 ?_
    refine X_if_eq (tgt := 1950) C dL_law_1945 rfl rg0 (fun _ => ?_) (fun h => absurd rfl h)
    refine X_goto (tgt := 2605) C dL_law_1950 rfl ?_
    exact X_fg9 (X.widen (show cells + 12 + 0 + 0 ≤ cells + 40 by omega) (show slots + 224 + 0 + 0 ≤ slots + 400 by omega) (kk T ρ2 ad2 IT ho2))
theorem lc_nextSheet {κ : xK} {D : va_G} {Y : Nat → ClassId} {A : Nat → Prop} {cells slots b L : Nat} {xs : Nat → Int32} {θ : xS} {ρ : xG} {ad : xL} {n i : Int} (C : XB κ D Y A cL_law RL 9 room_1) (hN : xGN κ.2.2.2.2.1) (S : xSc κ A b L xs) (hL : L ≤ 2048) (I : xI n θ) (hn : n < 512) (ho : oK Y ρ) (hi : 0 ≤ i ∧ i + 4 ≤ L) (hc : cells + 40 ≤ 603072) (hs : slots + 400 ≤ 7198826) (kk : ∀ (θ2 : xS) (ρ2 : xG) (ad2 : xL), xI (n + 1) θ2 → oK Y ρ2 → X κ D A 9 (cells + 40) (slots + 400) 2605 [some (.ref b), some (.ref (ad2 0 0)), some (.ref (ad2 20 0)), some (.ref (ad2 61 0)), some (.ref (ad2 62 0)), some (.int (iI i)), none, none, none] [] ad2 (jG Y θ2 θ2 ρ2 ad2)) : X κ D A 9 cells slots 1953 [some (.ref b), some (.ref (ad 0 0)), some (.ref (ad 20 0)), some (.ref (ad 61 0)), some (.ref (ad 62 0)), some (.int (iI i)), none, none, none] [] ad (jG Y θ θ ρ ad) := by
  obtain ⟨z0, hz0, ez0⟩ : ∃ z : Int, rg z ∧ (xs (i + 1).toNat).toInt = z := ⟨_, rg_of _, rfl⟩
  refine X_aload_n C rfl dL_law_1953 ?_
  refine X_aload_n C rfl dL_law_1954 ?_
  refine X_iload C rfl dL_law_1955 ?_
  refine X_iconst C dL_law_1957 ?_
  refine X_iadd C dL_law_1958 ?_
  refine X_sld C S (by omega) (by omega) (by omega) ez0 dL_law_1959 ?_
  refine X_aload_n C rfl dL_law_1960 ?_
  refine X_callSW C hN (w_nextSheet C.hlc I hz0 ho) cw_nextSheet (As := [.ref (ad 0 0), .int (iI z0), .ref (ad 61 0)]) rfl rfl rfl (xroom_of rfl rfl (show cells + 12 ≤ 603072 by omega) (show slots + 224 ≤ 7198826 by omega)) dL_law_1961 (fun r ad2 g2 hp => ?_)
  obtain ⟨h1, hkp, ρ2, ho2, hV, h2⟩ := hp
  rw [h1, h2, ← hkp 0 0 (by omega), ← hkp 20 0 (by omega), ← hkp 61 0 (by omega), ← hkp 62 0 (by omega)]
  refine X_istore_6 C (by decide) rfl dL_law_1964 ?_
  refine X_aload_n C rfl dL_law_1966 ?_
  refine X_aload_n C rfl dL_law_1967 ?_
  refine X_iload C rfl dL_law_1968 ?_
  refine X_iconst C dL_law_1970 ?_
  refine X_iadd C dL_law_1971 ?_
  refine X_sld C S (by omega) (by omega) (by omega) ez0 dL_law_1972 ?_
  refine X_callVg C (c_X9_nextSheet C.hlc I hz0) cv_L_245 jG_20 ⟨_, _, rfl⟩ (As := [.int (iI z0)]) rfl rfl rfl (xroom_of rfl rfl (show cells + 12 + 0 ≤ 603072 by omega) (show slots + 224 + 0 ≤ 7198826 by omega)) dL_law_1973 (fun _ _ _ h => h.elim) (fun r3 ad3 g3 hp3 => ?_)
  obtain ⟨h3, h4, h5⟩ := hp3
  rw [h3, h4, h5]
  refine X_istore_7 C (by decide) rfl dL_law_1976 ?_
  obtain ⟨T, IT, hT, hj⟩ := jBr_q (k := kNxs θ z0) I hn
  rw [hj]
  refine X_aload_n C rfl dL_law_1978 ?_
  refine X_callVg C (c_X9_thrown C.hlc) cv_L_149 jG_20 ⟨_, _, rfl⟩ (As := []) rfl rfl rfl (xroom_of rfl rfl (show cells + 12 + 0 + 0 ≤ 603072 by omega) (show slots + 224 + 0 + 0 ≤ 7198826 by omega)) dL_law_1979 (fun _ _ _ h => h.elim) (fun r6 ad6 g6 hp6 => ?_)
  obtain ⟨h6, h7, h8⟩ := hp6
  rw [h6, h7, h8, hT]
  have hK : 0 ≤ kNxs θ z0 ∧ kNxs θ z0 ≤ 5 := by unfold kNxs; (repeat' split) <;> omega
  have hKr : rg (kNxs θ z0) := by constructor <;> omega
  refine X_iload C rfl dL_law_1982 ?_
  refine X_icmp_eq (tgt := 1989) C dL_law_1984 rfl hKr hKr (fun _ => ?_) (fun h => absurd rfl h)
  refine X_iload C rfl dL_law_1989 ?_
  refine X_if_ne (tgt := 2006) C dL_law_1991 rfl hKr (fun _ => ?_) (fun hk0 => ?_)
  · refine X_goto (tgt := 2605) C dL_law_2006 rfl ?_
    exact X_fg9 (X.widen (show cells + 12 + 0 + 0 ≤ cells + 40 by omega) (show slots + 224 + 0 + 0 ≤ slots + 400 by omega) (kk T ρ2 ad2 IT ho2))
  · obtain ⟨f, hf, hx⟩ := hV hk0
    rw [mA_0 hk0]
    refine X_aload_n C rfl dL_law_1994 ?_
    refine X_iconst C dL_law_1995 ?_
    refine X_lald C ((jG_at (by decide)).trans hf) (by decide) (by decide) (by decide) hx dL_law_1996 ?_
    refine X_iload C rfl dL_law_1997 ?_
    refine X_i2lR C dL_law_1999 ?_
    refine X_lcmpR C dL_law_2000 ?_
    refine X_if_eq (tgt := 2006) C dL_law_2001 rfl rg0 (fun _ => ?_) (fun h => absurd rfl h)
    refine X_goto (tgt := 2605) C dL_law_2006 rfl ?_
    exact X_fg9 (X.widen (show cells + 12 + 0 + 0 ≤ cells + 40 by omega) (show slots + 224 + 0 + 0 ≤ slots + 400 by omega) (kk T ρ2 ad2 IT ho2))
theorem lc_print {κ : xK} {D : va_G} {Y : Nat → ClassId} {A : Nat → Prop} {cells slots b L : Nat} {xs : Nat → Int32} {θ : xS} {ρ : xG} {ad : xL} {n i : Int} (C : XB κ D Y A cL_law RL 9 room_1) (hN : xGN κ.2.2.2.2.1) (S : xSc κ A b L xs) (hL : L ≤ 2048) (I : xI n θ) (hn : n < 512) (ho : oK Y ρ) (hi : 0 ≤ i ∧ i + 4 ≤ L) (hc : cells + 40 ≤ 603072) (hs : slots + 400 ≤ 7198826) (kk : ∀ (θ2 : xS) (ρ2 : xG) (ad2 : xL), xI (n + 1) θ2 → oK Y ρ2 → X κ D A 9 (cells + 40) (slots + 400) 2605 [some (.ref b), some (.ref (ad2 0 0)), some (.ref (ad2 20 0)), some (.ref (ad2 61 0)), some (.ref (ad2 62 0)), some (.int (iI i)), none, none, none] [] ad2 (jG Y θ2 θ2 ρ2 ad2)) : X κ D A 9 cells slots 2009 [some (.ref b), some (.ref (ad 0 0)), some (.ref (ad 20 0)), some (.ref (ad 61 0)), some (.ref (ad 62 0)), some (.int (iI i)), none, none, none] [] ad (jG Y θ θ ρ ad) := by
  obtain ⟨z0, hz0, ez0⟩ : ∃ z : Int, rg z ∧ (xs (i + 1).toNat).toInt = z := ⟨_, rg_of _, rfl⟩
  obtain ⟨z1, hz1, ez1⟩ : ∃ z : Int, rg z ∧ (xs (i + 2).toNat).toInt = z := ⟨_, rg_of _, rfl⟩
  refine X_aload_n C rfl dL_law_2009 ?_
  refine X_aload_n C rfl dL_law_2010 ?_
  refine X_iload C rfl dL_law_2011 ?_
  refine X_iconst C dL_law_2013 ?_
  refine X_iadd C dL_law_2014 ?_
  refine X_sld C S (by omega) (by omega) (by omega) ez0 dL_law_2015 ?_
  refine X_aload_n C rfl dL_law_2016 ?_
  refine X_iload C rfl dL_law_2017 ?_
  refine X_iconst C dL_law_2019 ?_
  refine X_iadd C dL_law_2020 ?_
  refine X_sld C S (by omega) (by omega) (by omega) ez1 dL_law_2021 ?_
  refine X_aload_n C rfl dL_law_2022 ?_
  refine X_callSW C hN (w_print C.hlc I hz0 hz1 ho) cw_print (As := [.ref (ad 0 0), .int (iI z0), .int (iI z1), .ref (ad 61 0)]) rfl rfl rfl (xroom_of rfl rfl (show cells + 12 ≤ 603072 by omega) (show slots + 224 ≤ 7198826 by omega)) dL_law_2023 (fun r ad2 g2 hp => ?_)
  obtain ⟨h1, hkp, ρ2, ho2, hV, h2⟩ := hp
  rw [h1, h2, ← hkp 0 0 (by omega), ← hkp 20 0 (by omega), ← hkp 61 0 (by omega), ← hkp 62 0 (by omega)]
  refine X_istore_6 C (by decide) rfl dL_law_2026 ?_
  refine X_aload_n C rfl dL_law_2028 ?_
  refine X_aload_n C rfl dL_law_2029 ?_
  refine X_iload C rfl dL_law_2030 ?_
  refine X_iconst C dL_law_2032 ?_
  refine X_iadd C dL_law_2033 ?_
  refine X_sld C S (by omega) (by omega) (by omega) ez0 dL_law_2034 ?_
  refine X_aload_n C rfl dL_law_2035 ?_
  refine X_iload C rfl dL_law_2036 ?_
  refine X_iconst C dL_law_2038 ?_
  refine X_iadd C dL_law_2039 ?_
  refine X_sld C S (by omega) (by omega) (by omega) ez1 dL_law_2040 ?_
  refine X_callVg C (c_X9_print C.hlc I hz0 hz1 ho2.2.2) cv_L_248 jG_20 ⟨_, _, rfl⟩ (As := [.int (iI z0), .int (iI z1)]) rfl rfl rfl (xroom_of rfl rfl (show cells + 12 + 1 ≤ 603072 by omega) (show slots + 224 + 32 ≤ 7198826 by omega)) dL_law_2041 (fun _ _ _ h => h.elim) (fun r3 ad3 g3 hp3 => ?_)
  obtain ⟨h3, h4, h5⟩ := hp3
  rw [h3, h4, h5]
  refine X_istore_7 C (by decide) rfl dL_law_2044 ?_
  obtain ⟨T, IT, hT, hj⟩ := b_prt (z := z0) (s := z1) I hn
  rw [hj]
  refine X_aload_n C rfl dL_law_2046 ?_
  refine X_callVg C (c_X9_thrown C.hlc) cv_L_149 jG_20 ⟨_, _, rfl⟩ (As := []) rfl rfl rfl (xroom_of rfl rfl (show cells + 12 + 1 + 0 ≤ 603072 by omega) (show slots + 224 + 32 + 0 ≤ 7198826 by omega)) dL_law_2047 (fun _ _ _ h => h.elim) (fun r6 ad6 g6 hp6 => ?_)
  obtain ⟨h6, h7, h8⟩ := hp6
  rw [h6, h7, h8, hT]
  have hK : 0 ≤ kPrt θ z0 z1 ∧ kPrt θ z0 z1 ≤ 5 := by unfold kPrt; (repeat' split) <;> omega
  have hKr : rg (kPrt θ z0 z1) := by constructor <;> omega
  refine X_iload C rfl dL_law_2050 ?_
  refine X_icmp_eq (tgt := 2057) C dL_law_2052 rfl hKr hKr (fun _ => ?_) (fun h => absurd rfl h)
  refine X_iload C rfl dL_law_2057 ?_
  refine X_if_ne (tgt := 2074) C dL_law_2059 rfl hKr (fun _ => ?_) (fun hk0 => ?_)
  · refine X_goto (tgt := 2605) C dL_law_2074 rfl ?_
    exact X_fg9 (X.widen (show cells + 12 + 1 + 0 ≤ cells + 40 by omega) (show slots + 224 + 32 + 0 ≤ slots + 400 by omega) (kk T ρ2 ad2 IT ho2))
  · obtain ⟨f, hf, hx⟩ := hV hk0
    rw [mA_0 hk0]
    refine X_aload_n C rfl dL_law_2062 ?_
    refine X_iconst C dL_law_2063 ?_
    refine X_lald C ((jG_at (by decide)).trans hf) (by decide) (by decide) (by decide) hx dL_law_2064 ?_
    refine X_iload C rfl dL_law_2065 ?_
    refine X_i2lR C dL_law_2067 ?_
    refine X_lcmpR C dL_law_2068 ?_
    refine X_if_eq (tgt := 2074) C dL_law_2069 rfl rg0 (fun _ => ?_) (fun h => absurd rfl h)
    refine X_goto (tgt := 2605) C dL_law_2074 rfl ?_
    exact X_fg9 (X.widen (show cells + 12 + 1 + 0 ≤ cells + 40 by omega) (show slots + 224 + 32 + 0 ≤ slots + 400 by omega) (kk T ρ2 ad2 IT ho2))
theorem lc_onPress {κ : xK} {D : va_G} {Y : Nat → ClassId} {A : Nat → Prop} {cells slots b L : Nat} {xs : Nat → Int32} {θ : xS} {ρ : xG} {ad : xL} {n i : Int} (C : XB κ D Y A cL_law RL 9 room_1) (hN : xGN κ.2.2.2.2.1) (S : xSc κ A b L xs) (hL : L ≤ 2048) (I : xI n θ) (hn : n < 512) (ho : oK Y ρ) (hi : 0 ≤ i ∧ i + 4 ≤ L) (hc : cells + 40 ≤ 603072) (hs : slots + 400 ≤ 7198826) (kk : ∀ (θ2 : xS) (ρ2 : xG) (ad2 : xL), xI (n + 1) θ2 → oK Y ρ2 → X κ D A 9 (cells + 40) (slots + 400) 2605 [some (.ref b), some (.ref (ad2 0 0)), some (.ref (ad2 20 0)), some (.ref (ad2 61 0)), some (.ref (ad2 62 0)), some (.int (iI i)), none, none, none] [] ad2 (jG Y θ2 θ2 ρ2 ad2)) : X κ D A 9 cells slots 2077 [some (.ref b), some (.ref (ad 0 0)), some (.ref (ad 20 0)), some (.ref (ad 61 0)), some (.ref (ad 62 0)), some (.int (iI i)), none, none, none] [] ad (jG Y θ θ ρ ad) := by
  refine X_aload_n C rfl dL_law_2077 ?_
  refine X_callVg C (c_X8_onPress C.hlc I) cv_L_249 (jG_0 rfl) ⟨_, _, rfl⟩ (As := []) rfl rfl rfl (xroom_of rfl rfl (show cells + 0 ≤ 603072 by omega) (show slots + 0 ≤ 7198826 by omega)) dL_law_2078 (fun _ _ _ h => h.elim) (fun r ad3 g3 hp => ?_)
  obtain ⟨h1, h2, h3⟩ := hp
  rw [h1, h2, h3]
  refine X_aload_n C rfl dL_law_2081 ?_
  refine X_callVg C (c_X9_onPress C.hlc I) cv_L_252 jG_20 ⟨_, _, rfl⟩ (As := []) rfl rfl rfl (xroom_of rfl rfl (show cells + 0 + 0 ≤ 603072 by omega) (show slots + 0 + 0 ≤ 7198826 by omega)) dL_law_2082 (fun _ _ _ h => h.elim) (fun r4 ad4 g4 hp4 => ?_)
  obtain ⟨h4, h5, h6⟩ := hp4
  rw [h4, h5, h6]
  obtain ⟨T, IT, hT, hj⟩ := jBr_q (k := 0) I hn
  rw [hj]
  refine X_icmp_eq (tgt := 2605) C dL_law_2085 rfl (by have h := I.po; have h2 := I.no; constructor <;> omega) (by have h := I.po; have h2 := I.no; constructor <;> omega) (fun _ => ?_) (fun h => absurd rfl h)
  exact X.widen (show cells + 0 + 0 ≤ cells + 40 by omega) (show slots + 0 + 0 ≤ slots + 400 by omega) (kk T ρ ad IT ho)
theorem lc_pass {κ : xK} {D : va_G} {Y : Nat → ClassId} {A : Nat → Prop} {cells slots b L : Nat} {xs : Nat → Int32} {θ : xS} {ρ : xG} {ad : xL} {n i : Int} (C : XB κ D Y A cL_law RL 9 room_1) (hN : xGN κ.2.2.2.2.1) (S : xSc κ A b L xs) (hL : L ≤ 2048) (I : xI n θ) (hn : n < 512) (ho : oK Y ρ) (hi : 0 ≤ i ∧ i + 4 ≤ L) (hc : cells + 40 ≤ 603072) (hs : slots + 400 ≤ 7198826) (kk : ∀ (θ2 : xS) (ρ2 : xG) (ad2 : xL), xI (n + 1) θ2 → oK Y ρ2 → X κ D A 9 (cells + 40) (slots + 400) 2605 [some (.ref b), some (.ref (ad2 0 0)), some (.ref (ad2 20 0)), some (.ref (ad2 61 0)), some (.ref (ad2 62 0)), some (.int (iI i)), none, none, none] [] ad2 (jG Y θ2 θ2 ρ2 ad2)) : X κ D A 9 cells slots 2090 [some (.ref b), some (.ref (ad 0 0)), some (.ref (ad 20 0)), some (.ref (ad 61 0)), some (.ref (ad 62 0)), some (.int (iI i)), none, none, none] [] ad (jG Y θ θ ρ ad) := by
  obtain ⟨z0, hz0, ez0⟩ : ∃ z : Int, rg z ∧ (xs (i + 1).toNat).toInt = z := ⟨_, rg_of _, rfl⟩
  refine X_aload_n C rfl dL_law_2090 ?_
  refine X_aload_n C rfl dL_law_2091 ?_
  refine X_iload C rfl dL_law_2092 ?_
  refine X_iconst C dL_law_2094 ?_
  refine X_iadd C dL_law_2095 ?_
  refine X_sld C S (by omega) (by omega) (by omega) ez0 dL_law_2096 ?_
  refine X_aload_n C rfl dL_law_2097 ?_
  refine X_callSW C hN (w_pass C.hlc I hz0 ho) cw_pass (As := [.ref (ad 0 0), .int (iI z0), .ref (ad 61 0)]) rfl rfl rfl (xroom_of rfl rfl (show cells + 12 ≤ 603072 by omega) (show slots + 224 ≤ 7198826 by omega)) dL_law_2098 (fun r ad2 g2 hp => ?_)
  obtain ⟨h1, hkp, ρ2, ho2, hV, h2⟩ := hp
  rw [h1, h2, ← hkp 0 0 (by omega), ← hkp 20 0 (by omega), ← hkp 61 0 (by omega), ← hkp 62 0 (by omega)]
  refine X_istore_6 C (by decide) rfl dL_law_2101 ?_
  refine X_aload_n C rfl dL_law_2103 ?_
  refine X_aload_n C rfl dL_law_2104 ?_
  refine X_iload C rfl dL_law_2105 ?_
  refine X_iconst C dL_law_2107 ?_
  refine X_iadd C dL_law_2108 ?_
  refine X_sld C S (by omega) (by omega) (by omega) ez0 dL_law_2109 ?_
  refine X_callVg C (c_X9_pass C.hlc I hz0) cv_L_255 jG_20 ⟨_, _, rfl⟩ (As := [.int (iI z0)]) rfl rfl rfl (xroom_of rfl rfl (show cells + 12 + 0 ≤ 603072 by omega) (show slots + 224 + 0 ≤ 7198826 by omega)) dL_law_2110 (fun _ _ _ h => h.elim) (fun r3 ad3 g3 hp3 => ?_)
  obtain ⟨h3, h4, h5⟩ := hp3
  rw [h3, h4, h5]
  refine X_istore_7 C (by decide) rfl dL_law_2113 ?_
  obtain ⟨T, IT, hT, hj⟩ := b_pas (u := z0) I hn
  rw [hj]
  refine X_aload_n C rfl dL_law_2115 ?_
  refine X_callVg C (c_X9_thrown C.hlc) cv_L_149 jG_20 ⟨_, _, rfl⟩ (As := []) rfl rfl rfl (xroom_of rfl rfl (show cells + 12 + 0 + 0 ≤ 603072 by omega) (show slots + 224 + 0 + 0 ≤ 7198826 by omega)) dL_law_2116 (fun _ _ _ h => h.elim) (fun r6 ad6 g6 hp6 => ?_)
  obtain ⟨h6, h7, h8⟩ := hp6
  rw [h6, h7, h8, hT]
  have hK : 0 ≤ kPas θ z0 ∧ kPas θ z0 ≤ 5 := by unfold kPas; (repeat' split) <;> omega
  have hKr : rg (kPas θ z0) := by constructor <;> omega
  refine X_iload C rfl dL_law_2119 ?_
  refine X_icmp_eq (tgt := 2126) C dL_law_2121 rfl hKr hKr (fun _ => ?_) (fun h => absurd rfl h)
  refine X_iload C rfl dL_law_2126 ?_
  refine X_if_ne (tgt := 2143) C dL_law_2128 rfl hKr (fun _ => ?_) (fun hk0 => ?_)
  · refine X_goto (tgt := 2605) C dL_law_2143 rfl ?_
    exact X_fg9 (X.widen (show cells + 12 + 0 + 0 ≤ cells + 40 by omega) (show slots + 224 + 0 + 0 ≤ slots + 400 by omega) (kk T ρ2 ad2 IT ho2))
  · obtain ⟨f, hf, hx⟩ := hV hk0
    rw [mA_0 hk0]
    refine X_aload_n C rfl dL_law_2131 ?_
    refine X_iconst C dL_law_2132 ?_
    refine X_lald C ((jG_at (by decide)).trans hf) (by decide) (by decide) (by decide) hx dL_law_2133 ?_
    refine X_iload C rfl dL_law_2134 ?_
    refine X_i2lR C dL_law_2136 ?_
    refine X_lcmpR C dL_law_2137 ?_
    refine X_if_eq (tgt := 2143) C dL_law_2138 rfl rg0 (fun _ => ?_) (fun h => absurd rfl h)
    refine X_goto (tgt := 2605) C dL_law_2143 rfl ?_
    exact X_fg9 (X.widen (show cells + 12 + 0 + 0 ≤ cells + 40 by omega) (show slots + 224 + 0 + 0 ≤ slots + 400 by omega) (kk T ρ2 ad2 IT ho2))
theorem lc_hour {κ : xK} {D : va_G} {Y : Nat → ClassId} {A : Nat → Prop} {cells slots b L : Nat} {xs : Nat → Int32} {θ : xS} {ρ : xG} {ad : xL} {n i : Int} (C : XB κ D Y A cL_law RL 9 room_1) (hN : xGN κ.2.2.2.2.1) (S : xSc κ A b L xs) (hL : L ≤ 2048) (I : xI n θ) (hn : n < 512) (ho : oK Y ρ) (hi : 0 ≤ i ∧ i + 4 ≤ L) (hc : cells + 40 ≤ 603072) (hs : slots + 400 ≤ 7198826) (kk : ∀ (θ2 : xS) (ρ2 : xG) (ad2 : xL), xI (n + 1) θ2 → oK Y ρ2 → X κ D A 9 (cells + 40) (slots + 400) 2605 [some (.ref b), some (.ref (ad2 0 0)), some (.ref (ad2 20 0)), some (.ref (ad2 61 0)), some (.ref (ad2 62 0)), some (.int (iI i)), none, none, none] [] ad2 (jG Y θ2 θ2 ρ2 ad2)) : X κ D A 9 cells slots 2146 [some (.ref b), some (.ref (ad 0 0)), some (.ref (ad 20 0)), some (.ref (ad 61 0)), some (.ref (ad 62 0)), some (.int (iI i)), none, none, none] [] ad (jG Y θ θ ρ ad) := by
  refine X_aload_n C rfl dL_law_2146 ?_
  refine X_callVg C (c_X8_hour C.hlc I) cv_L_256 (jG_0 rfl) ⟨_, _, rfl⟩ (As := []) rfl rfl rfl (xroom_of rfl rfl (show cells + 0 ≤ 603072 by omega) (show slots + 0 ≤ 7198826 by omega)) dL_law_2147 (fun _ _ _ h => h.elim) (fun r ad3 g3 hp => ?_)
  obtain ⟨h1, h2, h3⟩ := hp
  rw [h1, h2, h3]
  refine X_aload_n C rfl dL_law_2150 ?_
  refine X_callVg C (c_X9_hour C.hlc I) cv_L_259 jG_20 ⟨_, _, rfl⟩ (As := []) rfl rfl rfl (xroom_of rfl rfl (show cells + 0 + 0 ≤ 603072 by omega) (show slots + 0 + 0 ≤ 7198826 by omega)) dL_law_2151 (fun _ _ _ h => h.elim) (fun r4 ad4 g4 hp4 => ?_)
  obtain ⟨h4, h5, h6⟩ := hp4
  rw [h4, h5, h6]
  obtain ⟨T, IT, hT, hj⟩ := jBr_q (k := 0) I hn
  rw [hj]
  refine X_icmp_eq (tgt := 2605) C dL_law_2154 rfl (by have h := I.hr; constructor <;> omega) (by have h := I.hr; constructor <;> omega) (fun _ => ?_) (fun h => absurd rfl h)
  exact X.widen (show cells + 0 + 0 ≤ cells + 40 by omega) (show slots + 0 + 0 ≤ slots + 400 by omega) (kk T ρ ad IT ho)
theorem lc_plateLength {κ : xK} {D : va_G} {Y : Nat → ClassId} {A : Nat → Prop} {cells slots b L : Nat} {xs : Nat → Int32} {θ : xS} {ρ : xG} {ad : xL} {n i : Int} (C : XB κ D Y A cL_law RL 9 room_1) (hN : xGN κ.2.2.2.2.1) (S : xSc κ A b L xs) (hL : L ≤ 2048) (I : xI n θ) (hn : n < 512) (ho : oK Y ρ) (hi : 0 ≤ i ∧ i + 4 ≤ L) (hc : cells + 40 ≤ 603072) (hs : slots + 400 ≤ 7198826) (kk : ∀ (θ2 : xS) (ρ2 : xG) (ad2 : xL), xI (n + 1) θ2 → oK Y ρ2 → X κ D A 9 (cells + 40) (slots + 400) 2605 [some (.ref b), some (.ref (ad2 0 0)), some (.ref (ad2 20 0)), some (.ref (ad2 61 0)), some (.ref (ad2 62 0)), some (.int (iI i)), none, none, none] [] ad2 (jG Y θ2 θ2 ρ2 ad2)) : X κ D A 9 cells slots 2159 [some (.ref b), some (.ref (ad 0 0)), some (.ref (ad 20 0)), some (.ref (ad 61 0)), some (.ref (ad 62 0)), some (.int (iI i)), none, none, none] [] ad (jG Y θ θ ρ ad) := by
  obtain ⟨z0, hz0, ez0⟩ : ∃ z : Int, rg z ∧ (xs (i + 1).toNat).toInt = z := ⟨_, rg_of _, rfl⟩
  obtain ⟨z1, hz1, ez1⟩ : ∃ z : Int, rg z ∧ (xs (i + 2).toNat).toInt = z := ⟨_, rg_of _, rfl⟩
  refine X_aload_n C rfl dL_law_2159 ?_
  refine X_aload_n C rfl dL_law_2160 ?_
  refine X_iload C rfl dL_law_2161 ?_
  refine X_iconst C dL_law_2163 ?_
  refine X_iadd C dL_law_2164 ?_
  refine X_sld C S (by omega) (by omega) (by omega) ez0 dL_law_2165 ?_
  refine X_aload_n C rfl dL_law_2166 ?_
  refine X_iload C rfl dL_law_2167 ?_
  refine X_iconst C dL_law_2169 ?_
  refine X_iadd C dL_law_2170 ?_
  refine X_sld C S (by omega) (by omega) (by omega) ez1 dL_law_2171 ?_
  refine X_aload_n C rfl dL_law_2172 ?_
  refine X_callSW C hN (w_plateLength C.hlc I hz0 hz1 ho) cw_plateLength (As := [.ref (ad 0 0), .int (iI z0), .int (iI z1), .ref (ad 61 0)]) rfl rfl rfl (xroom_of rfl rfl (show cells + 12 ≤ 603072 by omega) (show slots + 224 ≤ 7198826 by omega)) dL_law_2173 (fun r ad2 g2 hp => ?_)
  obtain ⟨h1, hkp, ρ2, ho2, hV, h2⟩ := hp
  rw [h1, h2, ← hkp 0 0 (by omega), ← hkp 20 0 (by omega), ← hkp 61 0 (by omega), ← hkp 62 0 (by omega)]
  refine X_istore_6 C (by decide) rfl dL_law_2176 ?_
  refine X_aload_n C rfl dL_law_2178 ?_
  refine X_aload_n C rfl dL_law_2179 ?_
  refine X_iload C rfl dL_law_2180 ?_
  refine X_iconst C dL_law_2182 ?_
  refine X_iadd C dL_law_2183 ?_
  refine X_sld C S (by omega) (by omega) (by omega) ez0 dL_law_2184 ?_
  refine X_aload_n C rfl dL_law_2185 ?_
  refine X_iload C rfl dL_law_2186 ?_
  refine X_iconst C dL_law_2188 ?_
  refine X_iadd C dL_law_2189 ?_
  refine X_sld C S (by omega) (by omega) (by omega) ez1 dL_law_2190 ?_
  refine X_callVg C (c_X9_plateLength C.hlc I hz0 hz1) cv_L_262 jG_20 ⟨_, _, rfl⟩ (As := [.int (iI z0), .int (iI z1)]) rfl rfl rfl (xroom_of rfl rfl (show cells + 12 + 0 ≤ 603072 by omega) (show slots + 224 + 0 ≤ 7198826 by omega)) dL_law_2191 (fun _ _ _ h => h.elim) (fun r3 ad3 g3 hp3 => ?_)
  obtain ⟨h3, h4, h5⟩ := hp3
  rw [h3, h4, h5]
  refine X_istore_7 C (by decide) rfl dL_law_2194 ?_
  obtain ⟨T, IT, hT, hj⟩ := jBr_q (k := kPlL θ z0 z1) I hn
  rw [hj]
  refine X_aload_n C rfl dL_law_2196 ?_
  refine X_callVg C (c_X9_thrown C.hlc) cv_L_149 jG_20 ⟨_, _, rfl⟩ (As := []) rfl rfl rfl (xroom_of rfl rfl (show cells + 12 + 0 + 0 ≤ 603072 by omega) (show slots + 224 + 0 + 0 ≤ 7198826 by omega)) dL_law_2197 (fun _ _ _ h => h.elim) (fun r6 ad6 g6 hp6 => ?_)
  obtain ⟨h6, h7, h8⟩ := hp6
  rw [h6, h7, h8, hT]
  have hK : 0 ≤ kPlL θ z0 z1 ∧ kPlL θ z0 z1 ≤ 5 := by unfold kPlL; (repeat' split) <;> omega
  have hKr : rg (kPlL θ z0 z1) := by constructor <;> omega
  refine X_iload C rfl dL_law_2200 ?_
  refine X_icmp_eq (tgt := 2207) C dL_law_2202 rfl hKr hKr (fun _ => ?_) (fun h => absurd rfl h)
  refine X_iload C rfl dL_law_2207 ?_
  refine X_if_ne (tgt := 2224) C dL_law_2209 rfl hKr (fun _ => ?_) (fun hk0 => ?_)
  · refine X_goto (tgt := 2605) C dL_law_2224 rfl ?_
    exact X_fg9 (X.widen (show cells + 12 + 0 + 0 ≤ cells + 40 by omega) (show slots + 224 + 0 + 0 ≤ slots + 400 by omega) (kk T ρ2 ad2 IT ho2))
  · obtain ⟨f, hf, hx⟩ := hV hk0
    rw [mA_0 hk0]
    refine X_aload_n C rfl dL_law_2212 ?_
    refine X_iconst C dL_law_2213 ?_
    refine X_lald C ((jG_at (by decide)).trans hf) (by decide) (by decide) (by decide) hx dL_law_2214 ?_
    refine X_iload C rfl dL_law_2215 ?_
    refine X_i2lR C dL_law_2217 ?_
    refine X_lcmpR C dL_law_2218 ?_
    refine X_if_eq (tgt := 2224) C dL_law_2219 rfl rg0 (fun _ => ?_) (fun h => absurd rfl h)
    refine X_goto (tgt := 2605) C dL_law_2224 rfl ?_
    exact X_fg9 (X.widen (show cells + 12 + 0 + 0 ≤ cells + 40 by omega) (show slots + 224 + 0 + 0 ≤ slots + 400 by omega) (kk T ρ2 ad2 IT ho2))
theorem lc_plateAt {κ : xK} {D : va_G} {Y : Nat → ClassId} {A : Nat → Prop} {cells slots b L : Nat} {xs : Nat → Int32} {θ : xS} {ρ : xG} {ad : xL} {n i : Int} (C : XB κ D Y A cL_law RL 9 room_1) (hN : xGN κ.2.2.2.2.1) (S : xSc κ A b L xs) (hL : L ≤ 2048) (I : xI n θ) (hn : n < 512) (ho : oK Y ρ) (hi : 0 ≤ i ∧ i + 4 ≤ L) (hc : cells + 40 ≤ 603072) (hs : slots + 400 ≤ 7198826) (kk : ∀ (θ2 : xS) (ρ2 : xG) (ad2 : xL), xI (n + 1) θ2 → oK Y ρ2 → X κ D A 9 (cells + 40) (slots + 400) 2605 [some (.ref b), some (.ref (ad2 0 0)), some (.ref (ad2 20 0)), some (.ref (ad2 61 0)), some (.ref (ad2 62 0)), some (.int (iI i)), none, none, none] [] ad2 (jG Y θ2 θ2 ρ2 ad2)) : X κ D A 9 cells slots 2227 [some (.ref b), some (.ref (ad 0 0)), some (.ref (ad 20 0)), some (.ref (ad 61 0)), some (.ref (ad 62 0)), some (.int (iI i)), none, none, none] [] ad (jG Y θ θ ρ ad) := by
  obtain ⟨z0, hz0, ez0⟩ : ∃ z : Int, rg z ∧ (xs (i + 1).toNat).toInt = z := ⟨_, rg_of _, rfl⟩
  obtain ⟨z1, hz1, ez1⟩ : ∃ z : Int, rg z ∧ (xs (i + 2).toNat).toInt = z := ⟨_, rg_of _, rfl⟩
  obtain ⟨z2, hz2, ez2⟩ : ∃ z : Int, rg z ∧ (xs (i + 3).toNat).toInt = z := ⟨_, rg_of _, rfl⟩
  refine X_aload_n C rfl dL_law_2227 ?_
  refine X_aload_n C rfl dL_law_2228 ?_
  refine X_iload C rfl dL_law_2229 ?_
  refine X_iconst C dL_law_2231 ?_
  refine X_iadd C dL_law_2232 ?_
  refine X_sld C S (by omega) (by omega) (by omega) ez0 dL_law_2233 ?_
  refine X_aload_n C rfl dL_law_2234 ?_
  refine X_iload C rfl dL_law_2235 ?_
  refine X_iconst C dL_law_2237 ?_
  refine X_iadd C dL_law_2238 ?_
  refine X_sld C S (by omega) (by omega) (by omega) ez1 dL_law_2239 ?_
  refine X_aload_n C rfl dL_law_2240 ?_
  refine X_iload C rfl dL_law_2241 ?_
  refine X_iconst C dL_law_2243 ?_
  refine X_iadd C dL_law_2244 ?_
  refine X_sld C S (by omega) (by omega) (by omega) ez2 dL_law_2245 ?_
  refine X_aload_n C rfl dL_law_2246 ?_
  refine X_callSW C hN (w_plateAt C.hlc I hz0 hz1 hz2 ho) cw_plateAt (As := [.ref (ad 0 0), .int (iI z0), .int (iI z1), .int (iI z2), .ref (ad 61 0)]) rfl rfl rfl (xroom_of rfl rfl (show cells + 12 ≤ 603072 by omega) (show slots + 224 ≤ 7198826 by omega)) dL_law_2247 (fun r ad2 g2 hp => ?_)
  obtain ⟨h1, hkp, ρ2, ho2, hV, h2⟩ := hp
  rw [h1, h2, ← hkp 0 0 (by omega), ← hkp 20 0 (by omega), ← hkp 61 0 (by omega), ← hkp 62 0 (by omega)]
  refine X_istore_6 C (by decide) rfl dL_law_2250 ?_
  refine X_aload_n C rfl dL_law_2252 ?_
  refine X_aload_n C rfl dL_law_2253 ?_
  refine X_iload C rfl dL_law_2254 ?_
  refine X_iconst C dL_law_2256 ?_
  refine X_iadd C dL_law_2257 ?_
  refine X_sld C S (by omega) (by omega) (by omega) ez0 dL_law_2258 ?_
  refine X_aload_n C rfl dL_law_2259 ?_
  refine X_iload C rfl dL_law_2260 ?_
  refine X_iconst C dL_law_2262 ?_
  refine X_iadd C dL_law_2263 ?_
  refine X_sld C S (by omega) (by omega) (by omega) ez1 dL_law_2264 ?_
  refine X_aload_n C rfl dL_law_2265 ?_
  refine X_iload C rfl dL_law_2266 ?_
  refine X_iconst C dL_law_2268 ?_
  refine X_iadd C dL_law_2269 ?_
  refine X_sld C S (by omega) (by omega) (by omega) ez2 dL_law_2270 ?_
  refine X_callVg C (c_X9_plateAt C.hlc I hz0 hz1 hz2) cv_L_265 jG_20 ⟨_, _, rfl⟩ (As := [.int (iI z0), .int (iI z1), .int (iI z2)]) rfl rfl rfl (xroom_of rfl rfl (show cells + 12 + 0 ≤ 603072 by omega) (show slots + 224 + 0 ≤ 7198826 by omega)) dL_law_2271 (fun _ _ _ h => h.elim) (fun r3 ad3 g3 hp3 => ?_)
  obtain ⟨h3, h4, h5⟩ := hp3
  rw [h3, h4, h5]
  refine X_istore_7 C (by decide) rfl dL_law_2274 ?_
  obtain ⟨T, IT, hT, hj⟩ := jBr_q (k := kPlA θ z0 z1 z2) I hn
  rw [hj]
  refine X_aload_n C rfl dL_law_2276 ?_
  refine X_callVg C (c_X9_thrown C.hlc) cv_L_149 jG_20 ⟨_, _, rfl⟩ (As := []) rfl rfl rfl (xroom_of rfl rfl (show cells + 12 + 0 + 0 ≤ 603072 by omega) (show slots + 224 + 0 + 0 ≤ 7198826 by omega)) dL_law_2277 (fun _ _ _ h => h.elim) (fun r6 ad6 g6 hp6 => ?_)
  obtain ⟨h6, h7, h8⟩ := hp6
  rw [h6, h7, h8, hT]
  have hK : 0 ≤ kPlA θ z0 z1 z2 ∧ kPlA θ z0 z1 z2 ≤ 5 := by unfold kPlA; (repeat' split) <;> omega
  have hKr : rg (kPlA θ z0 z1 z2) := by constructor <;> omega
  refine X_iload C rfl dL_law_2280 ?_
  refine X_icmp_eq (tgt := 2287) C dL_law_2282 rfl hKr hKr (fun _ => ?_) (fun h => absurd rfl h)
  refine X_iload C rfl dL_law_2287 ?_
  refine X_if_ne (tgt := 2304) C dL_law_2289 rfl hKr (fun _ => ?_) (fun hk0 => ?_)
  · refine X_goto (tgt := 2605) C dL_law_2304 rfl ?_
    exact X_fg9 (X.widen (show cells + 12 + 0 + 0 ≤ cells + 40 by omega) (show slots + 224 + 0 + 0 ≤ slots + 400 by omega) (kk T ρ2 ad2 IT ho2))
  · obtain ⟨f, hf, hx⟩ := hV hk0
    rw [mA_0 hk0]
    refine X_aload_n C rfl dL_law_2292 ?_
    refine X_iconst C dL_law_2293 ?_
    refine X_lald C ((jG_at (by decide)).trans hf) (by decide) (by decide) (by decide) hx dL_law_2294 ?_
    refine X_iload C rfl dL_law_2295 ?_
    refine X_i2lR C dL_law_2297 ?_
    refine X_lcmpR C dL_law_2298 ?_
    refine X_if_eq (tgt := 2304) C dL_law_2299 rfl rg0 (fun _ => ?_) (fun h => absurd rfl h)
    refine X_goto (tgt := 2605) C dL_law_2304 rfl ?_
    exact X_fg9 (X.widen (show cells + 12 + 0 + 0 ≤ cells + 40 by omega) (show slots + 224 + 0 + 0 ≤ slots + 400 by omega) (kk T ρ2 ad2 IT ho2))
