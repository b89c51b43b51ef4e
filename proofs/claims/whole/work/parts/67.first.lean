/-! the first heap is the picture of the first state -/
def iX8 (Y : Nat → ClassId) (ad2 : xL) (g : xG) : xG := xup (xup (xup (xup (xup (xup (xup (xup (xup (xup (xup (g) 1 (0) (.inl (Y 4, 3, .inr (.inr (.inr (.inr (fun _ => none))))))) 2 (0) (.inl (Y 5, 8, .inr (.inr (.inr (.inr (fun _ => none))))))) 3 (0) (.inl (Y 6, 6, .inr (.inr (.inr (.inr (fun _ => none))))))) 5 (0) (.inl (Y 0, 512, .inl (fun _ => iI 0)))) 6 (0) (.inl (Y 0, 512, .inl (fun _ => iI 0)))) 7 (0) (.inl (Y 0, 512, .inl (fun _ => iI 0)))) 8 (0) (.inl (Y 0, 512, .inl (fun _ => iI 0)))) 4 (0) (.inr (4, [.ref (ad2 5 (0)), .ref (ad2 6 (0)), .ref (ad2 7 (0)), .ref (ad2 8 (0)), .int (iI 0)]))) 10 (0) (.inl (Y 0, 32, .inl (fun _ => iI 0)))) 9 (0) (.inr (6, [.null, .int (iI 0), .int (iI 0), .int (iI 0), .ref (ad2 10 (0))]))) 0 (0) (.inr (9, [.ref (ad2 1 (0)), .int (iI 0), .ref (ad2 2 (0)), .int (iI 0), .ref (ad2 3 (0)), .int (iI 0), .ref (ad2 4 (0)), .ref (ad2 9 (0)), .int (iI 0), .int (iI 0), .int (iI 0)]))
def iX9 (Y : Nat → ClassId) (ad2 : xL) (g : xG) : xG := xup (xup (xup (xup (xup (xup (xup (xup (xup (xup (xup (xup (xup (xup (xup (xup (xup (xup (xup (xup (xup (xup (g) 21 (0) (.inl (Y 0, 240, .inl (fun _ => iI 0)))) 22 (0) (.inl (Y 0, 3, .inl (fun _ => iI 0)))) 23 (0) (.inl (Y 0, 3, .inl (fun _ => iI 0)))) 24 (0) (.inl (Y 0, 3, .inl (fun _ => iI 0)))) 25 (0) (.inl (Y 0, 240, .inl (fun _ => iI 0)))) 26 (0) (.inl (Y 0, 3, .inl (fun _ => iI 0)))) 27 (0) (.inl (Y 0, 3, .inl (fun _ => iI 0)))) 28 (0) (.inl (Y 0, 8, .inl (fun _ => iI 0)))) 29 (0) (.inl (Y 0, 8, .inl (fun _ => iI 0)))) 30 (0) (.inl (Y 0, 8, .inl (fun _ => iI 0)))) 31 (0) (.inl (Y 1, 8, .inl (fun _ => iI 0)))) 32 (0) (.inl (Y 0, 6, .inl (fun _ => iI 0)))) 33 (0) (.inl (Y 0, 6, .inl (fun _ => iI 0)))) 34 (0) (.inl (Y 0, 6, .inl (fun _ => iI 0)))) 35 (0) (.inl (Y 0, 6, .inl (fun _ => iI 0)))) 36 (0) (.inl (Y 0, 6, .inl (fun _ => iI 0)))) 37 (0) (.inl (Y 0, 18, .inl (fun _ => iI 0)))) 38 (0) (.inl (Y 0, 18, .inl (fun _ => iI 0)))) 39 (0) (.inl (Y 0, 576, .inl (fun _ => iI 0)))) 40 (0) (.inl (Y 0, 576, .inl (fun _ => iI 0)))) 41 (0) (.inl (Y 0, 32, .inl (fun _ => iI 0)))) 20 (0) (.inr (10, [.ref (ad2 21 (0)), .ref (ad2 22 (0)), .ref (ad2 23 (0)), .ref (ad2 24 (0)), .ref (ad2 25 (0)), .ref (ad2 26 (0)), .ref (ad2 27 (0)), .int (iI 0), .ref (ad2 28 (0)), .ref (ad2 29 (0)), .ref (ad2 30 (0)), .ref (ad2 31 (0)), .int (iI 0), .ref (ad2 32 (0)), .ref (ad2 33 (0)), .ref (ad2 34 (0)), .ref (ad2 35 (0)), .ref (ad2 36 (0)), .int (iI 0), .ref (ad2 37 (0)), .ref (ad2 38 (0)), .ref (ad2 39 (0)), .ref (ad2 40 (0)), .int (iI 0), .int (iI 0), .int (iI (-1)), .int (iI 0), .int (iI 0), .int (iI 0), .ref (ad2 41 (0)), .int (iI 0), .int (iI 0)]))
def e8 : va_E := (.inr (9, [.null, .int (iI 0), .null, .int (iI 0), .null, .int (iI 0), .null, .null, .int (iI 0), .int (iI 0), .int (iI 0)]))
def e9 : va_E := (.inr (10, [.null, .null, .null, .null, .null, .null, .null, .int (iI 0), .null, .null, .null, .null, .int (iI 0), .null, .null, .null, .null, .null, .int (iI 0), .null, .null, .null, .null, .int (iI 0), .int (iI 0), .int (iI 0), .int (iI 0), .int (iI 0), .int (iI 0), .null, .int (iI 0), .int (iI 0)]))
theorem st_0 {Y : Nat → ClassId} {ad : xL} : iX9 Y ad (xup (iX8 Y ad (xup (fun _ _ => none) 0 0 e8)) 20 0 e9) = jG Y t0 t0 (fun _ _ => none) ad := by
  funext k n
  by_cases hn : n = 0
  · subst hn
    by_cases h0 : k = 0
    · subst h0
      unfold iX9 iX8
      simp (discharger := decide) only [xup_n, xup_s]
      rfl
    by_cases h1 : k = 1
    · subst h1
      unfold iX9 iX8
      simp (discharger := decide) only [xup_n, xup_s]
      rw [show jG Y t0 t0 (fun _ _ => none) ad 1 0 = cG1 Y t0 ad 0 from rfl, cG1_l rfl]
      rw [show (fun j : Nat => if (j : Int) < t0 30 0 0 then some (ad 11 j) else none) = (fun _ => none) from by funext j; exact if_neg (by rw [t0_z (by decide)]; omega)]
    by_cases h2 : k = 2
    · subst h2
      unfold iX9 iX8
      simp (discharger := decide) only [xup_n, xup_s]
      rw [show jG Y t0 t0 (fun _ _ => none) ad 2 0 = cG2 Y t0 ad 0 from rfl, cG2_l rfl]
      rw [show (fun j : Nat => if (j : Int) < t0 31 0 0 then some (ad 14 j) else none) = (fun _ => none) from by funext j; exact if_neg (by rw [t0_z (by decide)]; omega)]
    by_cases h3 : k = 3
    · subst h3
      unfold iX9 iX8
      simp (discharger := decide) only [xup_n, xup_s]
      rw [show jG Y t0 t0 (fun _ _ => none) ad 3 0 = cG3 Y t0 ad 0 from rfl, cG3_l rfl]
      rw [show (fun j : Nat => if (j : Int) < t0 32 0 0 then some (ad 15 j) else none) = (fun _ => none) from by funext j; exact if_neg (by rw [t0_z (by decide)]; omega)]
    by_cases h4 : k = 4
    · subst h4
      unfold iX9 iX8
      simp (discharger := decide) only [xup_n, xup_s]
      rfl
    by_cases h5 : k = 5
    · subst h5
      unfold iX9 iX8
      simp (discharger := decide) only [xup_n, xup_s]
      rfl
    by_cases h6 : k = 6
    · subst h6
      unfold iX9 iX8
      simp (discharger := decide) only [xup_n, xup_s]
      rfl
    by_cases h7 : k = 7
    · subst h7
      unfold iX9 iX8
      simp (discharger := decide) only [xup_n, xup_s]
      rfl
    by_cases h8 : k = 8
    · subst h8
      unfold iX9 iX8
      simp (discharger := decide) only [xup_n, xup_s]
      rfl
    by_cases h9 : k = 9
    · subst h9
      unfold iX9 iX8
      simp (discharger := decide) only [xup_n, xup_s]
      rfl
    by_cases h10 : k = 10
    · subst h10
      unfold iX9 iX8
      simp (discharger := decide) only [xup_n, xup_s]
      rfl
    by_cases h11 : k = 11
    · subst h11
      unfold iX9 iX8
      simp (discharger := decide) only [xup_n, xup_s]
      exact (show cG11 Y t0 ad 0 = none from if_neg (by rw [t0_z (by decide)]; omega)).symm
    by_cases h12 : k = 12
    · subst h12
      unfold iX9 iX8
      simp (discharger := decide) only [xup_n, xup_s]
      exact (show cG12 Y t0 ad 0 = none from if_neg (by rw [t0_z (by decide)]; omega)).symm
    by_cases h13 : k = 13
    · subst h13
      unfold iX9 iX8
      simp (discharger := decide) only [xup_n, xup_s]
      exact (show cG13 Y t0 ad 0 = none from if_neg (by rw [t0_z (by decide)]; omega)).symm
    by_cases h14 : k = 14
    · subst h14
      unfold iX9 iX8
      simp (discharger := decide) only [xup_n, xup_s]
      exact (show cG14 Y t0 ad 0 = none from if_neg (by rw [t0_z (by decide)]; omega)).symm
    by_cases h15 : k = 15
    · subst h15
      unfold iX9 iX8
      simp (discharger := decide) only [xup_n, xup_s]
      exact (show cG15 Y t0 ad 0 = none from if_neg (by rw [t0_z (by decide)]; omega)).symm
    by_cases h16 : k = 16
    · subst h16
      unfold iX9 iX8
      simp (discharger := decide) only [xup_n, xup_s]
      exact (show cG16 Y t0 ad 0 = none from if_neg (by rw [t0_z (by decide)]; omega)).symm
    by_cases h17 : k = 17
    · subst h17
      unfold iX9 iX8
      simp (discharger := decide) only [xup_n, xup_s]
      exact (show cG17 Y t0 ad 0 = none from if_neg (by rw [t0_z (by decide)]; omega)).symm
    by_cases h18 : k = 18
    · subst h18
      unfold iX9 iX8
      simp (discharger := decide) only [xup_n, xup_s]
      exact (show cG18 Y t0 ad 0 = none from if_neg (by rw [t0_z (by decide)]; omega)).symm
    by_cases h19 : k = 19
    · subst h19
      unfold iX9 iX8
      simp (discharger := decide) only [xup_n, xup_s]
      exact (show cG19 Y t0 ad 0 = none from if_neg (by rw [t0_z (by decide)]; omega)).symm
    by_cases h20 : k = 20
    · subst h20
      unfold iX9 iX8
      simp (discharger := decide) only [xup_n, xup_s]
      rfl
    by_cases h21 : k = 21
    · subst h21
      unfold iX9 iX8
      simp (discharger := decide) only [xup_n, xup_s]
      rfl
    by_cases h22 : k = 22
    · subst h22
      unfold iX9 iX8
      simp (discharger := decide) only [xup_n, xup_s]
      rfl
    by_cases h23 : k = 23
    · subst h23
      unfold iX9 iX8
      simp (discharger := decide) only [xup_n, xup_s]
      rfl
    by_cases h24 : k = 24
    · subst h24
      unfold iX9 iX8
      simp (discharger := decide) only [xup_n, xup_s]
      rfl
    by_cases h25 : k = 25
    · subst h25
      unfold iX9 iX8
      simp (discharger := decide) only [xup_n, xup_s]
      rfl
    by_cases h26 : k = 26
    · subst h26
      unfold iX9 iX8
      simp (discharger := decide) only [xup_n, xup_s]
      rfl
    by_cases h27 : k = 27
    · subst h27
      unfold iX9 iX8
      simp (discharger := decide) only [xup_n, xup_s]
      rfl
    by_cases h28 : k = 28
    · subst h28
      unfold iX9 iX8
      simp (discharger := decide) only [xup_n, xup_s]
      rfl
    by_cases h29 : k = 29
    · subst h29
      unfold iX9 iX8
      simp (discharger := decide) only [xup_n, xup_s]
      rfl
    by_cases h30 : k = 30
    · subst h30
      unfold iX9 iX8
      simp (discharger := decide) only [xup_n, xup_s]
      rfl
    by_cases h31 : k = 31
    · subst h31
      unfold iX9 iX8
      simp (discharger := decide) only [xup_n, xup_s]
      rfl
    by_cases h32 : k = 32
    · subst h32
      unfold iX9 iX8
      simp (discharger := decide) only [xup_n, xup_s]
      rfl
    by_cases h33 : k = 33
    · subst h33
      unfold iX9 iX8
      simp (discharger := decide) only [xup_n, xup_s]
      rfl
    by_cases h34 : k = 34
    · subst h34
      unfold iX9 iX8
      simp (discharger := decide) only [xup_n, xup_s]
      rfl
    by_cases h35 : k = 35
    · subst h35
      unfold iX9 iX8
      simp (discharger := decide) only [xup_n, xup_s]
      rfl
    by_cases h36 : k = 36
    · subst h36
      unfold iX9 iX8
      simp (discharger := decide) only [xup_n, xup_s]
      rfl
    by_cases h37 : k = 37
    · subst h37
      unfold iX9 iX8
      simp (discharger := decide) only [xup_n, xup_s]
      rfl
    by_cases h38 : k = 38
    · subst h38
      unfold iX9 iX8
      simp (discharger := decide) only [xup_n, xup_s]
      rfl
    by_cases h39 : k = 39
    · subst h39
      unfold iX9 iX8
      simp (discharger := decide) only [xup_n, xup_s]
      rfl
    by_cases h40 : k = 40
    · subst h40
      unfold iX9 iX8
      simp (discharger := decide) only [xup_n, xup_s]
      rfl
    by_cases h41 : k = 41
    · subst h41
      unfold iX9 iX8
      simp (discharger := decide) only [xup_n, xup_s]
      rfl
    have z : ∀ (g : xG) (k2 : Nat) (e : va_E), k2 < 42 → xup g k2 0 e k 0 = g k 0 := fun g k2 e h => xup_n (fun q => by omega)
    unfold iX9 iX8
    simp (discharger := decide) only [z]
    show none = if k < 20 then cG Y t0 ad k 0 else if k < 42 then mG Y t0 ad (k - 20) 0 else none
    rw [if_neg (by omega), if_neg (by omega)]
  · have z : ∀ (g : xG) (k2 : Nat) (e : va_E), xup g k2 0 e k n = g k n := fun g k2 e => xup_n (fun q => hn q.2)
    unfold iX9 iX8
    simp only [z]
    by_cases h0 : k = 0
    · subst h0
      exact (show cG0 Y t0 ad n = none from if_neg hn).symm
    by_cases h1 : k = 1
    · subst h1
      exact (show cG1 Y t0 ad n = none from if_neg hn).symm
    by_cases h2 : k = 2
    · subst h2
      exact (show cG2 Y t0 ad n = none from if_neg hn).symm
    by_cases h3 : k = 3
    · subst h3
      exact (show cG3 Y t0 ad n = none from if_neg hn).symm
    by_cases h4 : k = 4
    · subst h4
      exact (show cG4 Y t0 ad n = none from if_neg hn).symm
    by_cases h5 : k = 5
    · subst h5
      exact (show cG5 Y t0 ad n = none from if_neg hn).symm
    by_cases h6 : k = 6
    · subst h6
      exact (show cG6 Y t0 ad n = none from if_neg hn).symm
    by_cases h7 : k = 7
    · subst h7
      exact (show cG7 Y t0 ad n = none from if_neg hn).symm
    by_cases h8 : k = 8
    · subst h8
      exact (show cG8 Y t0 ad n = none from if_neg hn).symm
    by_cases h9 : k = 9
    · subst h9
      exact (show cG9 Y t0 ad n = none from if_neg hn).symm
    by_cases h10 : k = 10
    · subst h10
      exact (show cG10 Y t0 ad n = none from if_neg hn).symm
    by_cases h11 : k = 11
    · subst h11
      exact (show cG11 Y t0 ad n = none from if_neg (by rw [t0_z (by decide)]; omega)).symm
    by_cases h12 : k = 12
    · subst h12
      exact (show cG12 Y t0 ad n = none from if_neg (by rw [t0_z (by decide)]; omega)).symm
    by_cases h13 : k = 13
    · subst h13
      exact (show cG13 Y t0 ad n = none from if_neg (by rw [t0_z (by decide)]; omega)).symm
    by_cases h14 : k = 14
    · subst h14
      exact (show cG14 Y t0 ad n = none from if_neg (by rw [t0_z (by decide)]; omega)).symm
    by_cases h15 : k = 15
    · subst h15
      exact (show cG15 Y t0 ad n = none from if_neg (by rw [t0_z (by decide)]; omega)).symm
    by_cases h16 : k = 16
    · subst h16
      exact (show cG16 Y t0 ad n = none from if_neg (by rw [t0_z (by decide)]; omega)).symm
    by_cases h17 : k = 17
    · subst h17
      exact (show cG17 Y t0 ad n = none from if_neg (by rw [t0_z (by decide)]; omega)).symm
    by_cases h18 : k = 18
    · subst h18
      exact (show cG18 Y t0 ad n = none from if_neg (by rw [t0_z (by decide)]; omega)).symm
    by_cases h19 : k = 19
    · subst h19
      exact (show cG19 Y t0 ad n = none from if_neg (by rw [t0_z (by decide)]; omega)).symm
    by_cases h20 : k = 20
    · subst h20
      exact (show mG20 Y t0 ad n = none from if_neg hn).symm
    by_cases h21 : k = 21
    · subst h21
      exact (show mG21 Y t0 ad n = none from if_neg hn).symm
    by_cases h22 : k = 22
    · subst h22
      exact (show mG22 Y t0 ad n = none from if_neg hn).symm
    by_cases h23 : k = 23
    · subst h23
      exact (show mG23 Y t0 ad n = none from if_neg hn).symm
    by_cases h24 : k = 24
    · subst h24
      exact (show mG24 Y t0 ad n = none from if_neg hn).symm
    by_cases h25 : k = 25
    · subst h25
      exact (show mG25 Y t0 ad n = none from if_neg hn).symm
    by_cases h26 : k = 26
    · subst h26
      exact (show mG26 Y t0 ad n = none from if_neg hn).symm
    by_cases h27 : k = 27
    · subst h27
      exact (show mG27 Y t0 ad n = none from if_neg hn).symm
    by_cases h28 : k = 28
    · subst h28
      exact (show mG28 Y t0 ad n = none from if_neg hn).symm
    by_cases h29 : k = 29
    · subst h29
      exact (show mG29 Y t0 ad n = none from if_neg hn).symm
    by_cases h30 : k = 30
    · subst h30
      exact (show mG30 Y t0 ad n = none from if_neg hn).symm
    by_cases h31 : k = 31
    · subst h31
      exact (show mG31 Y t0 ad n = none from if_neg hn).symm
    by_cases h32 : k = 32
    · subst h32
      exact (show mG32 Y t0 ad n = none from if_neg hn).symm
    by_cases h33 : k = 33
    · subst h33
      exact (show mG33 Y t0 ad n = none from if_neg hn).symm
    by_cases h34 : k = 34
    · subst h34
      exact (show mG34 Y t0 ad n = none from if_neg hn).symm
    by_cases h35 : k = 35
    · subst h35
      exact (show mG35 Y t0 ad n = none from if_neg hn).symm
    by_cases h36 : k = 36
    · subst h36
      exact (show mG36 Y t0 ad n = none from if_neg hn).symm
    by_cases h37 : k = 37
    · subst h37
      exact (show mG37 Y t0 ad n = none from if_neg hn).symm
    by_cases h38 : k = 38
    · subst h38
      exact (show mG38 Y t0 ad n = none from if_neg hn).symm
    by_cases h39 : k = 39
    · subst h39
      exact (show mG39 Y t0 ad n = none from if_neg hn).symm
    by_cases h40 : k = 40
    · subst h40
      exact (show mG40 Y t0 ad n = none from if_neg hn).symm
    by_cases h41 : k = 41
    · subst h41
      exact (show mG41 Y t0 ad n = none from if_neg hn).symm
    show none = if k < 20 then cG Y t0 ad k n else if k < 42 then mG Y t0 ad (k - 20) n else none
    rw [if_neg (by omega), if_neg (by omega)]
