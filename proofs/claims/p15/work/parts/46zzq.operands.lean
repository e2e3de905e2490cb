
theorem M_oq0 {F0 F1 F2 F3 F4 : Int → Int} {N0 N1 N2 : Int} (H0 : N0 ≤ 0) : eOpq (F0) (F1) (F2) (F3) (F4) (N0) (N1) (N2) := by
  intro j a b c; omega
theorem M_oqW00 {F0 F1 F2 F3 F4 F5 : Int → Int} {N0 N1 N2 N3 N4 : Int} (H0 : ∀ x : Int, F5 x = if x = N3 then N4 else F0 x) (H1 : eOpq (F0) (F1) (F2) (F3) (F4) (N0) (N1) (N2)) (H2 : N0 ≤ N3) : eOpq (F5) (F1) (F2) (F3) (F4) (N0) (N1) (N2) := by
  intro j a b c
  have e : F5 j = F0 j := by rw [H0 j, if_neg (by omega)]
  rw [e]; exact H1 j a b c
theorem M_oqW01 {F0 F1 F2 F3 F4 F5 : Int → Int} {N0 N1 N2 N3 N4 : Int} (H0 : ∀ x : Int, F5 x = if x = N3 then N4 else F0 x) (H1 : eOpq (F0) (F1) (F2) (F3) (F4) (N0) (N1) (N2)) (H2 : 3 ≤ N3) : eOpq (F5) (F1) (F2) (F3) (F4) (N0) (N1) (N2) := by
  intro j a b c
  have e : F5 j = F0 j := by rw [H0 j, if_neg (by omega)]
  rw [e]; exact H1 j a b c
theorem M_oqW10 {F0 F1 F2 F3 F4 F5 : Int → Int} {N0 N1 N2 N3 N4 : Int} (H0 : ∀ x : Int, F5 x = if x = N3 then N4 else F1 x) (H1 : eOpq (F0) (F1) (F2) (F3) (F4) (N0) (N1) (N2)) (H2 : N0 ≤ N3) : eOpq (F0) (F5) (F2) (F3) (F4) (N0) (N1) (N2) := by
  intro j a b c
  have e : F5 j = F1 j := by rw [H0 j, if_neg (by omega)]
  rw [e]; exact H1 j a b c
theorem M_oqW11 {F0 F1 F2 F3 F4 F5 : Int → Int} {N0 N1 N2 N3 N4 : Int} (H0 : ∀ x : Int, F5 x = if x = N3 then N4 else F1 x) (H1 : eOpq (F0) (F1) (F2) (F3) (F4) (N0) (N1) (N2)) (H2 : 3 ≤ N3) : eOpq (F0) (F5) (F2) (F3) (F4) (N0) (N1) (N2) := by
  intro j a b c
  have e : F5 j = F1 j := by rw [H0 j, if_neg (by omega)]
  rw [e]; exact H1 j a b c
theorem M_oqW20 {F0 F1 F2 F3 F4 F5 : Int → Int} {N0 N1 N2 N3 N4 : Int} (H0 : ∀ x : Int, F5 x = if x = N3 then N4 else F2 x) (H1 : eOpq (F0) (F1) (F2) (F3) (F4) (N0) (N1) (N2)) (H2 : N0 ≤ N3) : eOpq (F0) (F1) (F5) (F3) (F4) (N0) (N1) (N2) := by
  intro j a b c
  have e : F5 j = F2 j := by rw [H0 j, if_neg (by omega)]
  rw [e]; exact H1 j a b c
theorem M_oqW21 {F0 F1 F2 F3 F4 F5 : Int → Int} {N0 N1 N2 N3 N4 : Int} (H0 : ∀ x : Int, F5 x = if x = N3 then N4 else F2 x) (H1 : eOpq (F0) (F1) (F2) (F3) (F4) (N0) (N1) (N2)) (H2 : 3 ≤ N3) : eOpq (F0) (F1) (F5) (F3) (F4) (N0) (N1) (N2) := by
  intro j a b c
  have e : F5 j = F2 j := by rw [H0 j, if_neg (by omega)]
  rw [e]; exact H1 j a b c
theorem M_oqE1 {F0 F1 F2 F3 F4 : Int → Int} {N0 N1 N2 N3 : Int} (H0 : N3 = N0 + -1) (H1 : eOpq (F0) (F1) (F2) (F3) (F4) (N3) (N1) (N2)) (H2 : 3 ≤ N3) : eOpq (F0) (F1) (F2) (F3) (F4) (N0) (N1) (N2) := by
  intro j a b c; exact H1 j a (by omega) c
theorem M_oqM {F0 F1 F2 F3 F4 : Int → Int} {N0 N1 N2 N3 N4 N5 N6 N7 N8 : Int} (H0 : eOpq (F0) (F1) (F2) (F3) (F4) (N0) (N1) (N2)) (H1 : F0 N3 = N4) (H2 : 0 ≤ N3) (H3 : N3 + 1 ≤ N0) (H4 : N3 ≤ 2) (H5 : F1 N3 = N5) (H6 : F2 N3 = N6) (H7 : N4 = 2) (H8 : N7 = N5 + 1) (H9 : N8 = N6 + -1) : (ePad (F3) (F4) (N7) (N8) (N1) (N2)) ∧ (0 ≤ N5) ∧ (N6 ≤ N1) ∧ (N5 + 3 ≤ N6) := by
  have q := (H0 N3 H2 (by omega) H4).1 (by omega)
  rw [H5, H6] at q
  exact ⟨by rw [show N7 = N5 + 1 by omega, show N8 = N6 - 1 by omega]; exact q.1, q.2⟩
theorem M_oqV {F0 F1 F2 F3 F4 : Int → Int} {N0 N1 N2 N3 N4 N5 N6 : Int} (H0 : eOpq (F0) (F1) (F2) (F3) (F4) (N0) (N1) (N2)) (H1 : F0 N3 = N4) (H2 : 0 ≤ N3) (H3 : N3 + 1 ≤ N0) (H4 : N3 ≤ 2) (H5 : F1 N3 = N5) (H6 : F2 N3 = N6) (H7 : N4 = 3) : (RunT (F3) (F4) (N5) (N6) 0 0) ∧ (0 ≤ N5) ∧ (N6 ≤ N1) ∧ (N5 + 1 ≤ N6) := by
  have q := (H0 N3 H2 (by omega) H4).2 (by omega)
  rw [H5, H6] at q
  exact q
theorem M_sk1 {F0 F1 : Int → Int} {N0 N1 N2 N3 : Int} (H0 : dEv 1031 [(F0)] [(N0), (N2)] = some (N3)) (H1 : N3 ≤ 0) (H2 : N1 = N0) : eSk (F0) (F1) (N0) (N1) (N2) := by
  exact Or.inl ⟨⟨N3, H0, H1⟩, H2⟩
theorem M_sk2 {F0 F1 : Int → Int} {N0 N1 N2 N3 N4 N5 N6 N7 N8 : Int} (H0 : dEv 1031 [(F0)] [(N0), (N2)] = some (N3)) (H1 : 1 ≤ N3) (H2 : F1 N0 = N4) (H3 : dEv 1029 [] [(N4), (N5), (N6), (N7)] = some (N8)) (H4 : N5 = 1652126821) (H5 : N6 = 431500522084) (H6 : N7 = 487335096932) (H7 : N8 ≤ 0) (H8 : N1 = N0) : eSk (F0) (F1) (N0) (N1) (N2) := by
  subst H2 H4 H5 H6
  exact Or.inr ⟨⟨N3, H0, H1⟩, N8, H3, Or.inl ⟨H7, H8⟩⟩
theorem M_sk3 {F0 F1 : Int → Int} {N0 N1 N2 N3 N4 N5 N6 N7 N8 : Int} (H0 : dEv 1031 [(F0)] [(N0), (N2)] = some (N3)) (H1 : 1 ≤ N3) (H2 : F1 N0 = N4) (H3 : dEv 1029 [] [(N4), (N5), (N6), (N7)] = some (N8)) (H4 : N5 = 1652126821) (H5 : N6 = 431500522084) (H6 : N7 = 487335096932) (H7 : 1 ≤ N8) (H8 : N1 = N0 + 1) : eSk (F0) (F1) (N0) (N1) (N2) := by
  subst H2 H4 H5 H6
  exact Or.inr ⟨⟨N3, H0, H1⟩, N8, H3, Or.inr ⟨H7, H8⟩⟩
theorem M_oo1 {F0 F1 : Int → Int} {N0 N1 N2 N3 N4 N5 N6 N7 N8 : Int} (H0 : dEv 1032 [(F0), (F1)] [(N0), (N4), (N2)] = some (N5)) (H1 : N4 = 91) (H2 : 1 ≤ N5) (H3 : N6 = N0 + 1) (H4 : dEv 1025 [(F0), (F1)] [(N6), (N2)] = some (N7)) (H5 : N7 = N1) (H6 : N8 = N1 + -1) (H7 : ePad (F0) (F1) (N6) (N8) (N2) (N3)) (H8 : N0 + 3 ≤ N1) (H9 : N1 ≤ N2) : eOo (F0) (F1) (N0) (N1) (N2) (N3) := by
  subst H1 H3
  exact Or.inl ⟨⟨N5, H0, H2⟩, by rw [← H5]; exact H4, by rw [show N1 - 1 = N8 by omega]; exact H7, H8, H9⟩
theorem M_oo2 {F0 F1 : Int → Int} {N0 N1 N2 N3 N4 N5 N6 N7 N8 : Int} (H0 : dEv 1032 [(F0), (F1)] [(N0), (N4), (N2)] = some (N5)) (H1 : N4 = 91) (H2 : N5 ≤ 0) (H3 : dEv 1031 [(F0)] [(N0), (N2)] = some (N6)) (H4 : 1 ≤ N6) (H5 : F1 N0 = N7) (H6 : dEv 1027 [] [(N7)] = some (N8)) (H7 : 0 ≤ N8) (H8 : N1 = N0 + 1) (H9 : N1 ≤ N2) : eOo (F0) (F1) (N0) (N1) (N2) (N3) := by
  subst H1 H5
  exact Or.inr ⟨⟨N5, H0, H2⟩, H9, by omega, Or.inl ⟨⟨N6, H3, H4⟩, ⟨N8, H6, H7⟩, H8⟩⟩
theorem M_oo3 {F0 F1 : Int → Int} {N0 N1 N2 N3 N4 N5 N6 N7 N8 N9 N10 : Int} (H0 : dEv 1032 [(F0), (F1)] [(N0), (N4), (N2)] = some (N5)) (H1 : N4 = 91) (H2 : N5 ≤ 0) (H3 : dEv 1031 [(F0)] [(N0), (N2)] = some (N6)) (H4 : N6 ≤ 0) (H5 : dEv 1023 [(F0), (F1)] [(N0), (N9), (N2)] = some (N10)) (H6 : N9 = 0) (H7 : N10 = N1) (H8 : RunT (F0) (F1) (N0) (N1) 0 0) (H9 : N1 ≤ N2) (H10 : N0 + 1 ≤ N1) : eOo (F0) (F1) (N0) (N1) (N2) (N3) := by
  subst H1 H6
  exact Or.inr ⟨⟨N5, H0, H2⟩, H9, H10, Or.inr ⟨Or.inl ⟨N6, H3, H4⟩, by rw [← H7]; exact H5, H8⟩⟩
theorem M_oo4 {F0 F1 : Int → Int} {N0 N1 N2 N3 N4 N5 N6 N7 N8 N9 N10 : Int} (H0 : dEv 1032 [(F0), (F1)] [(N0), (N4), (N2)] = some (N5)) (H1 : N4 = 91) (H2 : N5 ≤ 0) (H3 : dEv 1031 [(F0)] [(N0), (N2)] = some (N6)) (H4 : 1 ≤ N6) (H5 : F1 N0 = N7) (H6 : dEv 1027 [] [(N7)] = some (N8)) (H7 : N8 + 1 ≤ 0) (H8 : dEv 1023 [(F0), (F1)] [(N0), (N9), (N2)] = some (N10)) (H9 : N9 = 0) (H10 : N10 = N1) (H11 : RunT (F0) (F1) (N0) (N1) 0 0) (H12 : N1 ≤ N2) (H13 : N0 + 1 ≤ N1) : eOo (F0) (F1) (N0) (N1) (N2) (N3) := by
  subst H1 H5 H9
  exact Or.inr ⟨⟨N5, H0, H2⟩, H12, H13, Or.inr ⟨Or.inr ⟨⟨N6, H3, H4⟩, N8, H6, by omega⟩, by rw [← H10]; exact H8, H11⟩⟩
theorem M_ox0 {F0 F1 F2 : Int → Int} {N0 N1 N2 N3 : Int} (H0 : N0 ≤ 2) : eOpx (F0) (F1) (F2) (N0) (N1) (N2) (N3) := by
  exact Or.inl H0
theorem M_ox1 {F0 F1 F2 : Int → Int} {N0 N1 N2 N3 N4 N5 : Int} (H0 : N4 = 2) (H1 : F0 N4 = N5) (H2 : N5 = N1 + -1) : eOpx (F0) (F1) (F2) (N0) (N1) (N2) (N3) := by
  subst H0; exact Or.inr ⟨0, show F0 2 + 1 = N1 by omega⟩
theorem M_oxS {F0 F1 F2 : Int → Int} {N0 N1 N2 N3 N4 N5 N6 N7 : Int} (H0 : eOpx (F0) (F1) (F2) (N4) (N5) (N2) (N3)) (H1 : 3 ≤ N4) (H2 : eSk (F1) (F2) (N5) (N6) (N2)) (H3 : N7 = N1 + -1) (H4 : eOo (F1) (F2) (N6) (N7) (N2) (N3)) : eOpx (F0) (F1) (F2) (N0) (N1) (N2) (N3) := by
  obtain ⟨k, h⟩ := eOpx_no H0 H1
  exact Or.inr ⟨k + 1, N5, h, N6, H2, by rw [show N1 - 1 = N7 by omega]; exact H4⟩
theorem M_oxW {F0 F1 F2 F3 : Int → Int} {N0 N1 N2 N3 N4 N5 : Int} (H0 : ∀ x : Int, F3 x = if x = N4 then N5 else F0 x) (H1 : eOpx (F0) (F1) (F2) (N0) (N1) (N2) (N3)) (H2 : 3 ≤ N4) : eOpx (F3) (F1) (F2) (N0) (N1) (N2) (N3) := by
  rcases H1 with h | ⟨k, h⟩
  · exact Or.inl h
  · exact Or.inr ⟨k, by rw [H0 2, if_neg (by omega)]; exact h⟩
theorem M_fo1 {F0 F1 F2 : Int → Int} {N0 N1 N2 N3 N4 N5 N6 N7 N8 N9 N10 N11 : Int} (H0 : eOpx (F0) (F1) (F2) (N0) (N1) (N2) (N3)) (H1 : 3 ≤ N0) (H2 : eOpx (F0) (F1) (F2) (N4) (N5) (N2) (N3)) (H3 : 3 ≤ N4) (H4 : N1 + 1 ≤ N5) (H5 : N1 + 1 ≤ N2) (H6 : dEv 1032 [(F1), (F2)] [(N6), (N7), (N2)] = some (N8)) (H7 : N7 = 91) (H8 : eSk (F1) (F2) (N1) (N6) (N2)) (H9 : 1 ≤ N8) (H10 : N9 = N6 + 1) (H11 : dEv 1025 [(F1), (F2)] [(N9), (N2)] = some (N10)) (H12 : N11 = N10 + -1) : (ePad (F1) (F2) (N9) (N11) (N2) (N3)) ∧ (N6 + 3 ≤ N10) ∧ (N10 ≤ N2) ∧ (N10 + 1 ≤ N5) := by
  obtain ⟨x, h1, h2⟩ := eOpx_next H0 H1 H2 H3 H4 H8
  subst H7
  subst H10
  rcases h1 with ⟨-, h3, h4, h5, h6⟩ | ⟨⟨s, a1, a2⟩, -⟩
  · have e := eDv h3 H11
    subst e; exact ⟨by rw [show N11 = x - 1 by omega]; exact h4, by omega, h6, by omega⟩
  · have := eDv a1 H6; omega
theorem M_fo2 {F0 F1 F2 : Int → Int} {N0 N1 N2 N3 N4 N5 N6 N7 N8 N9 N10 N11 : Int} (H0 : eOpx (F0) (F1) (F2) (N0) (N1) (N2) (N3)) (H1 : 3 ≤ N0) (H2 : eOpx (F0) (F1) (F2) (N4) (N5) (N2) (N3)) (H3 : 3 ≤ N4) (H4 : N1 + 1 ≤ N5) (H5 : N1 + 1 ≤ N2) (H6 : dEv 1032 [(F1), (F2)] [(N6), (N7), (N2)] = some (N8)) (H7 : N7 = 91) (H8 : eSk (F1) (F2) (N1) (N6) (N2)) (H9 : N8 ≤ 0) (H10 : dEv 1031 [(F1)] [(N6), (N2)] = some (N9)) (H11 : N9 ≤ 0) (H12 : dEv 1023 [(F1), (F2)] [(N6), (N10), (N2)] = some (N11)) (H13 : N10 = 0) : (N6 + 1 ≤ N11) ∧ (N11 ≤ N2) ∧ (N11 + 1 ≤ N5) := by
  obtain ⟨x, h1, h2⟩ := eOpx_next H0 H1 H2 H3 H4 H8
  subst H7
  rcases h1 with ⟨⟨s, a1, a2⟩, -⟩ | ⟨-, h5, h6, h7⟩
  · have := eDv a1 H6; omega
  subst H13
  rcases h7 with ⟨⟨r, b1, b2⟩, -⟩ | ⟨-, h8, -⟩
  · have := eDv b1 H10; omega
  · have := eDv h8 H12; omega
theorem M_fo3 {F0 F1 F2 : Int → Int} {N0 N1 N2 N3 N4 N5 N6 N7 N8 N9 N10 N11 N12 N13 : Int} (H0 : eOpx (F0) (F1) (F2) (N0) (N1) (N2) (N3)) (H1 : 3 ≤ N0) (H2 : eOpx (F0) (F1) (F2) (N4) (N5) (N2) (N3)) (H3 : 3 ≤ N4) (H4 : N1 + 1 ≤ N5) (H5 : N1 + 1 ≤ N2) (H6 : dEv 1032 [(F1), (F2)] [(N6), (N7), (N2)] = some (N8)) (H7 : N7 = 91) (H8 : eSk (F1) (F2) (N1) (N6) (N2)) (H9 : N8 ≤ 0) (H10 : dEv 1031 [(F1)] [(N6), (N2)] = some (N9)) (H11 : 1 ≤ N9) (H12 : F2 N6 = N12) (H13 : dEv 1027 [] [(N12)] = some (N13)) (H14 : N13 + 1 ≤ 0) (H15 : dEv 1023 [(F1), (F2)] [(N6), (N10), (N2)] = some (N11)) (H16 : N10 = 0) : (N6 + 1 ≤ N11) ∧ (N11 ≤ N2) ∧ (N11 + 1 ≤ N5) := by
  obtain ⟨x, h1, h2⟩ := eOpx_next H0 H1 H2 H3 H4 H8
  subst H7
  rcases h1 with ⟨⟨s, a1, a2⟩, -⟩ | ⟨-, h5, h6, h7⟩
  · have := eDv a1 H6; omega
  subst H12 H16
  rcases h7 with ⟨-, ⟨q, b1, b2⟩, -⟩ | ⟨-, h8, -⟩
  · have := eDv b1 H13; omega
  · have := eDv h8 H15; omega
theorem M_fo4 {F0 F1 F2 : Int → Int} {N0 N1 N2 N3 N4 N5 N6 N7 N8 N9 N10 N11 N12 N13 : Int} (H0 : eOpx (F0) (F1) (F2) (N0) (N1) (N2) (N3)) (H1 : 3 ≤ N0) (H2 : eOpx (F0) (F1) (F2) (N4) (N5) (N2) (N3)) (H3 : 3 ≤ N4) (H4 : N1 + 1 ≤ N5) (H5 : N1 + 1 ≤ N2) (H6 : dEv 1032 [(F1), (F2)] [(N6), (N7), (N2)] = some (N8)) (H7 : N7 = 91) (H8 : eSk (F1) (F2) (N1) (N6) (N2)) (H9 : N8 ≤ 0) (H10 : dEv 1031 [(F1)] [(N6), (N2)] = some (N9)) (H11 : 1 ≤ N9) (H12 : F2 N6 = N12) (H13 : dEv 1027 [] [(N12)] = some (N13)) (H14 : 0 ≤ N13) : (N6 + 1 ≤ N2) ∧ (N6 + 2 ≤ N5) := by
  obtain ⟨x, h1, h2⟩ := eOpx_next H0 H1 H2 H3 H4 H8
  subst H7
  rcases h1 with ⟨⟨s, a1, a2⟩, -⟩ | ⟨-, h5, h6, h7⟩
  · have := eDv a1 H6; omega
  subst H12
  rcases h7 with ⟨-, -, h8⟩ | ⟨h8, -, -⟩
  · omega
  · rcases h8 with ⟨r, b1, b2⟩ | ⟨-, q, b1, b2⟩
    · have := eDv b1 H10; omega
    · have := eDv b1 H13; omega
theorem M_opG {F0 F1 F2 F3 : Int → Int} {N0 N1 N2 N3 : Int} (H0 : N1 + 1 ≤ 0) : eOpp (F0) (F1) (F2) (F3) (N0) (N1) (N2) (N3) := by
  exact Or.inl (by omega)
theorem M_op1 {F0 F1 F2 F3 : Int → Int} {N0 N1 N2 N3 N4 : Int} (H0 : F0 N0 = N4) (H1 : N4 = 1) : eOpp (F0) (F1) (F2) (F3) (N0) (N1) (N2) (N3) := by
  exact Or.inr (Or.inl (by omega))
theorem M_op2 {F0 F1 F2 F3 : Int → Int} {N0 N1 N2 N3 N4 N5 : Int} (H0 : F0 N0 = N4) (H1 : N4 = 3) (H2 : F1 N0 = N5) (H3 : RunT (F2) (F3) (N5) (N1) 0 0) (H4 : 0 ≤ N5) (H5 : N1 ≤ N2) (H6 : N5 + 1 ≤ N1) : eOpp (F0) (F1) (F2) (F3) (N0) (N1) (N2) (N3) := by
  subst H2
  exact Or.inr (Or.inr (Or.inl ⟨by omega, H3, H4, H5, H6⟩))
theorem M_op3 {F0 F1 F2 F3 : Int → Int} {N0 N1 N2 N3 N4 N5 N6 N7 : Int} (H0 : F0 N0 = N4) (H1 : N4 = 2) (H2 : F1 N0 = N5) (H3 : N6 = N5 + 1) (H4 : N7 = N1 + -1) (H5 : ePad (F2) (F3) (N6) (N7) (N2) (N3)) (H6 : 0 ≤ N5) (H7 : N1 ≤ N2) (H8 : N5 + 3 ≤ N1) : eOpp (F0) (F1) (F2) (F3) (N0) (N1) (N2) (N3) := by
  exact Or.inr (Or.inr (Or.inr ⟨by omega, by rw [show F1 N0 + 1 = N6 by omega, show N1 - 1 = N7 by omega]; exact H5, by omega, H7, by omega⟩))
theorem M_oqE5 {F0 F1 F2 F3 F4 : Int → Int} {N0 N1 N2 N3 N4 N5 : Int} (H0 : N3 = N0 + -1) (H1 : eOpq (F0) (F1) (F2) (F3) (F4) (N3) (N1) (N2)) (H2 : F2 N3 = N4) (H3 : 0 ≤ N4) (H4 : eOpp (F0) (F1) (F3) (F4) (N5) (N4) (N1) (N2)) (H5 : N5 = N3) : eOpq (F0) (F1) (F2) (F3) (F4) (N0) (N1) (N2) := by
  intro j a b c
  by_cases d : j = N3
  · rw [d]
    rw [H5] at H4
    rcases H4 with h | h | ⟨h, h2⟩ | ⟨h, h2⟩
    · omega
    · exact ⟨fun e => by exfalso; omega, fun e => by exfalso; omega⟩
    · exact ⟨fun e => by exfalso; omega, fun _ => by rw [H2]; exact h2⟩
    · exact ⟨fun _ => by rw [H2]; exact h2, fun e => by exfalso; omega⟩
  · exact H1 j a (by omega) c
theorem M_oy0 {F0 F1 F2 F3 : Int → Int} {N0 N1 N2 N3 : Int} (H0 : N0 ≤ 2) : eOpy (F0) (F1) (F2) (F3) (N0) (N1) (N2) (N3) := by
  exact Or.inl H0
theorem M_oyS {F0 F1 F2 F3 : Int → Int} {N0 N1 N2 N3 N4 N5 N6 : Int} (H0 : eOpx (F1) (F2) (F3) (N4) (N5) (N2) (N3)) (H1 : 3 ≤ N4) (H2 : F0 N1 = N6) (H3 : eSk (F2) (F3) (N5) (N6) (N2)) : eOpy (F0) (F1) (F2) (F3) (N0) (N1) (N2) (N3) := by
  obtain ⟨k, h⟩ := eOpx_no H0 H1
  exact Or.inr ⟨k, N5, h, by rw [H2]; exact H3⟩
theorem M_oz0 {F0 F1 F2 : Int → Int} {N0 N1 N2 N3 : Int} (H0 : N1 + 1 ≤ 0) : eOoy (F0) (F1) (F2) (N0) (N1) (N2) (N3) := by
  exact Or.inl (by omega)
theorem M_oz1 {F0 F1 F2 : Int → Int} {N0 N1 N2 N3 N4 : Int} (H0 : F0 N0 = N4) (H1 : eOo (F1) (F2) (N4) (N1) (N2) (N3)) : eOoy (F0) (F1) (F2) (N0) (N1) (N2) (N3) := by
  exact Or.inr (by rw [H0]; exact H1)
theorem M_oxT {F0 F1 F2 F3 : Int → Int} {N0 N1 N2 N3 N4 N5 N6 : Int} (H0 : N4 = N1 + -1) (H1 : eOpy (F3) (F0) (F1) (F2) (N5) (N6) (N2) (N3)) (H2 : 3 ≤ N5) (H3 : eOoy (F3) (F1) (F2) (N6) (N4) (N2) (N3)) (H4 : 0 ≤ N4) : eOpx (F0) (F1) (F2) (N0) (N1) (N2) (N3) := by
  rcases H1 with h | ⟨k, x, h1, h2⟩
  · omega
  rcases H3 with h3 | h3
  · omega
  exact Or.inr ⟨k + 1, x, h1, F3 N6, h2, by rw [show N1 - 1 = N4 by omega]; exact h3⟩
/-! OPERANDS: the rules (written by wip/p2/grp.py) -/
section
variable {fs : List (Int → Int)} {zs : List Int}
theorem s_opq {a0 a1 a2 a3 a4 i0 i1 i2 : Nat} : SnOk fs zs (1064, [5, a0, a1, a2, a3, a4, i0, i1, i2], []) ↔ eOpq (nthF fs a0) (nthF fs a1) (nthF fs a2) (nthF fs a3) (nthF fs a4) (nthZ zs i0) (nthZ zs i1) (nthZ zs i2) := Iff.rfl
theorem s_sk {a0 a1 i0 i1 i2 : Nat} : SnOk fs zs (1065, [2, a0, a1, i0, i1, i2], []) ↔ eSk (nthF fs a0) (nthF fs a1) (nthZ zs i0) (nthZ zs i1) (nthZ zs i2) := Iff.rfl
theorem s_oo {a0 a1 i0 i1 i2 i3 : Nat} : SnOk fs zs (1066, [2, a0, a1, i0, i1, i2, i3], []) ↔ eOo (nthF fs a0) (nthF fs a1) (nthZ zs i0) (nthZ zs i1) (nthZ zs i2) (nthZ zs i3) := Iff.rfl
theorem s_opx {a0 a1 a2 i0 i1 i2 i3 : Nat} : SnOk fs zs (1067, [3, a0, a1, a2, i0, i1, i2, i3], []) ↔ eOpx (nthF fs a0) (nthF fs a1) (nthF fs a2) (nthZ zs i0) (nthZ zs i1) (nthZ zs i2) (nthZ zs i3) := Iff.rfl
theorem s_opp {a0 a1 a2 a3 i0 i1 i2 i3 : Nat} : SnOk fs zs (1068, [4, a0, a1, a2, a3, i0, i1, i2, i3], []) ↔ eOpp (nthF fs a0) (nthF fs a1) (nthF fs a2) (nthF fs a3) (nthZ zs i0) (nthZ zs i1) (nthZ zs i2) (nthZ zs i3) := Iff.rfl
theorem s_opy {a0 a1 a2 a3 i0 i1 i2 i3 : Nat} : SnOk fs zs (1069, [4, a0, a1, a2, a3, i0, i1, i2, i3], []) ↔ eOpy (nthF fs a0) (nthF fs a1) (nthF fs a2) (nthF fs a3) (nthZ zs i0) (nthZ zs i1) (nthZ zs i2) (nthZ zs i3) := Iff.rfl
theorem s_ooy {a0 a1 a2 i0 i1 i2 i3 : Nat} : SnOk fs zs (1070, [3, a0, a1, a2, i0, i1, i2, i3], []) ↔ eOoy (nthF fs a0) (nthF fs a1) (nthF fs a2) (nthZ zs i0) (nthZ zs i1) (nthZ zs i2) (nthZ zs i3) := Iff.rfl
end
def q_oq0 : qRl := ([sp 0 [(0, (-1))], sp 0 [], sp 0 []], [(1064, [5, 0, 1, 2, 3, 4, 0, 1, 2], [])])
theorem q_oq0_ok : RlOk q_oq0 := by
  intro fs zs h x hx
  obtain ⟨P0, h⟩ := snAll h
  replace P0 := sp_1.mp P0
  obtain ⟨P1, h⟩ := snAll h
  replace P1 := sp_0.mp P1
  obtain ⟨P2, h⟩ := snAll h
  replace P2 := sp_0.mp P2
  have L : eOpq ((nthF fs 0)) ((nthF fs 1)) ((nthF fs 2)) ((nthF fs 3)) ((nthF fs 4)) ((nthZ zs 0)) ((nthZ zs 1)) ((nthZ zs 2)) := by
    apply M_oq0 (F0 := nthF fs 0) (F1 := nthF fs 1) (F2 := nthF fs 2) (F3 := nthF fs 3) (F4 := nthF fs 4) (N0 := nthZ zs 0) (N1 := nthZ zs 1) (N2 := nthZ zs 2) <;> first | assumption | omega
  rcases List.mem_cons.mp hx with hx | hx
  · rw [hx]; refine s_opq.mpr ?_; exact L
  · cases hx
def q_oqW00 : qRl := ([(2, [5, 0, 3, 4], []), (1064, [5, 0, 1, 2, 3, 4, 0, 1, 2], []), sp 0 [(3, 1), (0, (-1))]], [(1064, [5, 5, 1, 2, 3, 4, 0, 1, 2], [])])
theorem q_oqW00_ok : RlOk q_oqW00 := by
  intro fs zs h x hx
  obtain ⟨P0, h⟩ := snAll h
  replace P0 := s_wr.mp P0
  obtain ⟨P1, h⟩ := snAll h
  replace P1 := s_opq.mp P1
  obtain ⟨P2, h⟩ := snAll h
  replace P2 := sp_2.mp P2
  have L : eOpq ((nthF fs 5)) ((nthF fs 1)) ((nthF fs 2)) ((nthF fs 3)) ((nthF fs 4)) ((nthZ zs 0)) ((nthZ zs 1)) ((nthZ zs 2)) := by
    apply M_oqW00 (F0 := nthF fs 0) (F1 := nthF fs 1) (F2 := nthF fs 2) (F3 := nthF fs 3) (F4 := nthF fs 4) (F5 := nthF fs 5) (N0 := nthZ zs 0) (N1 := nthZ zs 1) (N2 := nthZ zs 2) (N3 := nthZ zs 3) (N4 := nthZ zs 4) <;> first | assumption | omega
  rcases List.mem_cons.mp hx with hx | hx
  · rw [hx]; refine s_opq.mpr ?_; exact L
  · cases hx
def q_oqW01 : qRl := ([(2, [5, 0, 3, 4], []), (1064, [5, 0, 1, 2, 3, 4, 0, 1, 2], []), sp (-3) [(3, 1)]], [(1064, [5, 5, 1, 2, 3, 4, 0, 1, 2], [])])
theorem q_oqW01_ok : RlOk q_oqW01 := by
  intro fs zs h x hx
  obtain ⟨P0, h⟩ := snAll h
  replace P0 := s_wr.mp P0
  obtain ⟨P1, h⟩ := snAll h
  replace P1 := s_opq.mp P1
  obtain ⟨P2, h⟩ := snAll h
  replace P2 := sp_1.mp P2
  have L : eOpq ((nthF fs 5)) ((nthF fs 1)) ((nthF fs 2)) ((nthF fs 3)) ((nthF fs 4)) ((nthZ zs 0)) ((nthZ zs 1)) ((nthZ zs 2)) := by
    apply M_oqW01 (F0 := nthF fs 0) (F1 := nthF fs 1) (F2 := nthF fs 2) (F3 := nthF fs 3) (F4 := nthF fs 4) (F5 := nthF fs 5) (N0 := nthZ zs 0) (N1 := nthZ zs 1) (N2 := nthZ zs 2) (N3 := nthZ zs 3) (N4 := nthZ zs 4) <;> first | assumption | omega
  rcases List.mem_cons.mp hx with hx | hx
  · rw [hx]; refine s_opq.mpr ?_; exact L
  · cases hx
def q_oqW10 : qRl := ([(2, [5, 1, 3, 4], []), (1064, [5, 0, 1, 2, 3, 4, 0, 1, 2], []), sp 0 [(3, 1), (0, (-1))]], [(1064, [5, 0, 5, 2, 3, 4, 0, 1, 2], [])])
theorem q_oqW10_ok : RlOk q_oqW10 := by
  intro fs zs h x hx
  obtain ⟨P0, h⟩ := snAll h
  replace P0 := s_wr.mp P0
  obtain ⟨P1, h⟩ := snAll h
  replace P1 := s_opq.mp P1
  obtain ⟨P2, h⟩ := snAll h
  replace P2 := sp_2.mp P2
  have L : eOpq ((nthF fs 0)) ((nthF fs 5)) ((nthF fs 2)) ((nthF fs 3)) ((nthF fs 4)) ((nthZ zs 0)) ((nthZ zs 1)) ((nthZ zs 2)) := by
    apply M_oqW10 (F0 := nthF fs 0) (F1 := nthF fs 1) (F2 := nthF fs 2) (F3 := nthF fs 3) (F4 := nthF fs 4) (F5 := nthF fs 5) (N0 := nthZ zs 0) (N1 := nthZ zs 1) (N2 := nthZ zs 2) (N3 := nthZ zs 3) (N4 := nthZ zs 4) <;> first | assumption | omega
  rcases List.mem_cons.mp hx with hx | hx
  · rw [hx]; refine s_opq.mpr ?_; exact L
  · cases hx
def q_oqW11 : qRl := ([(2, [5, 1, 3, 4], []), (1064, [5, 0, 1, 2, 3, 4, 0, 1, 2], []), sp (-3) [(3, 1)]], [(1064, [5, 0, 5, 2, 3, 4, 0, 1, 2], [])])
theorem q_oqW11_ok : RlOk q_oqW11 := by
  intro fs zs h x hx
  obtain ⟨P0, h⟩ := snAll h
  replace P0 := s_wr.mp P0
  obtain ⟨P1, h⟩ := snAll h
  replace P1 := s_opq.mp P1
  obtain ⟨P2, h⟩ := snAll h
  replace P2 := sp_1.mp P2
  have L : eOpq ((nthF fs 0)) ((nthF fs 5)) ((nthF fs 2)) ((nthF fs 3)) ((nthF fs 4)) ((nthZ zs 0)) ((nthZ zs 1)) ((nthZ zs 2)) := by
    apply M_oqW11 (F0 := nthF fs 0) (F1 := nthF fs 1) (F2 := nthF fs 2) (F3 := nthF fs 3) (F4 := nthF fs 4) (F5 := nthF fs 5) (N0 := nthZ zs 0) (N1 := nthZ zs 1) (N2 := nthZ zs 2) (N3 := nthZ zs 3) (N4 := nthZ zs 4) <;> first | assumption | omega
  rcases List.mem_cons.mp hx with hx | hx
  · rw [hx]; refine s_opq.mpr ?_; exact L
  · cases hx
def q_oqW20 : qRl := ([(2, [5, 2, 3, 4], []), (1064, [5, 0, 1, 2, 3, 4, 0, 1, 2], []), sp 0 [(3, 1), (0, (-1))]], [(1064, [5, 0, 1, 5, 3, 4, 0, 1, 2], [])])
theorem q_oqW20_ok : RlOk q_oqW20 := by
  intro fs zs h x hx
  obtain ⟨P0, h⟩ := snAll h
  replace P0 := s_wr.mp P0
  obtain ⟨P1, h⟩ := snAll h
  replace P1 := s_opq.mp P1
  obtain ⟨P2, h⟩ := snAll h
  replace P2 := sp_2.mp P2
  have L : eOpq ((nthF fs 0)) ((nthF fs 1)) ((nthF fs 5)) ((nthF fs 3)) ((nthF fs 4)) ((nthZ zs 0)) ((nthZ zs 1)) ((nthZ zs 2)) := by
    apply M_oqW20 (F0 := nthF fs 0) (F1 := nthF fs 1) (F2 := nthF fs 2) (F3 := nthF fs 3) (F4 := nthF fs 4) (F5 := nthF fs 5) (N0 := nthZ zs 0) (N1 := nthZ zs 1) (N2 := nthZ zs 2) (N3 := nthZ zs 3) (N4 := nthZ zs 4) <;> first | assumption | omega
  rcases List.mem_cons.mp hx with hx | hx
  · rw [hx]; refine s_opq.mpr ?_; exact L
  · cases hx
def q_oqW21 : qRl := ([(2, [5, 2, 3, 4], []), (1064, [5, 0, 1, 2, 3, 4, 0, 1, 2], []), sp (-3) [(3, 1)]], [(1064, [5, 0, 1, 5, 3, 4, 0, 1, 2], [])])
theorem q_oqW21_ok : RlOk q_oqW21 := by
  intro fs zs h x hx
  obtain ⟨P0, h⟩ := snAll h
  replace P0 := s_wr.mp P0
  obtain ⟨P1, h⟩ := snAll h
  replace P1 := s_opq.mp P1
  obtain ⟨P2, h⟩ := snAll h
  replace P2 := sp_1.mp P2
  have L : eOpq ((nthF fs 0)) ((nthF fs 1)) ((nthF fs 5)) ((nthF fs 3)) ((nthF fs 4)) ((nthZ zs 0)) ((nthZ zs 1)) ((nthZ zs 2)) := by
    apply M_oqW21 (F0 := nthF fs 0) (F1 := nthF fs 1) (F2 := nthF fs 2) (F3 := nthF fs 3) (F4 := nthF fs 4) (F5 := nthF fs 5) (N0 := nthZ zs 0) (N1 := nthZ zs 1) (N2 := nthZ zs 2) (N3 := nthZ zs 3) (N4 := nthZ zs 4) <;> first | assumption | omega
  rcases List.mem_cons.mp hx with hx | hx
  · rw [hx]; refine s_opq.mpr ?_; exact L
  · cases hx
def q_oqE1 : qRl := ([sp 1 [(3, 1), (0, (-1))], sp (-1) [(3, (-1)), (0, 1)], (1064, [5, 0, 1, 2, 3, 4, 3, 1, 2], []), sp (-3) [(3, 1)]], [(1064, [5, 0, 1, 2, 3, 4, 0, 1, 2], [])])
theorem q_oqE1_ok : RlOk q_oqE1 := by
  intro fs zs h x hx
  obtain ⟨P0a, h⟩ := snAll h
  replace P0a := sp_2.mp P0a
  obtain ⟨P0b, h⟩ := snAll h
  replace P0b := sp_2.mp P0b
  obtain ⟨P1, h⟩ := snAll h
  replace P1 := s_opq.mp P1
  obtain ⟨P2, h⟩ := snAll h
  replace P2 := sp_1.mp P2
  have L : eOpq ((nthF fs 0)) ((nthF fs 1)) ((nthF fs 2)) ((nthF fs 3)) ((nthF fs 4)) ((nthZ zs 0)) ((nthZ zs 1)) ((nthZ zs 2)) := by
    apply M_oqE1 (F0 := nthF fs 0) (F1 := nthF fs 1) (F2 := nthF fs 2) (F3 := nthF fs 3) (F4 := nthF fs 4) (N0 := nthZ zs 0) (N1 := nthZ zs 1) (N2 := nthZ zs 2) (N3 := nthZ zs 3) <;> first | assumption | omega
  rcases List.mem_cons.mp hx with hx | hx
  · rw [hx]; refine s_opq.mpr ?_; exact L
  · cases hx
def q_oqM : qRl := ([(1064, [5, 0, 1, 2, 3, 4, 0, 1, 2], []), (1, [0, 3, 4], []), sp 0 [(3, 1)], sp (-1) [(0, 1), (3, (-1))], sp 2 [(3, (-1))], (1, [1, 3, 5], []), (1, [2, 3, 6], []), sp (-2) [(4, 1)], sp 2 [(4, (-1))], sp (-1) [(7, 1), (5, (-1))], sp 1 [(7, (-1)), (5, 1)], sp 1 [(8, 1), (6, (-1))], sp (-1) [(8, (-1)), (6, 1)]], [(1056, [2, 3, 4, 7, 8, 1, 2], []), sp 0 [(5, 1)], sp 0 [(1, 1), (6, (-1))], sp (-3) [(6, 1), (5, (-1))]])
theorem q_oqM_ok : RlOk q_oqM := by
  intro fs zs h x hx
  obtain ⟨P0, h⟩ := snAll h
  replace P0 := s_opq.mp P0
  obtain ⟨P1, h⟩ := snAll h
  replace P1 := s_rd.mp P1
  obtain ⟨P2, h⟩ := snAll h
  replace P2 := sp_1.mp P2
  obtain ⟨P3, h⟩ := snAll h
  replace P3 := sp_2.mp P3
  obtain ⟨P4, h⟩ := snAll h
  replace P4 := sp_1.mp P4
  obtain ⟨P5, h⟩ := snAll h
  replace P5 := s_rd.mp P5
  obtain ⟨P6, h⟩ := snAll h
  replace P6 := s_rd.mp P6
  obtain ⟨P7, h⟩ := snAll h
  replace P7 := sp_1.mp P7
  obtain ⟨P8, h⟩ := snAll h
  replace P8 := sp_1.mp P8
  obtain ⟨P9a, h⟩ := snAll h
  replace P9a := sp_2.mp P9a
  obtain ⟨P9b, h⟩ := snAll h
  replace P9b := sp_2.mp P9b
  obtain ⟨P10a, h⟩ := snAll h
  replace P10a := sp_2.mp P10a
  obtain ⟨P10b, h⟩ := snAll h
  replace P10b := sp_2.mp P10b
  have L : (ePad ((nthF fs 3)) ((nthF fs 4)) ((nthZ zs 7)) ((nthZ zs 8)) ((nthZ zs 1)) ((nthZ zs 2))) ∧ (0 ≤ (nthZ zs 5)) ∧ ((nthZ zs 6) ≤ (nthZ zs 1)) ∧ ((nthZ zs 5) + 3 ≤ (nthZ zs 6)) := by
    apply M_oqM (F0 := nthF fs 0) (F1 := nthF fs 1) (F2 := nthF fs 2) (F3 := nthF fs 3) (F4 := nthF fs 4) (N0 := nthZ zs 0) (N1 := nthZ zs 1) (N2 := nthZ zs 2) (N3 := nthZ zs 3) (N4 := nthZ zs 4) (N5 := nthZ zs 5) (N6 := nthZ zs 6) (N7 := nthZ zs 7) (N8 := nthZ zs 8) <;> first | assumption | omega
  obtain ⟨L0, L1, L2, L3⟩ := L
  rcases List.mem_cons.mp hx with hx | hx
  · rw [hx]; refine s_pad.mpr ?_; exact L0
  rcases List.mem_cons.mp hx with hx | hx
  · rw [hx]; refine sp_1.mpr ?_; omega
  rcases List.mem_cons.mp hx with hx | hx
  · rw [hx]; refine sp_2.mpr ?_; omega
  rcases List.mem_cons.mp hx with hx | hx
  · rw [hx]; refine sp_2.mpr ?_; omega
  · cases hx
def q_oqV : qRl := ([(1064, [5, 0, 1, 2, 3, 4, 0, 1, 2], []), (1, [0, 3, 4], []), sp 0 [(3, 1)], sp (-1) [(0, 1), (3, (-1))], sp 2 [(3, (-1))], (1, [1, 3, 5], []), (1, [2, 3, 6], []), sp (-3) [(4, 1)], sp 3 [(4, (-1))]], [(1013, [2, 3, 4, 5, 6], []), sp 0 [(5, 1)], sp 0 [(1, 1), (6, (-1))], sp (-1) [(6, 1), (5, (-1))]])
theorem q_oqV_ok : RlOk q_oqV := by
  intro fs zs h x hx
  obtain ⟨P0, h⟩ := snAll h
  replace P0 := s_opq.mp P0
  obtain ⟨P1, h⟩ := snAll h
  replace P1 := s_rd.mp P1
  obtain ⟨P2, h⟩ := snAll h
  replace P2 := sp_1.mp P2
  obtain ⟨P3, h⟩ := snAll h
  replace P3 := sp_2.mp P3
  obtain ⟨P4, h⟩ := snAll h
  replace P4 := sp_1.mp P4
  obtain ⟨P5, h⟩ := snAll h
  replace P5 := s_rd.mp P5
  obtain ⟨P6, h⟩ := snAll h
  replace P6 := s_rd.mp P6
  obtain ⟨P7, h⟩ := snAll h
  replace P7 := sp_1.mp P7
  obtain ⟨P8, h⟩ := snAll h
  replace P8 := sp_1.mp P8
  have L : (RunT ((nthF fs 3)) ((nthF fs 4)) ((nthZ zs 5)) ((nthZ zs 6)) 0 0) ∧ (0 ≤ (nthZ zs 5)) ∧ ((nthZ zs 6) ≤ (nthZ zs 1)) ∧ ((nthZ zs 5) + 1 ≤ (nthZ zs 6)) := by
    apply M_oqV (F0 := nthF fs 0) (F1 := nthF fs 1) (F2 := nthF fs 2) (F3 := nthF fs 3) (F4 := nthF fs 4) (N0 := nthZ zs 0) (N1 := nthZ zs 1) (N2 := nthZ zs 2) (N3 := nthZ zs 3) (N4 := nthZ zs 4) (N5 := nthZ zs 5) (N6 := nthZ zs 6) <;> first | assumption | omega
  obtain ⟨L0, L1, L2, L3⟩ := L
  rcases List.mem_cons.mp hx with hx | hx
  · rw [hx]; refine s_exprT.mpr ?_; exact L0
  rcases List.mem_cons.mp hx with hx | hx
  · rw [hx]; refine sp_1.mpr ?_; omega
  rcases List.mem_cons.mp hx with hx | hx
  · rw [hx]; refine sp_2.mpr ?_; omega
  rcases List.mem_cons.mp hx with hx | hx
  · rw [hx]; refine sp_2.mpr ?_; omega
  · cases hx
def q_sk1 : qRl := ([(1034, [1, 0, 0, 2, 3], []), sp 0 [(3, (-1))], sp 0 [(1, 1), (0, (-1))], sp 0 [(0, 1), (1, (-1))]], [(1065, [2, 0, 1, 0, 1, 2], [])])
theorem q_sk1_ok : RlOk q_sk1 := by
  intro fs zs h x hx
  obtain ⟨P0, h⟩ := snAll h
  replace P0 := s_det_isName.mp P0
  obtain ⟨P1, h⟩ := snAll h
  replace P1 := sp_1.mp P1
  obtain ⟨P2, h⟩ := snAll h
  replace P2 := sp_2.mp P2
  obtain ⟨P3, h⟩ := snAll h
  replace P3 := sp_2.mp P3
  have L : eSk ((nthF fs 0)) ((nthF fs 1)) ((nthZ zs 0)) ((nthZ zs 1)) ((nthZ zs 2)) := by
    apply M_sk1 (F0 := nthF fs 0) (F1 := nthF fs 1) (N0 := nthZ zs 0) (N1 := nthZ zs 1) (N2 := nthZ zs 2) (N3 := nthZ zs 3) <;> first | assumption | omega
  rcases List.mem_cons.mp hx with hx | hx
  · rw [hx]; refine s_sk.mpr ?_; exact L
  · cases hx
def q_sk2 : qRl := ([(1034, [1, 0, 0, 2, 3], []), sp (-1) [(3, 1)], (1, [1, 0, 4], []), (1032, [0, 4, 5, 6, 7, 8], []), sp (-1652126821) [(5, 1)], sp 1652126821 [(5, (-1))], sp (-431500522084) [(6, 1)], sp 431500522084 [(6, (-1))], sp (-487335096932) [(7, 1)], sp 487335096932 [(7, (-1))], sp 0 [(8, (-1))], sp 0 [(1, 1), (0, (-1))], sp 0 [(0, 1), (1, (-1))]], [(1065, [2, 0, 1, 0, 1, 2], [])])
theorem q_sk2_ok : RlOk q_sk2 := by
  intro fs zs h x hx
  obtain ⟨P0, h⟩ := snAll h
  replace P0 := s_det_isName.mp P0
  obtain ⟨P1, h⟩ := snAll h
  replace P1 := sp_1.mp P1
  obtain ⟨P2, h⟩ := snAll h
  replace P2 := s_rd.mp P2
  obtain ⟨P3, h⟩ := snAll h
  replace P3 := s_det_sizeWord.mp P3
  obtain ⟨P4, h⟩ := snAll h
  replace P4 := sp_1.mp P4
  obtain ⟨P5, h⟩ := snAll h
  replace P5 := sp_1.mp P5
  obtain ⟨P6, h⟩ := snAll h
  replace P6 := sp_1.mp P6
  obtain ⟨P7, h⟩ := snAll h
  replace P7 := sp_1.mp P7
  obtain ⟨P8, h⟩ := snAll h
  replace P8 := sp_1.mp P8
  obtain ⟨P9, h⟩ := snAll h
  replace P9 := sp_1.mp P9
  obtain ⟨P10, h⟩ := snAll h
  replace P10 := sp_1.mp P10
  obtain ⟨P11, h⟩ := snAll h
  replace P11 := sp_2.mp P11
  obtain ⟨P12, h⟩ := snAll h
  replace P12 := sp_2.mp P12
  have L : eSk ((nthF fs 0)) ((nthF fs 1)) ((nthZ zs 0)) ((nthZ zs 1)) ((nthZ zs 2)) := by
    apply M_sk2 (F0 := nthF fs 0) (F1 := nthF fs 1) (N0 := nthZ zs 0) (N1 := nthZ zs 1) (N2 := nthZ zs 2) (N3 := nthZ zs 3) (N4 := nthZ zs 4) (N5 := nthZ zs 5) (N6 := nthZ zs 6) (N7 := nthZ zs 7) (N8 := nthZ zs 8) <;> first | assumption | omega
  rcases List.mem_cons.mp hx with hx | hx
  · rw [hx]; refine s_sk.mpr ?_; exact L
  · cases hx
def q_sk3 : qRl := ([(1034, [1, 0, 0, 2, 3], []), sp (-1) [(3, 1)], (1, [1, 0, 4], []), (1032, [0, 4, 5, 6, 7, 8], []), sp (-1652126821) [(5, 1)], sp 1652126821 [(5, (-1))], sp (-431500522084) [(6, 1)], sp 431500522084 [(6, (-1))], sp (-487335096932) [(7, 1)], sp 487335096932 [(7, (-1))], sp (-1) [(8, 1)], sp (-1) [(1, 1), (0, (-1))], sp 1 [(0, 1), (1, (-1))]], [(1065, [2, 0, 1, 0, 1, 2], [])])
theorem q_sk3_ok : RlOk q_sk3 := by
  intro fs zs h x hx
  obtain ⟨P0, h⟩ := snAll h
  replace P0 := s_det_isName.mp P0
  obtain ⟨P1, h⟩ := snAll h
  replace P1 := sp_1.mp P1
  obtain ⟨P2, h⟩ := snAll h
  replace P2 := s_rd.mp P2
  obtain ⟨P3, h⟩ := snAll h
  replace P3 := s_det_sizeWord.mp P3
  obtain ⟨P4, h⟩ := snAll h
  replace P4 := sp_1.mp P4
  obtain ⟨P5, h⟩ := snAll h
  replace P5 := sp_1.mp P5
  obtain ⟨P6, h⟩ := snAll h
  replace P6 := sp_1.mp P6
  obtain ⟨P7, h⟩ := snAll h
  replace P7 := sp_1.mp P7
  obtain ⟨P8, h⟩ := snAll h
  replace P8 := sp_1.mp P8
  obtain ⟨P9, h⟩ := snAll h
  replace P9 := sp_1.mp P9
  obtain ⟨P10, h⟩ := snAll h
  replace P10 := sp_1.mp P10
  obtain ⟨P11, h⟩ := snAll h
  replace P11 := sp_2.mp P11
  obtain ⟨P12, h⟩ := snAll h
  replace P12 := sp_2.mp P12
  have L : eSk ((nthF fs 0)) ((nthF fs 1)) ((nthZ zs 0)) ((nthZ zs 1)) ((nthZ zs 2)) := by
    apply M_sk3 (F0 := nthF fs 0) (F1 := nthF fs 1) (N0 := nthZ zs 0) (N1 := nthZ zs 1) (N2 := nthZ zs 2) (N3 := nthZ zs 3) (N4 := nthZ zs 4) (N5 := nthZ zs 5) (N6 := nthZ zs 6) (N7 := nthZ zs 7) (N8 := nthZ zs 8) <;> first | assumption | omega
  rcases List.mem_cons.mp hx with hx | hx
  · rw [hx]; refine s_sk.mpr ?_; exact L
  · cases hx
def q_oo1 : qRl := ([(1035, [2, 0, 1, 0, 4, 2, 5], []), sp (-91) [(4, 1)], sp 91 [(4, (-1))], sp (-1) [(5, 1)], sp (-1) [(6, 1), (0, (-1))], sp 1 [(6, (-1)), (0, 1)], (1028, [2, 0, 1, 6, 2, 7], []), sp 0 [(1, 1), (7, (-1))], sp 0 [(7, 1), (1, (-1))], sp 1 [(8, 1), (1, (-1))], sp (-1) [(8, (-1)), (1, 1)], (1056, [2, 0, 1, 6, 8, 2, 3], []), sp (-3) [(1, 1), (0, (-1))], sp 0 [(2, 1), (1, (-1))]], [(1066, [2, 0, 1, 0, 1, 2, 3], [])])
theorem q_oo1_ok : RlOk q_oo1 := by
  intro fs zs h x hx
  obtain ⟨P0, h⟩ := snAll h
  replace P0 := s_det_isSign.mp P0
  obtain ⟨P1, h⟩ := snAll h
  replace P1 := sp_1.mp P1
  obtain ⟨P2, h⟩ := snAll h
  replace P2 := sp_1.mp P2
  obtain ⟨P3, h⟩ := snAll h
  replace P3 := sp_1.mp P3
  obtain ⟨P4a, h⟩ := snAll h
  replace P4a := sp_2.mp P4a
  obtain ⟨P4b, h⟩ := snAll h
  replace P4b := sp_2.mp P4b
  obtain ⟨P5, h⟩ := snAll h
  replace P5 := s_det_passAddress.mp P5
  obtain ⟨P6, h⟩ := snAll h
  replace P6 := sp_2.mp P6
  obtain ⟨P7, h⟩ := snAll h
  replace P7 := sp_2.mp P7
  obtain ⟨P8a, h⟩ := snAll h
  replace P8a := sp_2.mp P8a
  obtain ⟨P8b, h⟩ := snAll h
  replace P8b := sp_2.mp P8b
  obtain ⟨P9, h⟩ := snAll h
  replace P9 := s_pad.mp P9
  obtain ⟨P10, h⟩ := snAll h
  replace P10 := sp_2.mp P10
  obtain ⟨P11, h⟩ := snAll h
  replace P11 := sp_2.mp P11
  have L : eOo ((nthF fs 0)) ((nthF fs 1)) ((nthZ zs 0)) ((nthZ zs 1)) ((nthZ zs 2)) ((nthZ zs 3)) := by
    apply M_oo1 (F0 := nthF fs 0) (F1 := nthF fs 1) (N0 := nthZ zs 0) (N1 := nthZ zs 1) (N2 := nthZ zs 2) (N3 := nthZ zs 3) (N4 := nthZ zs 4) (N5 := nthZ zs 5) (N6 := nthZ zs 6) (N7 := nthZ zs 7) (N8 := nthZ zs 8) <;> first | assumption | omega
  rcases List.mem_cons.mp hx with hx | hx
  · rw [hx]; refine s_oo.mpr ?_; exact L
  · cases hx
def q_oo2 : qRl := ([(1035, [2, 0, 1, 0, 4, 2, 5], []), sp (-91) [(4, 1)], sp 91 [(4, (-1))], sp 0 [(5, (-1))], (1034, [1, 0, 0, 2, 6], []), sp (-1) [(6, 1)], (1, [1, 0, 7], []), (1030, [0, 7, 8], []), sp 0 [(8, 1)], sp (-1) [(1, 1), (0, (-1))], sp 1 [(0, 1), (1, (-1))], sp 0 [(2, 1), (1, (-1))], sp 0 []], [(1066, [2, 0, 1, 0, 1, 2, 3], [])])
theorem q_oo2_ok : RlOk q_oo2 := by
  intro fs zs h x hx
  obtain ⟨P0, h⟩ := snAll h
  replace P0 := s_det_isSign.mp P0
  obtain ⟨P1, h⟩ := snAll h
  replace P1 := sp_1.mp P1
  obtain ⟨P2, h⟩ := snAll h
  replace P2 := sp_1.mp P2
  obtain ⟨P3, h⟩ := snAll h
  replace P3 := sp_1.mp P3
  obtain ⟨P4, h⟩ := snAll h
  replace P4 := s_det_isName.mp P4
  obtain ⟨P5, h⟩ := snAll h
  replace P5 := sp_1.mp P5
  obtain ⟨P6, h⟩ := snAll h
  replace P6 := s_rd.mp P6
  obtain ⟨P7, h⟩ := snAll h
  replace P7 := s_det_registerOf.mp P7
  obtain ⟨P8, h⟩ := snAll h
  replace P8 := sp_1.mp P8
  obtain ⟨P9, h⟩ := snAll h
  replace P9 := sp_2.mp P9
  obtain ⟨P10, h⟩ := snAll h
  replace P10 := sp_2.mp P10
  obtain ⟨P11, h⟩ := snAll h
  replace P11 := sp_2.mp P11
  obtain ⟨P12, h⟩ := snAll h
  replace P12 := sp_0.mp P12
  have L : eOo ((nthF fs 0)) ((nthF fs 1)) ((nthZ zs 0)) ((nthZ zs 1)) ((nthZ zs 2)) ((nthZ zs 3)) := by
    apply M_oo2 (F0 := nthF fs 0) (F1 := nthF fs 1) (N0 := nthZ zs 0) (N1 := nthZ zs 1) (N2 := nthZ zs 2) (N3 := nthZ zs 3) (N4 := nthZ zs 4) (N5 := nthZ zs 5) (N6 := nthZ zs 6) (N7 := nthZ zs 7) (N8 := nthZ zs 8) <;> first | assumption | omega
  rcases List.mem_cons.mp hx with hx | hx
  · rw [hx]; refine s_oo.mpr ?_; exact L
  · cases hx
def q_oo3 : qRl := ([(1035, [2, 0, 1, 0, 4, 2, 5], []), sp (-91) [(4, 1)], sp 91 [(4, (-1))], sp 0 [(5, (-1))], (1034, [1, 0, 0, 2, 6], []), sp 0 [(6, (-1))], (1026, [2, 0, 1, 0, 9, 2, 10], []), sp 0 [(9, 1)], sp 0 [(9, (-1))], sp 0 [(1, 1), (10, (-1))], sp 0 [(10, 1), (1, (-1))], (1013, [2, 0, 1, 0, 1], []), sp 0 [(2, 1), (1, (-1))], sp (-1) [(1, 1), (0, (-1))], sp 0 []], [(1066, [2, 0, 1, 0, 1, 2, 3], [])])
theorem q_oo3_ok : RlOk q_oo3 := by
  intro fs zs h x hx
  obtain ⟨P0, h⟩ := snAll h
  replace P0 := s_det_isSign.mp P0
  obtain ⟨P1, h⟩ := snAll h
  replace P1 := sp_1.mp P1
  obtain ⟨P2, h⟩ := snAll h
  replace P2 := sp_1.mp P2
  obtain ⟨P3, h⟩ := snAll h
  replace P3 := sp_1.mp P3
  obtain ⟨P4, h⟩ := snAll h
  replace P4 := s_det_isName.mp P4
  obtain ⟨P5, h⟩ := snAll h
  replace P5 := sp_1.mp P5
  obtain ⟨P6, h⟩ := snAll h
  replace P6 := s_det_pass.mp P6
  obtain ⟨P7, h⟩ := snAll h
  replace P7 := sp_1.mp P7
  obtain ⟨P8, h⟩ := snAll h
  replace P8 := sp_1.mp P8
  obtain ⟨P9, h⟩ := snAll h
  replace P9 := sp_2.mp P9
  obtain ⟨P10, h⟩ := snAll h
  replace P10 := sp_2.mp P10
  obtain ⟨P11, h⟩ := snAll h
  replace P11 := s_exprT.mp P11
  obtain ⟨P12, h⟩ := snAll h
  replace P12 := sp_2.mp P12
  obtain ⟨P13, h⟩ := snAll h
  replace P13 := sp_2.mp P13
  obtain ⟨P14, h⟩ := snAll h
  replace P14 := sp_0.mp P14
  have L : eOo ((nthF fs 0)) ((nthF fs 1)) ((nthZ zs 0)) ((nthZ zs 1)) ((nthZ zs 2)) ((nthZ zs 3)) := by
    apply M_oo3 (F0 := nthF fs 0) (F1 := nthF fs 1) (N0 := nthZ zs 0) (N1 := nthZ zs 1) (N2 := nthZ zs 2) (N3 := nthZ zs 3) (N4 := nthZ zs 4) (N5 := nthZ zs 5) (N6 := nthZ zs 6) (N7 := nthZ zs 7) (N8 := nthZ zs 8) (N9 := nthZ zs 9) (N10 := nthZ zs 10) <;> first | assumption | omega
  rcases List.mem_cons.mp hx with hx | hx
  · rw [hx]; refine s_oo.mpr ?_; exact L
  · cases hx
def q_oo4 : qRl := ([(1035, [2, 0, 1, 0, 4, 2, 5], []), sp (-91) [(4, 1)], sp 91 [(4, (-1))], sp 0 [(5, (-1))], (1034, [1, 0, 0, 2, 6], []), sp (-1) [(6, 1)], (1, [1, 0, 7], []), (1030, [0, 7, 8], []), sp (-1) [(8, (-1))], (1026, [2, 0, 1, 0, 9, 2, 10], []), sp 0 [(9, 1)], sp 0 [(9, (-1))], sp 0 [(1, 1), (10, (-1))], sp 0 [(10, 1), (1, (-1))], (1013, [2, 0, 1, 0, 1], []), sp 0 [(2, 1), (1, (-1))], sp (-1) [(1, 1), (0, (-1))], sp 0 []], [(1066, [2, 0, 1, 0, 1, 2, 3], [])])
theorem q_oo4_ok : RlOk q_oo4 := by
  intro fs zs h x hx
  obtain ⟨P0, h⟩ := snAll h
  replace P0 := s_det_isSign.mp P0
  obtain ⟨P1, h⟩ := snAll h
  replace P1 := sp_1.mp P1
  obtain ⟨P2, h⟩ := snAll h
  replace P2 := sp_1.mp P2
  obtain ⟨P3, h⟩ := snAll h
  replace P3 := sp_1.mp P3
  obtain ⟨P4, h⟩ := snAll h
  replace P4 := s_det_isName.mp P4
  obtain ⟨P5, h⟩ := snAll h
  replace P5 := sp_1.mp P5
  obtain ⟨P6, h⟩ := snAll h
  replace P6 := s_rd.mp P6
  obtain ⟨P7, h⟩ := snAll h
  replace P7 := s_det_registerOf.mp P7
  obtain ⟨P8, h⟩ := snAll h
  replace P8 := sp_1.mp P8
  obtain ⟨P9, h⟩ := snAll h
  replace P9 := s_det_pass.mp P9
  obtain ⟨P10, h⟩ := snAll h
  replace P10 := sp_1.mp P10
  obtain ⟨P11, h⟩ := snAll h
  replace P11 := sp_1.mp P11
  obtain ⟨P12, h⟩ := snAll h
  replace P12 := sp_2.mp P12
  obtain ⟨P13, h⟩ := snAll h
  replace P13 := sp_2.mp P13
  obtain ⟨P14, h⟩ := snAll h
  replace P14 := s_exprT.mp P14
  obtain ⟨P15, h⟩ := snAll h
  replace P15 := sp_2.mp P15
  obtain ⟨P16, h⟩ := snAll h
  replace P16 := sp_2.mp P16
  obtain ⟨P17, h⟩ := snAll h
  replace P17 := sp_0.mp P17
  have L : eOo ((nthF fs 0)) ((nthF fs 1)) ((nthZ zs 0)) ((nthZ zs 1)) ((nthZ zs 2)) ((nthZ zs 3)) := by
    apply M_oo4 (F0 := nthF fs 0) (F1 := nthF fs 1) (N0 := nthZ zs 0) (N1 := nthZ zs 1) (N2 := nthZ zs 2) (N3 := nthZ zs 3) (N4 := nthZ zs 4) (N5 := nthZ zs 5) (N6 := nthZ zs 6) (N7 := nthZ zs 7) (N8 := nthZ zs 8) (N9 := nthZ zs 9) (N10 := nthZ zs 10) <;> first | assumption | omega
  rcases List.mem_cons.mp hx with hx | hx
  · rw [hx]; refine s_oo.mpr ?_; exact L
  · cases hx
def q_ox0 : qRl := ([sp 2 [(0, (-1))], sp 0 [], sp 0 [], sp 0 []], [(1067, [3, 0, 1, 2, 0, 1, 2, 3], [])])
theorem q_ox0_ok : RlOk q_ox0 := by
  intro fs zs h x hx
  obtain ⟨P0, h⟩ := snAll h
  replace P0 := sp_1.mp P0
  obtain ⟨P1, h⟩ := snAll h
  replace P1 := sp_0.mp P1
  obtain ⟨P2, h⟩ := snAll h
  replace P2 := sp_0.mp P2
  obtain ⟨P3, h⟩ := snAll h
  replace P3 := sp_0.mp P3
  have L : eOpx ((nthF fs 0)) ((nthF fs 1)) ((nthF fs 2)) ((nthZ zs 0)) ((nthZ zs 1)) ((nthZ zs 2)) ((nthZ zs 3)) := by
    apply M_ox0 (F0 := nthF fs 0) (F1 := nthF fs 1) (F2 := nthF fs 2) (N0 := nthZ zs 0) (N1 := nthZ zs 1) (N2 := nthZ zs 2) (N3 := nthZ zs 3) <;> first | assumption | omega
  rcases List.mem_cons.mp hx with hx | hx
  · rw [hx]; refine s_opx.mpr ?_; exact L
  · cases hx
def q_ox1 : qRl := ([sp (-2) [(4, 1)], sp 2 [(4, (-1))], (1, [0, 4, 5], []), sp (-1) [(1, 1), (5, (-1))], sp 1 [(5, 1), (1, (-1))], sp 0 [], sp 0 [], sp 0 []], [(1067, [3, 0, 1, 2, 0, 1, 2, 3], [])])
theorem q_ox1_ok : RlOk q_ox1 := by
  intro fs zs h x hx
  obtain ⟨P0a, h⟩ := snAll h
  replace P0a := sp_1.mp P0a
  obtain ⟨P0b, h⟩ := snAll h
  replace P0b := sp_1.mp P0b
  obtain ⟨P1, h⟩ := snAll h
  replace P1 := s_rd.mp P1
  obtain ⟨P2, h⟩ := snAll h
  replace P2 := sp_2.mp P2
  obtain ⟨P3, h⟩ := snAll h
  replace P3 := sp_2.mp P3
  obtain ⟨P4, h⟩ := snAll h
  replace P4 := sp_0.mp P4
  obtain ⟨P5, h⟩ := snAll h
  replace P5 := sp_0.mp P5
  obtain ⟨P6, h⟩ := snAll h
  replace P6 := sp_0.mp P6
  have L : eOpx ((nthF fs 0)) ((nthF fs 1)) ((nthF fs 2)) ((nthZ zs 0)) ((nthZ zs 1)) ((nthZ zs 2)) ((nthZ zs 3)) := by
    apply M_ox1 (F0 := nthF fs 0) (F1 := nthF fs 1) (F2 := nthF fs 2) (N0 := nthZ zs 0) (N1 := nthZ zs 1) (N2 := nthZ zs 2) (N3 := nthZ zs 3) (N4 := nthZ zs 4) (N5 := nthZ zs 5) <;> first | assumption | omega
  rcases List.mem_cons.mp hx with hx | hx
  · rw [hx]; refine s_opx.mpr ?_; exact L
  · cases hx
def q_oxS : qRl := ([(1067, [3, 0, 1, 2, 4, 5, 2, 3], []), sp (-3) [(4, 1)], (1065, [2, 1, 2, 5, 6, 2], []), sp 1 [(7, 1), (1, (-1))], sp (-1) [(7, (-1)), (1, 1)], (1066, [2, 1, 2, 6, 7, 2, 3], []), sp 0 []], [(1067, [3, 0, 1, 2, 0, 1, 2, 3], [])])
theorem q_oxS_ok : RlOk q_oxS := by
  intro fs zs h x hx
  obtain ⟨P0, h⟩ := snAll h
  replace P0 := s_opx.mp P0
  obtain ⟨P1, h⟩ := snAll h
  replace P1 := sp_1.mp P1
  obtain ⟨P2, h⟩ := snAll h
  replace P2 := s_sk.mp P2
  obtain ⟨P3a, h⟩ := snAll h
  replace P3a := sp_2.mp P3a
  obtain ⟨P3b, h⟩ := snAll h
  replace P3b := sp_2.mp P3b
  obtain ⟨P4, h⟩ := snAll h
  replace P4 := s_oo.mp P4
  obtain ⟨P5, h⟩ := snAll h
  replace P5 := sp_0.mp P5
  have L : eOpx ((nthF fs 0)) ((nthF fs 1)) ((nthF fs 2)) ((nthZ zs 0)) ((nthZ zs 1)) ((nthZ zs 2)) ((nthZ zs 3)) := by
    apply M_oxS (F0 := nthF fs 0) (F1 := nthF fs 1) (F2 := nthF fs 2) (N0 := nthZ zs 0) (N1 := nthZ zs 1) (N2 := nthZ zs 2) (N3 := nthZ zs 3) (N4 := nthZ zs 4) (N5 := nthZ zs 5) (N6 := nthZ zs 6) (N7 := nthZ zs 7) <;> first | assumption | omega
  rcases List.mem_cons.mp hx with hx | hx
  · rw [hx]; refine s_opx.mpr ?_; exact L
  · cases hx
def q_oxW : qRl := ([(2, [3, 0, 4, 5], []), (1067, [3, 0, 1, 2, 0, 1, 2, 3], []), sp (-3) [(4, 1)]], [(1067, [3, 3, 1, 2, 0, 1, 2, 3], [])])
theorem q_oxW_ok : RlOk q_oxW := by
  intro fs zs h x hx
  obtain ⟨P0, h⟩ := snAll h
  replace P0 := s_wr.mp P0
  obtain ⟨P1, h⟩ := snAll h
  replace P1 := s_opx.mp P1
  obtain ⟨P2, h⟩ := snAll h
  replace P2 := sp_1.mp P2
  have L : eOpx ((nthF fs 3)) ((nthF fs 1)) ((nthF fs 2)) ((nthZ zs 0)) ((nthZ zs 1)) ((nthZ zs 2)) ((nthZ zs 3)) := by
    apply M_oxW (F0 := nthF fs 0) (F1 := nthF fs 1) (F2 := nthF fs 2) (F3 := nthF fs 3) (N0 := nthZ zs 0) (N1 := nthZ zs 1) (N2 := nthZ zs 2) (N3 := nthZ zs 3) (N4 := nthZ zs 4) (N5 := nthZ zs 5) <;> first | assumption | omega
  rcases List.mem_cons.mp hx with hx | hx
  · rw [hx]; refine s_opx.mpr ?_; exact L
  · cases hx
def q_fo1 : qRl := ([(1067, [3, 0, 1, 2, 0, 1, 2, 3], []), sp (-3) [(0, 1)], (1067, [3, 0, 1, 2, 4, 5, 2, 3], []), sp (-3) [(4, 1)], sp (-1) [(5, 1), (1, (-1))], sp (-1) [(2, 1), (1, (-1))], (1035, [2, 1, 2, 6, 7, 2, 8], []), sp (-91) [(7, 1)], sp 91 [(7, (-1))], (1065, [2, 1, 2, 1, 6, 2], []), sp (-1) [(8, 1)], sp (-1) [(9, 1), (6, (-1))], sp 1 [(9, (-1)), (6, 1)], (1028, [2, 1, 2, 9, 2, 10], []), sp 1 [(11, 1), (10, (-1))], sp (-1) [(11, (-1)), (10, 1)]], [(1056, [2, 1, 2, 9, 11, 2, 3], []), sp (-3) [(10, 1), (6, (-1))], sp 0 [(2, 1), (10, (-1))], sp (-1) [(5, 1), (10, (-1))]])
theorem q_fo1_ok : RlOk q_fo1 := by
  intro fs zs h x hx
  obtain ⟨P0, h⟩ := snAll h
  replace P0 := s_opx.mp P0
  obtain ⟨P1, h⟩ := snAll h
  replace P1 := sp_1.mp P1
  obtain ⟨P2, h⟩ := snAll h
  replace P2 := s_opx.mp P2
  obtain ⟨P3, h⟩ := snAll h
  replace P3 := sp_1.mp P3
  obtain ⟨P4, h⟩ := snAll h
  replace P4 := sp_2.mp P4
  obtain ⟨P5, h⟩ := snAll h
  replace P5 := sp_2.mp P5
  obtain ⟨P6, h⟩ := snAll h
  replace P6 := s_det_isSign.mp P6
  obtain ⟨P7, h⟩ := snAll h
  replace P7 := sp_1.mp P7
  obtain ⟨P8, h⟩ := snAll h
  replace P8 := sp_1.mp P8
  obtain ⟨P9, h⟩ := snAll h
  replace P9 := s_sk.mp P9
  obtain ⟨P10, h⟩ := snAll h
  replace P10 := sp_1.mp P10
  obtain ⟨P11a, h⟩ := snAll h
  replace P11a := sp_2.mp P11a
  obtain ⟨P11b, h⟩ := snAll h
  replace P11b := sp_2.mp P11b
  obtain ⟨P12, h⟩ := snAll h
  replace P12 := s_det_passAddress.mp P12
  obtain ⟨P13a, h⟩ := snAll h
  replace P13a := sp_2.mp P13a
  obtain ⟨P13b, h⟩ := snAll h
  replace P13b := sp_2.mp P13b
  have L : (ePad ((nthF fs 1)) ((nthF fs 2)) ((nthZ zs 9)) ((nthZ zs 11)) ((nthZ zs 2)) ((nthZ zs 3))) ∧ ((nthZ zs 6) + 3 ≤ (nthZ zs 10)) ∧ ((nthZ zs 10) ≤ (nthZ zs 2)) ∧ ((nthZ zs 10) + 1 ≤ (nthZ zs 5)) := by
    apply M_fo1 (F0 := nthF fs 0) (F1 := nthF fs 1) (F2 := nthF fs 2) (N0 := nthZ zs 0) (N1 := nthZ zs 1) (N2 := nthZ zs 2) (N3 := nthZ zs 3) (N4 := nthZ zs 4) (N5 := nthZ zs 5) (N6 := nthZ zs 6) (N7 := nthZ zs 7) (N8 := nthZ zs 8) (N9 := nthZ zs 9) (N10 := nthZ zs 10) (N11 := nthZ zs 11) <;> first | assumption | omega
  obtain ⟨L0, L1, L2, L3⟩ := L
  rcases List.mem_cons.mp hx with hx | hx
  · rw [hx]; refine s_pad.mpr ?_; exact L0
  rcases List.mem_cons.mp hx with hx | hx
  · rw [hx]; refine sp_2.mpr ?_; omega
  rcases List.mem_cons.mp hx with hx | hx
  · rw [hx]; refine sp_2.mpr ?_; omega
  rcases List.mem_cons.mp hx with hx | hx
  · rw [hx]; refine sp_2.mpr ?_; omega
  · cases hx
def q_fo2 : qRl := ([(1067, [3, 0, 1, 2, 0, 1, 2, 3], []), sp (-3) [(0, 1)], (1067, [3, 0, 1, 2, 4, 5, 2, 3], []), sp (-3) [(4, 1)], sp (-1) [(5, 1), (1, (-1))], sp (-1) [(2, 1), (1, (-1))], (1035, [2, 1, 2, 6, 7, 2, 8], []), sp (-91) [(7, 1)], sp 91 [(7, (-1))], (1065, [2, 1, 2, 1, 6, 2], []), sp 0 [(8, (-1))], (1034, [1, 1, 6, 2, 9], []), sp 0 [(9, (-1))], (1026, [2, 1, 2, 6, 10, 2, 11], []), sp 0 [(10, 1)], sp 0 [(10, (-1))]], [sp (-1) [(11, 1), (6, (-1))], sp 0 [(2, 1), (11, (-1))], sp (-1) [(5, 1), (11, (-1))]])
theorem q_fo2_ok : RlOk q_fo2 := by
  intro fs zs h x hx
  obtain ⟨P0, h⟩ := snAll h
  replace P0 := s_opx.mp P0
  obtain ⟨P1, h⟩ := snAll h
  replace P1 := sp_1.mp P1
  obtain ⟨P2, h⟩ := snAll h
  replace P2 := s_opx.mp P2
  obtain ⟨P3, h⟩ := snAll h
  replace P3 := sp_1.mp P3
  obtain ⟨P4, h⟩ := snAll h
  replace P4 := sp_2.mp P4
  obtain ⟨P5, h⟩ := snAll h
  replace P5 := sp_2.mp P5
  obtain ⟨P6, h⟩ := snAll h
  replace P6 := s_det_isSign.mp P6
  obtain ⟨P7, h⟩ := snAll h
  replace P7 := sp_1.mp P7
  obtain ⟨P8, h⟩ := snAll h
  replace P8 := sp_1.mp P8
  obtain ⟨P9, h⟩ := snAll h
  replace P9 := s_sk.mp P9
  obtain ⟨P10, h⟩ := snAll h
  replace P10 := sp_1.mp P10
  obtain ⟨P11, h⟩ := snAll h
  replace P11 := s_det_isName.mp P11
  obtain ⟨P12, h⟩ := snAll h
  replace P12 := sp_1.mp P12
  obtain ⟨P13, h⟩ := snAll h
  replace P13 := s_det_pass.mp P13
  obtain ⟨P14, h⟩ := snAll h
  replace P14 := sp_1.mp P14
  obtain ⟨P15, h⟩ := snAll h
  replace P15 := sp_1.mp P15
  have L : ((nthZ zs 6) + 1 ≤ (nthZ zs 11)) ∧ ((nthZ zs 11) ≤ (nthZ zs 2)) ∧ ((nthZ zs 11) + 1 ≤ (nthZ zs 5)) := by
    apply M_fo2 (F0 := nthF fs 0) (F1 := nthF fs 1) (F2 := nthF fs 2) (N0 := nthZ zs 0) (N1 := nthZ zs 1) (N2 := nthZ zs 2) (N3 := nthZ zs 3) (N4 := nthZ zs 4) (N5 := nthZ zs 5) (N6 := nthZ zs 6) (N7 := nthZ zs 7) (N8 := nthZ zs 8) (N9 := nthZ zs 9) (N10 := nthZ zs 10) (N11 := nthZ zs 11) <;> first | assumption | omega
  obtain ⟨L0, L1, L2⟩ := L
  rcases List.mem_cons.mp hx with hx | hx
  · rw [hx]; refine sp_2.mpr ?_; omega
  rcases List.mem_cons.mp hx with hx | hx
  · rw [hx]; refine sp_2.mpr ?_; omega
  rcases List.mem_cons.mp hx with hx | hx
  · rw [hx]; refine sp_2.mpr ?_; omega
  · cases hx
def q_fo3 : qRl := ([(1067, [3, 0, 1, 2, 0, 1, 2, 3], []), sp (-3) [(0, 1)], (1067, [3, 0, 1, 2, 4, 5, 2, 3], []), sp (-3) [(4, 1)], sp (-1) [(5, 1), (1, (-1))], sp (-1) [(2, 1), (1, (-1))], (1035, [2, 1, 2, 6, 7, 2, 8], []), sp (-91) [(7, 1)], sp 91 [(7, (-1))], (1065, [2, 1, 2, 1, 6, 2], []), sp 0 [(8, (-1))], (1034, [1, 1, 6, 2, 9], []), sp (-1) [(9, 1)], (1, [2, 6, 12], []), (1030, [0, 12, 13], []), sp (-1) [(13, (-1))], (1026, [2, 1, 2, 6, 10, 2, 11], []), sp 0 [(10, 1)], sp 0 [(10, (-1))]], [sp (-1) [(11, 1), (6, (-1))], sp 0 [(2, 1), (11, (-1))], sp (-1) [(5, 1), (11, (-1))]])
theorem q_fo3_ok : RlOk q_fo3 := by
  intro fs zs h x hx
  obtain ⟨P0, h⟩ := snAll h
  replace P0 := s_opx.mp P0
  obtain ⟨P1, h⟩ := snAll h
  replace P1 := sp_1.mp P1
  obtain ⟨P2, h⟩ := snAll h
  replace P2 := s_opx.mp P2
  obtain ⟨P3, h⟩ := snAll h
  replace P3 := sp_1.mp P3
  obtain ⟨P4, h⟩ := snAll h
  replace P4 := sp_2.mp P4
  obtain ⟨P5, h⟩ := snAll h
  replace P5 := sp_2.mp P5
  obtain ⟨P6, h⟩ := snAll h
  replace P6 := s_det_isSign.mp P6
  obtain ⟨P7, h⟩ := snAll h
  replace P7 := sp_1.mp P7
  obtain ⟨P8, h⟩ := snAll h
  replace P8 := sp_1.mp P8
  obtain ⟨P9, h⟩ := snAll h
  replace P9 := s_sk.mp P9
  obtain ⟨P10, h⟩ := snAll h
  replace P10 := sp_1.mp P10
  obtain ⟨P11, h⟩ := snAll h
  replace P11 := s_det_isName.mp P11
  obtain ⟨P12, h⟩ := snAll h
  replace P12 := sp_1.mp P12
  obtain ⟨P13, h⟩ := snAll h
  replace P13 := s_rd.mp P13
  obtain ⟨P14, h⟩ := snAll h
  replace P14 := s_det_registerOf.mp P14
  obtain ⟨P15, h⟩ := snAll h
  replace P15 := sp_1.mp P15
  obtain ⟨P16, h⟩ := snAll h
  replace P16 := s_det_pass.mp P16
  obtain ⟨P17, h⟩ := snAll h
  replace P17 := sp_1.mp P17
  obtain ⟨P18, h⟩ := snAll h
  replace P18 := sp_1.mp P18
  have L : ((nthZ zs 6) + 1 ≤ (nthZ zs 11)) ∧ ((nthZ zs 11) ≤ (nthZ zs 2)) ∧ ((nthZ zs 11) + 1 ≤ (nthZ zs 5)) := by
    apply M_fo3 (F0 := nthF fs 0) (F1 := nthF fs 1) (F2 := nthF fs 2) (N0 := nthZ zs 0) (N1 := nthZ zs 1) (N2 := nthZ zs 2) (N3 := nthZ zs 3) (N4 := nthZ zs 4) (N5 := nthZ zs 5) (N6 := nthZ zs 6) (N7 := nthZ zs 7) (N8 := nthZ zs 8) (N9 := nthZ zs 9) (N10 := nthZ zs 10) (N11 := nthZ zs 11) (N12 := nthZ zs 12) (N13 := nthZ zs 13) <;> first | assumption | omega
  obtain ⟨L0, L1, L2⟩ := L
  rcases List.mem_cons.mp hx with hx | hx
  · rw [hx]; refine sp_2.mpr ?_; omega
  rcases List.mem_cons.mp hx with hx | hx
  · rw [hx]; refine sp_2.mpr ?_; omega
  rcases List.mem_cons.mp hx with hx | hx
  · rw [hx]; refine sp_2.mpr ?_; omega
  · cases hx
def q_fo4 : qRl := ([(1067, [3, 0, 1, 2, 0, 1, 2, 3], []), sp (-3) [(0, 1)], (1067, [3, 0, 1, 2, 4, 5, 2, 3], []), sp (-3) [(4, 1)], sp (-1) [(5, 1), (1, (-1))], sp (-1) [(2, 1), (1, (-1))], (1035, [2, 1, 2, 6, 7, 2, 8], []), sp (-91) [(7, 1)], sp 91 [(7, (-1))], (1065, [2, 1, 2, 1, 6, 2], []), sp 0 [(8, (-1))], (1034, [1, 1, 6, 2, 9], []), sp (-1) [(9, 1)], (1, [2, 6, 12], []), (1030, [0, 12, 13], []), sp 0 [(13, 1)]], [sp (-1) [(2, 1), (6, (-1))], sp (-2) [(5, 1), (6, (-1))]])
theorem q_fo4_ok : RlOk q_fo4 := by
  intro fs zs h x hx
  obtain ⟨P0, h⟩ := snAll h
  replace P0 := s_opx.mp P0
  obtain ⟨P1, h⟩ := snAll h
  replace P1 := sp_1.mp P1
  obtain ⟨P2, h⟩ := snAll h
  replace P2 := s_opx.mp P2
  obtain ⟨P3, h⟩ := snAll h
  replace P3 := sp_1.mp P3
  obtain ⟨P4, h⟩ := snAll h
  replace P4 := sp_2.mp P4
  obtain ⟨P5, h⟩ := snAll h
  replace P5 := sp_2.mp P5
  obtain ⟨P6, h⟩ := snAll h
  replace P6 := s_det_isSign.mp P6
  obtain ⟨P7, h⟩ := snAll h
  replace P7 := sp_1.mp P7
  obtain ⟨P8, h⟩ := snAll h
  replace P8 := sp_1.mp P8
  obtain ⟨P9, h⟩ := snAll h
  replace P9 := s_sk.mp P9
  obtain ⟨P10, h⟩ := snAll h
  replace P10 := sp_1.mp P10
  obtain ⟨P11, h⟩ := snAll h
  replace P11 := s_det_isName.mp P11
  obtain ⟨P12, h⟩ := snAll h
  replace P12 := sp_1.mp P12
  obtain ⟨P13, h⟩ := snAll h
  replace P13 := s_rd.mp P13
  obtain ⟨P14, h⟩ := snAll h
  replace P14 := s_det_registerOf.mp P14
  obtain ⟨P15, h⟩ := snAll h
  replace P15 := sp_1.mp P15
  have L : ((nthZ zs 6) + 1 ≤ (nthZ zs 2)) ∧ ((nthZ zs 6) + 2 ≤ (nthZ zs 5)) := by
    apply M_fo4 (F0 := nthF fs 0) (F1 := nthF fs 1) (F2 := nthF fs 2) (N0 := nthZ zs 0) (N1 := nthZ zs 1) (N2 := nthZ zs 2) (N3 := nthZ zs 3) (N4 := nthZ zs 4) (N5 := nthZ zs 5) (N6 := nthZ zs 6) (N7 := nthZ zs 7) (N8 := nthZ zs 8) (N9 := nthZ zs 9) (N10 := nthZ zs 10) (N11 := nthZ zs 11) (N12 := nthZ zs 12) (N13 := nthZ zs 13) <;> first | assumption | omega
  obtain ⟨L0, L1⟩ := L
  rcases List.mem_cons.mp hx with hx | hx
  · rw [hx]; refine sp_2.mpr ?_; omega
  rcases List.mem_cons.mp hx with hx | hx
  · rw [hx]; refine sp_2.mpr ?_; omega
  · cases hx
def q_opG : qRl := ([sp (-1) [(1, (-1))], sp 0 [], sp 0 [], sp 0 []], [(1068, [4, 0, 1, 2, 3, 0, 1, 2, 3], [])])
theorem q_opG_ok : RlOk q_opG := by
  intro fs zs h x hx
  obtain ⟨P0, h⟩ := snAll h
  replace P0 := sp_1.mp P0
  obtain ⟨P1, h⟩ := snAll h
  replace P1 := sp_0.mp P1
  obtain ⟨P2, h⟩ := snAll h
  replace P2 := sp_0.mp P2
  obtain ⟨P3, h⟩ := snAll h
  replace P3 := sp_0.mp P3
  have L : eOpp ((nthF fs 0)) ((nthF fs 1)) ((nthF fs 2)) ((nthF fs 3)) ((nthZ zs 0)) ((nthZ zs 1)) ((nthZ zs 2)) ((nthZ zs 3)) := by
    apply M_opG (F0 := nthF fs 0) (F1 := nthF fs 1) (F2 := nthF fs 2) (F3 := nthF fs 3) (N0 := nthZ zs 0) (N1 := nthZ zs 1) (N2 := nthZ zs 2) (N3 := nthZ zs 3) <;> first | assumption | omega
  rcases List.mem_cons.mp hx with hx | hx
  · rw [hx]; refine s_opp.mpr ?_; exact L
  · cases hx
def q_op1 : qRl := ([(1, [0, 0, 4], []), sp (-1) [(4, 1)], sp 1 [(4, (-1))], sp 0 [], sp 0 [], sp 0 []], [(1068, [4, 0, 1, 2, 3, 0, 1, 2, 3], [])])
theorem q_op1_ok : RlOk q_op1 := by
  intro fs zs h x hx
  obtain ⟨P0, h⟩ := snAll h
  replace P0 := s_rd.mp P0
  obtain ⟨P1, h⟩ := snAll h
  replace P1 := sp_1.mp P1
  obtain ⟨P2, h⟩ := snAll h
  replace P2 := sp_1.mp P2
  obtain ⟨P3, h⟩ := snAll h
  replace P3 := sp_0.mp P3
  obtain ⟨P4, h⟩ := snAll h
  replace P4 := sp_0.mp P4
  obtain ⟨P5, h⟩ := snAll h
  replace P5 := sp_0.mp P5
  have L : eOpp ((nthF fs 0)) ((nthF fs 1)) ((nthF fs 2)) ((nthF fs 3)) ((nthZ zs 0)) ((nthZ zs 1)) ((nthZ zs 2)) ((nthZ zs 3)) := by
    apply M_op1 (F0 := nthF fs 0) (F1 := nthF fs 1) (F2 := nthF fs 2) (F3 := nthF fs 3) (N0 := nthZ zs 0) (N1 := nthZ zs 1) (N2 := nthZ zs 2) (N3 := nthZ zs 3) (N4 := nthZ zs 4) <;> first | assumption | omega
  rcases List.mem_cons.mp hx with hx | hx
  · rw [hx]; refine s_opp.mpr ?_; exact L
  · cases hx
def q_op2 : qRl := ([(1, [0, 0, 4], []), sp (-3) [(4, 1)], sp 3 [(4, (-1))], (1, [1, 0, 5], []), (1013, [2, 2, 3, 5, 1], []), sp 0 [(5, 1)], sp 0 [(2, 1), (1, (-1))], sp (-1) [(1, 1), (5, (-1))], sp 0 []], [(1068, [4, 0, 1, 2, 3, 0, 1, 2, 3], [])])
theorem q_op2_ok : RlOk q_op2 := by
  intro fs zs h x hx
  obtain ⟨P0, h⟩ := snAll h
  replace P0 := s_rd.mp P0
  obtain ⟨P1, h⟩ := snAll h
  replace P1 := sp_1.mp P1
  obtain ⟨P2, h⟩ := snAll h
  replace P2 := sp_1.mp P2
  obtain ⟨P3, h⟩ := snAll h
  replace P3 := s_rd.mp P3
  obtain ⟨P4, h⟩ := snAll h
  replace P4 := s_exprT.mp P4
  obtain ⟨P5, h⟩ := snAll h
  replace P5 := sp_1.mp P5
  obtain ⟨P6, h⟩ := snAll h
  replace P6 := sp_2.mp P6
  obtain ⟨P7, h⟩ := snAll h
  replace P7 := sp_2.mp P7
  obtain ⟨P8, h⟩ := snAll h
  replace P8 := sp_0.mp P8
  have L : eOpp ((nthF fs 0)) ((nthF fs 1)) ((nthF fs 2)) ((nthF fs 3)) ((nthZ zs 0)) ((nthZ zs 1)) ((nthZ zs 2)) ((nthZ zs 3)) := by
    apply M_op2 (F0 := nthF fs 0) (F1 := nthF fs 1) (F2 := nthF fs 2) (F3 := nthF fs 3) (N0 := nthZ zs 0) (N1 := nthZ zs 1) (N2 := nthZ zs 2) (N3 := nthZ zs 3) (N4 := nthZ zs 4) (N5 := nthZ zs 5) <;> first | assumption | omega
  rcases List.mem_cons.mp hx with hx | hx
  · rw [hx]; refine s_opp.mpr ?_; exact L
  · cases hx
def q_op3 : qRl := ([(1, [0, 0, 4], []), sp (-2) [(4, 1)], sp 2 [(4, (-1))], (1, [1, 0, 5], []), sp (-1) [(6, 1), (5, (-1))], sp 1 [(6, (-1)), (5, 1)], sp 1 [(7, 1), (1, (-1))], sp (-1) [(7, (-1)), (1, 1)], (1056, [2, 2, 3, 6, 7, 2, 3], []), sp 0 [(5, 1)], sp 0 [(2, 1), (1, (-1))], sp (-3) [(1, 1), (5, (-1))]], [(1068, [4, 0, 1, 2, 3, 0, 1, 2, 3], [])])
theorem q_op3_ok : RlOk q_op3 := by
  intro fs zs h x hx
  obtain ⟨P0, h⟩ := snAll h
  replace P0 := s_rd.mp P0
  obtain ⟨P1, h⟩ := snAll h
  replace P1 := sp_1.mp P1
  obtain ⟨P2, h⟩ := snAll h
  replace P2 := sp_1.mp P2
  obtain ⟨P3, h⟩ := snAll h
  replace P3 := s_rd.mp P3
  obtain ⟨P4a, h⟩ := snAll h
  replace P4a := sp_2.mp P4a
  obtain ⟨P4b, h⟩ := snAll h
  replace P4b := sp_2.mp P4b
  obtain ⟨P5a, h⟩ := snAll h
  replace P5a := sp_2.mp P5a
  obtain ⟨P5b, h⟩ := snAll h
  replace P5b := sp_2.mp P5b
  obtain ⟨P6, h⟩ := snAll h
  replace P6 := s_pad.mp P6
  obtain ⟨P7, h⟩ := snAll h
  replace P7 := sp_1.mp P7
  obtain ⟨P8, h⟩ := snAll h
  replace P8 := sp_2.mp P8
  obtain ⟨P9, h⟩ := snAll h
  replace P9 := sp_2.mp P9
  have L : eOpp ((nthF fs 0)) ((nthF fs 1)) ((nthF fs 2)) ((nthF fs 3)) ((nthZ zs 0)) ((nthZ zs 1)) ((nthZ zs 2)) ((nthZ zs 3)) := by
    apply M_op3 (F0 := nthF fs 0) (F1 := nthF fs 1) (F2 := nthF fs 2) (F3 := nthF fs 3) (N0 := nthZ zs 0) (N1 := nthZ zs 1) (N2 := nthZ zs 2) (N3 := nthZ zs 3) (N4 := nthZ zs 4) (N5 := nthZ zs 5) (N6 := nthZ zs 6) (N7 := nthZ zs 7) <;> first | assumption | omega
  rcases List.mem_cons.mp hx with hx | hx
  · rw [hx]; refine s_opp.mpr ?_; exact L
  · cases hx
def q_oqE5 : qRl := ([sp 1 [(3, 1), (0, (-1))], sp (-1) [(3, (-1)), (0, 1)], (1064, [5, 0, 1, 2, 3, 4, 3, 1, 2], []), (1, [2, 3, 4], []), sp 0 [(4, 1)], (1068, [4, 0, 1, 3, 4, 5, 4, 1, 2], []), sp 0 [(5, 1), (3, (-1))], sp 0 [(3, 1), (5, (-1))]], [(1064, [5, 0, 1, 2, 3, 4, 0, 1, 2], [])])
theorem q_oqE5_ok : RlOk q_oqE5 := by
  intro fs zs h x hx
  obtain ⟨P0a, h⟩ := snAll h
  replace P0a := sp_2.mp P0a
  obtain ⟨P0b, h⟩ := snAll h
  replace P0b := sp_2.mp P0b
  obtain ⟨P1, h⟩ := snAll h
  replace P1 := s_opq.mp P1
  obtain ⟨P2, h⟩ := snAll h
  replace P2 := s_rd.mp P2
  obtain ⟨P3, h⟩ := snAll h
  replace P3 := sp_1.mp P3
  obtain ⟨P4, h⟩ := snAll h
  replace P4 := s_opp.mp P4
  obtain ⟨P5, h⟩ := snAll h
  replace P5 := sp_2.mp P5
  obtain ⟨P6, h⟩ := snAll h
  replace P6 := sp_2.mp P6
  have L : eOpq ((nthF fs 0)) ((nthF fs 1)) ((nthF fs 2)) ((nthF fs 3)) ((nthF fs 4)) ((nthZ zs 0)) ((nthZ zs 1)) ((nthZ zs 2)) := by
    apply M_oqE5 (F0 := nthF fs 0) (F1 := nthF fs 1) (F2 := nthF fs 2) (F3 := nthF fs 3) (F4 := nthF fs 4) (N0 := nthZ zs 0) (N1 := nthZ zs 1) (N2 := nthZ zs 2) (N3 := nthZ zs 3) (N4 := nthZ zs 4) (N5 := nthZ zs 5) <;> first | assumption | omega
  rcases List.mem_cons.mp hx with hx | hx
  · rw [hx]; refine s_opq.mpr ?_; exact L
  · cases hx
def q_oy0 : qRl := ([sp 2 [(0, (-1))], sp 0 [], sp 0 [], sp 0 []], [(1069, [4, 0, 1, 2, 3, 0, 1, 2, 3], [])])
theorem q_oy0_ok : RlOk q_oy0 := by
  intro fs zs h x hx
  obtain ⟨P0, h⟩ := snAll h
  replace P0 := sp_1.mp P0
  obtain ⟨P1, h⟩ := snAll h
  replace P1 := sp_0.mp P1
  obtain ⟨P2, h⟩ := snAll h
  replace P2 := sp_0.mp P2
  obtain ⟨P3, h⟩ := snAll h
  replace P3 := sp_0.mp P3
  have L : eOpy ((nthF fs 0)) ((nthF fs 1)) ((nthF fs 2)) ((nthF fs 3)) ((nthZ zs 0)) ((nthZ zs 1)) ((nthZ zs 2)) ((nthZ zs 3)) := by
    apply M_oy0 (F0 := nthF fs 0) (F1 := nthF fs 1) (F2 := nthF fs 2) (F3 := nthF fs 3) (N0 := nthZ zs 0) (N1 := nthZ zs 1) (N2 := nthZ zs 2) (N3 := nthZ zs 3) <;> first | assumption | omega
  rcases List.mem_cons.mp hx with hx | hx
  · rw [hx]; refine s_opy.mpr ?_; exact L
  · cases hx
def q_oyS : qRl := ([(1067, [3, 1, 2, 3, 4, 5, 2, 3], []), sp (-3) [(4, 1)], (1, [0, 1, 6], []), (1065, [2, 2, 3, 5, 6, 2], []), sp 0 []], [(1069, [4, 0, 1, 2, 3, 0, 1, 2, 3], [])])
theorem q_oyS_ok : RlOk q_oyS := by
  intro fs zs h x hx
  obtain ⟨P0, h⟩ := snAll h
  replace P0 := s_opx.mp P0
  obtain ⟨P1, h⟩ := snAll h
  replace P1 := sp_1.mp P1
  obtain ⟨P2, h⟩ := snAll h
  replace P2 := s_rd.mp P2
  obtain ⟨P3, h⟩ := snAll h
  replace P3 := s_sk.mp P3
  obtain ⟨P4, h⟩ := snAll h
  replace P4 := sp_0.mp P4
  have L : eOpy ((nthF fs 0)) ((nthF fs 1)) ((nthF fs 2)) ((nthF fs 3)) ((nthZ zs 0)) ((nthZ zs 1)) ((nthZ zs 2)) ((nthZ zs 3)) := by
    apply M_oyS (F0 := nthF fs 0) (F1 := nthF fs 1) (F2 := nthF fs 2) (F3 := nthF fs 3) (N0 := nthZ zs 0) (N1 := nthZ zs 1) (N2 := nthZ zs 2) (N3 := nthZ zs 3) (N4 := nthZ zs 4) (N5 := nthZ zs 5) (N6 := nthZ zs 6) <;> first | assumption | omega
  rcases List.mem_cons.mp hx with hx | hx
  · rw [hx]; refine s_opy.mpr ?_; exact L
  · cases hx
def q_oz0 : qRl := ([sp (-1) [(1, (-1))], sp 0 [], sp 0 [], sp 0 []], [(1070, [3, 0, 1, 2, 0, 1, 2, 3], [])])
theorem q_oz0_ok : RlOk q_oz0 := by
  intro fs zs h x hx
  obtain ⟨P0, h⟩ := snAll h
  replace P0 := sp_1.mp P0
  obtain ⟨P1, h⟩ := snAll h
  replace P1 := sp_0.mp P1
  obtain ⟨P2, h⟩ := snAll h
  replace P2 := sp_0.mp P2
  obtain ⟨P3, h⟩ := snAll h
  replace P3 := sp_0.mp P3
  have L : eOoy ((nthF fs 0)) ((nthF fs 1)) ((nthF fs 2)) ((nthZ zs 0)) ((nthZ zs 1)) ((nthZ zs 2)) ((nthZ zs 3)) := by
    apply M_oz0 (F0 := nthF fs 0) (F1 := nthF fs 1) (F2 := nthF fs 2) (N0 := nthZ zs 0) (N1 := nthZ zs 1) (N2 := nthZ zs 2) (N3 := nthZ zs 3) <;> first | assumption | omega
  rcases List.mem_cons.mp hx with hx | hx
  · rw [hx]; refine s_ooy.mpr ?_; exact L
  · cases hx
def q_oz1 : qRl := ([(1, [0, 0, 4], []), (1066, [2, 1, 2, 4, 1, 2, 3], [])], [(1070, [3, 0, 1, 2, 0, 1, 2, 3], [])])
theorem q_oz1_ok : RlOk q_oz1 := by
  intro fs zs h x hx
  obtain ⟨P0, h⟩ := snAll h
  replace P0 := s_rd.mp P0
  obtain ⟨P1, h⟩ := snAll h
  replace P1 := s_oo.mp P1
  have L : eOoy ((nthF fs 0)) ((nthF fs 1)) ((nthF fs 2)) ((nthZ zs 0)) ((nthZ zs 1)) ((nthZ zs 2)) ((nthZ zs 3)) := by
    apply M_oz1 (F0 := nthF fs 0) (F1 := nthF fs 1) (F2 := nthF fs 2) (N0 := nthZ zs 0) (N1 := nthZ zs 1) (N2 := nthZ zs 2) (N3 := nthZ zs 3) (N4 := nthZ zs 4) <;> first | assumption | omega
  rcases List.mem_cons.mp hx with hx | hx
  · rw [hx]; refine s_ooy.mpr ?_; exact L
  · cases hx
def q_oxT : qRl := ([sp 1 [(4, 1), (1, (-1))], sp (-1) [(4, (-1)), (1, 1)], (1069, [4, 3, 0, 1, 2, 5, 6, 2, 3], []), sp (-3) [(5, 1)], (1070, [3, 3, 1, 2, 6, 4, 2, 3], []), sp 0 [(4, 1)], sp 0 []], [(1067, [3, 0, 1, 2, 0, 1, 2, 3], [])])
theorem q_oxT_ok : RlOk q_oxT := by
  intro fs zs h x hx
  obtain ⟨P0a, h⟩ := snAll h
  replace P0a := sp_2.mp P0a
  obtain ⟨P0b, h⟩ := snAll h
  replace P0b := sp_2.mp P0b
  obtain ⟨P1, h⟩ := snAll h
  replace P1 := s_opy.mp P1
  obtain ⟨P2, h⟩ := snAll h
  replace P2 := sp_1.mp P2
  obtain ⟨P3, h⟩ := snAll h
  replace P3 := s_ooy.mp P3
  obtain ⟨P4, h⟩ := snAll h
  replace P4 := sp_1.mp P4
  obtain ⟨P5, h⟩ := snAll h
  replace P5 := sp_0.mp P5
  have L : eOpx ((nthF fs 0)) ((nthF fs 1)) ((nthF fs 2)) ((nthZ zs 0)) ((nthZ zs 1)) ((nthZ zs 2)) ((nthZ zs 3)) := by
    apply M_oxT (F0 := nthF fs 0) (F1 := nthF fs 1) (F2 := nthF fs 2) (F3 := nthF fs 3) (N0 := nthZ zs 0) (N1 := nthZ zs 1) (N2 := nthZ zs 2) (N3 := nthZ zs 3) (N4 := nthZ zs 4) (N5 := nthZ zs 5) (N6 := nthZ zs 6) <;> first | assumption | omega
  rcases List.mem_cons.mp hx with hx | hx
  · rw [hx]; refine s_opx.mpr ?_; exact L
  · cases hx
