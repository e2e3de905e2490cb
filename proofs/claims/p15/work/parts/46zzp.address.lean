
theorem M_pwI {F0 F1 : Int → Int} {N0 N1 N2 N3 : Int} (H0 : N1 = N0) : ePaw (F0) (F1) (N0) (N1) (N2) (N3) := by
  subst H0; exact Or.inr ⟨0, rfl⟩
theorem M_pwG {F0 F1 : Int → Int} {N0 N1 N2 N3 : Int} (H0 : 1 ≤ N3) : ePaw (F0) (F1) (N0) (N1) (N2) (N3) := by
  exact Or.inl H0
theorem M_pwZ {F0 F1 : Int → Int} {N0 N1 N2 N3 N4 : Int} (H0 : ePaw (F0) (F1) (N0) (N1) (N2) (N4)) (H1 : N4 ≤ 0) : ePaw (F0) (F1) (N0) (N1) (N2) (N3) := by
  obtain ⟨k, h⟩ := ePaw_no H0 H1
  exact Or.inr ⟨k, h⟩
theorem M_pwS0 {F0 F1 : Int → Int} {N0 N1 N2 N3 N4 N5 N6 : Int} (H0 : ePam (F0) (F1) (N0) (N4) (N2) (N5)) (H1 : N5 ≤ 0) (H2 : N4 = N1 + -1) (H3 : F0 (N4) = 4 ∧ F1 (N4) = N6) (H4 : N6 = 43) : ePaw (F0) (F1) (N0) (N1) (N2) (N3) := by
  obtain ⟨k, m, h1, h2⟩ := ePam_no H0 H1
  exact Or.inr ⟨k + 1, m, h1, N4, h2, ⟨H3.1, Or.inl (by rw [H3.2]; exact H4)⟩, by omega⟩
theorem M_pwS1 {F0 F1 : Int → Int} {N0 N1 N2 N3 N4 N5 N6 : Int} (H0 : ePam (F0) (F1) (N0) (N4) (N2) (N5)) (H1 : N5 ≤ 0) (H2 : N4 = N1 + -1) (H3 : F0 (N4) = 4 ∧ F1 (N4) = N6) (H4 : N6 = 45) : ePaw (F0) (F1) (N0) (N1) (N2) (N3) := by
  obtain ⟨k, m, h1, h2⟩ := ePam_no H0 H1
  exact Or.inr ⟨k + 1, m, h1, N4, h2, ⟨H3.1, Or.inr (by rw [H3.2]; exact H4)⟩, by omega⟩
theorem M_vs1 {F0 : Int → Int} {N0 N1 : Int} (H0 : F0 N0 = N1) (H1 : N1 = 1) : eVsc (F0) (N0) := by
  unfold eVsc at *
  omega
theorem M_vs2 {F0 : Int → Int} {N0 N1 : Int} (H0 : F0 N0 = N1) (H1 : N1 = 2) : eVsc (F0) (N0) := by
  unfold eVsc at *
  omega
theorem M_vs4 {F0 : Int → Int} {N0 N1 : Int} (H0 : F0 N0 = N1) (H1 : N1 = 4) : eVsc (F0) (N0) := by
  unfold eVsc at *
  omega
theorem M_vs8 {F0 : Int → Int} {N0 N1 : Int} (H0 : F0 N0 = N1) (H1 : N1 = 8) : eVsc (F0) (N0) := by
  unfold eVsc at *
  omega
theorem M_pmA {F0 F1 : Int → Int} {N0 N1 N2 N3 N4 N5 N6 N7 N8 N9 N10 N11 N12 : Int} (H0 : ePaw (F0) (F1) (N0) (N4) (N2) (N5)) (H1 : N5 ≤ 0) (H2 : dEv 1031 [(F0)] [(N4), (N2)] = some (N6)) (H3 : 1 ≤ N6) (H4 : F1 N4 = N7) (H5 : dEv 1027 [] [(N7)] = some (N8)) (H6 : 0 ≤ N8) (H7 : N9 = N4 + 1) (H8 : dEv 1032 [(F0), (F1)] [(N9), (N10), (N2)] = some (N11)) (H9 : N10 = 42) (H10 : 1 ≤ N11) (H11 : N12 = N4 + 2) (H12 : eVsc (F1) (N12)) (H13 : N4 + 3 ≤ N2) (H14 : N4 = N1 + -3) : ePam (F0) (F1) (N0) (N1) (N2) (N3) := by
  obtain ⟨k, h⟩ := ePaw_no H0 H1
  subst H7 H9 H11 H4
  exact Or.inr ⟨k, N4, h, Or.inl ⟨⟨N6, H2, H3⟩, ⟨N8, H5, H6⟩, Or.inl ⟨N11, H8, H10, H12, H13, by omega⟩⟩⟩
theorem M_pmB {F0 F1 : Int → Int} {N0 N1 N2 N3 N4 N5 N6 N7 N8 N9 N10 N11 : Int} (H0 : ePaw (F0) (F1) (N0) (N4) (N2) (N5)) (H1 : N5 ≤ 0) (H2 : dEv 1031 [(F0)] [(N4), (N2)] = some (N6)) (H3 : 1 ≤ N6) (H4 : F1 N4 = N7) (H5 : dEv 1027 [] [(N7)] = some (N8)) (H6 : 0 ≤ N8) (H7 : N9 = N4 + 1) (H8 : dEv 1032 [(F0), (F1)] [(N9), (N10), (N2)] = some (N11)) (H9 : N10 = 42) (H10 : N11 ≤ 0) (H11 : N4 + 1 ≤ N2) (H12 : N4 = N1 + -1) : ePam (F0) (F1) (N0) (N1) (N2) (N3) := by
  obtain ⟨k, h⟩ := ePaw_no H0 H1
  subst H7 H9 H4
  exact Or.inr ⟨k, N4, h, Or.inl ⟨⟨N6, H2, H3⟩, ⟨N8, H5, H6⟩, Or.inr ⟨N11, H8, H10, by omega⟩⟩⟩
theorem M_pmC {F0 F1 : Int → Int} {N0 N1 N2 N3 N4 N5 N6 N7 N8 N9 N10 N11 N12 N13 N14 : Int} (H0 : ePaw (F0) (F1) (N0) (N4) (N2) (N5)) (H1 : N5 ≤ 0) (H2 : dEv 1031 [(F0)] [(N4), (N2)] = some (N6)) (H3 : N6 ≤ 0) (H4 : dEv 1023 [(F0), (F1)] [(N4), (N13), (N2)] = some (N14)) (H5 : N13 = 1) (H6 : N4 + 1 ≤ N14) (H7 : N14 = N1) : ePam (F0) (F1) (N0) (N1) (N2) (N3) := by
  obtain ⟨k, h⟩ := ePaw_no H0 H1
  subst H5 H7
  exact Or.inr ⟨k, N4, h, Or.inr ⟨Or.inl ⟨N6, H2, H3⟩, H4, H6⟩⟩
theorem M_pmD {F0 F1 : Int → Int} {N0 N1 N2 N3 N4 N5 N6 N7 N8 N9 N10 N11 N12 N13 N14 : Int} (H0 : ePaw (F0) (F1) (N0) (N4) (N2) (N5)) (H1 : N5 ≤ 0) (H2 : dEv 1031 [(F0)] [(N4), (N2)] = some (N6)) (H3 : 1 ≤ N6) (H4 : F1 N4 = N7) (H5 : dEv 1027 [] [(N7)] = some (N8)) (H6 : N8 + 1 ≤ 0) (H7 : dEv 1023 [(F0), (F1)] [(N4), (N13), (N2)] = some (N14)) (H8 : N13 = 1) (H9 : N4 + 1 ≤ N14) (H10 : N14 = N1) : ePam (F0) (F1) (N0) (N1) (N2) (N3) := by
  obtain ⟨k, h⟩ := ePaw_no H0 H1
  subst H4 H8 H10
  exact Or.inr ⟨k, N4, h, Or.inr ⟨Or.inr ⟨⟨N6, H2, H3⟩, N8, H5, by omega⟩, H7, H9⟩⟩
theorem M_pmG {F0 F1 : Int → Int} {N0 N1 N2 N3 : Int} (H0 : 1 ≤ N3) : ePam (F0) (F1) (N0) (N1) (N2) (N3) := by
  exact Or.inl H0
theorem M_pfE {F0 F1 : Int → Int} {N0 N1 N2 N3 N4 N5 : Int} (H0 : ePam (F0) (F1) (N0) (N1) (N2) (N4)) (H1 : N4 ≤ 0) (H2 : F0 (N1) = 4 ∧ F1 (N1) = N5) (H3 : N5 = 93) : ePaf (F0) (F1) (N0) (N1) (N2) (N3) := by
  exact Or.inr ⟨ePam_no H0 H1, H2.1, by rw [H2.2]; exact H3⟩
theorem M_pfG {F0 F1 : Int → Int} {N0 N1 N2 N3 : Int} (H0 : 1 ≤ N3) : ePaf (F0) (F1) (N0) (N1) (N2) (N3) := by
  exact Or.inl H0
theorem M_pdR {F0 F1 : Int → Int} {N0 N1 N2 N3 N4 N5 N6 : Int} (H0 : dEv 1033 [(F0), (F1)] [(N0), (N6), (N2)] = some (N4)) (H1 : N6 = N3) (H2 : 1 ≤ N4) (H3 : N5 = N0 + 1) (H4 : RunT (F0) (F1) (N5) (N1) 0 0) : ePad (F0) (F1) (N0) (N1) (N2) (N3) := by
  subst H1 H3; exact ⟨N4, H0, Or.inl ⟨H2, H4⟩⟩
theorem M_pdN {F0 F1 : Int → Int} {N0 N1 N2 N3 N4 N5 N6 : Int} (H0 : dEv 1033 [(F0), (F1)] [(N0), (N6), (N2)] = some (N4)) (H1 : N6 = N3) (H2 : N4 ≤ 0) (H3 : N5 = 0) (H4 : ePaf (F0) (F1) (N0) (N1) (N2) (N5)) (H5 : N5 ≤ 0) : ePad (F0) (F1) (N0) (N1) (N2) (N3) := by
  subst H1 H3; exact ⟨N4, H0, Or.inr ⟨H2, H4⟩⟩
theorem M_pdr {F0 F1 : Int → Int} {N0 N1 N2 N3 N4 N5 N6 N7 N8 : Int} (H0 : ePad (F0) (F1) (N4) (N1) (N5) (N6)) (H1 : dEv 1033 [(F0), (F1)] [(N4), (N8), (N5)] = some (N7)) (H2 : N8 = N6) (H3 : 1 ≤ N7) (H4 : N4 = N0 + -1) : eExz (F0) (F1) (N0) (N1) (N2) := by
  subst H2
  obtain ⟨r, h1, h2⟩ := H0
  have e := eDv h1 H1
  rcases h2 with ⟨-, h2⟩ | ⟨h2, -⟩
  · rw [show N4 + 1 = N0 by omega] at h2; exact Or.inr h2
  · omega
theorem M_pdn {F0 F1 : Int → Int} {N0 N1 N2 N3 N4 N5 N6 : Int} (H0 : ePad (F0) (F1) (N0) (N1) (N2) (N4)) (H1 : dEv 1033 [(F0), (F1)] [(N0), (N6), (N2)] = some (N5)) (H2 : N6 = N4) (H3 : N5 ≤ 0) : ePaf (F0) (F1) (N0) (N1) (N2) (N3) := by
  subst H2
  obtain ⟨r, h1, h2⟩ := H0
  have e := eDv h1 H1
  rcases h2 with ⟨h2, -⟩ | ⟨-, h2⟩
  · omega
  · exact Or.inr (ePaf_no h2 (by omega))
theorem M_exg {F0 F1 : Int → Int} {N0 N1 N2 : Int} (H0 : 1 ≤ N2) : eExz (F0) (F1) (N0) (N1) (N2) := by
  exact Or.inl H0
theorem M_exe {F0 F1 : Int → Int} {N0 N1 N2 N3 N4 : Int} (H0 : eExz (F0) (F1) (N2) (N3) (N4)) (H1 : N4 ≤ 0) (H2 : N2 = N0) (H3 : N3 = N1) : RunT (F0) (F1) (N0) (N1) 0 0 := by
  rcases H0 with h | h
  · omega
  · subst H2 H3; exact h
theorem M_pR1 {F0 F1 : Int → Int} {N0 N1 N2 N3 N4 N5 N6 N7 N8 N9 N10 N11 N12 N13 N14 N15 : Int} (H0 : ePaf (F0) (F1) (N0) (N1) (N2) (N3)) (H1 : N3 ≤ 0) (H2 : ePaw (F0) (F1) (N0) (N4) (N2) (N5)) (H3 : N5 ≤ 0) (H4 : N4 + 1 ≤ N1) (H5 : dEv 1031 [(F0)] [(N4), (N2)] = some (N6)) (H6 : 1 ≤ N6) (H7 : F1 N4 = N7) (H8 : dEv 1027 [] [(N7)] = some (N8)) (H9 : 0 ≤ N8) (H10 : N9 = N4 + 1) (H11 : dEv 1032 [(F0), (F1)] [(N9), (N10), (N2)] = some (N11)) (H12 : N10 = 42) (H13 : 1 ≤ N11) (H14 : N12 = N4 + 3) (H15 : N13 = N4 + 2) (H16 : F1 N13 = N14) (H17 : N15 = 0) : (N4 + 3 ≤ N1) ∧ (1 ≤ N14) ∧ (N14 ≤ 8) ∧ (ePam (F0) (F1) (N0) (N12) (N2) (N15)) := by
  obtain ⟨⟨k, m, h1, h2⟩, h3, h4⟩ := ePaf_no H0 H1
  obtain ⟨l, g⟩ := ePaw_no H2 H3
  obtain ⟨x, e1, e2⟩ := ePf_next h1 h2 h4 g (by omega)
  subst H7 H10 H12 H14 H15 H17
  rcases e1 with ⟨-, -, e5⟩ | ⟨e5, -, -⟩
  · rcases e5 with ⟨s, s1, s2, s3, s4, s5⟩ | ⟨s, s1, s2, s3⟩
    · subst s5; exact ⟨by omega, by omega, by omega, Or.inr ⟨l, N4, g, Or.inl ⟨⟨N6, H5, H6⟩, ⟨N8, H8, H9⟩, Or.inl ⟨s, s1, s2, s3, s4, rfl⟩⟩⟩⟩
    · have := eDv s1 H11; omega
  · rcases e5 with ⟨r, a1, a2⟩ | ⟨-, q, a1, a2⟩
    · have := eDv a1 H5; omega
    · have := eDv a1 H8; omega
theorem M_pP0 {F0 F1 : Int → Int} {N0 N1 N2 N3 N4 N5 N6 N7 N8 N9 N10 N11 N12 N13 N14 N15 : Int} (H0 : ePaf (F0) (F1) (N0) (N1) (N2) (N3)) (H1 : N3 ≤ 0) (H2 : ePaw (F0) (F1) (N0) (N4) (N2) (N5)) (H3 : N5 ≤ 0) (H4 : N4 + 1 ≤ N1) (H5 : dEv 1031 [(F0)] [(N4), (N2)] = some (N6)) (H6 : N6 ≤ 0) (H7 : dEv 1023 [(F0), (F1)] [(N4), (N13), (N2)] = some (N14)) (H8 : N13 = 1) (H9 : N15 = 0) : (N4 + 1 ≤ N14) ∧ (N14 ≤ N1) ∧ (ePam (F0) (F1) (N0) (N14) (N2) (N15)) := by
  obtain ⟨⟨k, m, h1, h2⟩, h3, h4⟩ := ePaf_no H0 H1
  obtain ⟨l, g⟩ := ePaw_no H2 H3
  obtain ⟨x, e1, e2⟩ := ePf_next h1 h2 h4 g (by omega)
  subst H8 H9
  rcases e1 with ⟨⟨r, a1, a2⟩, -, -⟩ | ⟨e5, e6, e7⟩
  · have := eDv a1 H5; omega
  · have e := eDv e6 H7
    subst e; exact ⟨e7, e2, Or.inr ⟨l, N4, g, Or.inr ⟨e5, e6, e7⟩⟩⟩
theorem M_pP1 {F0 F1 : Int → Int} {N0 N1 N2 N3 N4 N5 N6 N7 N8 N9 N10 N11 N12 N13 N14 N15 : Int} (H0 : ePaf (F0) (F1) (N0) (N1) (N2) (N3)) (H1 : N3 ≤ 0) (H2 : ePaw (F0) (F1) (N0) (N4) (N2) (N5)) (H3 : N5 ≤ 0) (H4 : N4 + 1 ≤ N1) (H5 : dEv 1031 [(F0)] [(N4), (N2)] = some (N6)) (H6 : 1 ≤ N6) (H7 : F1 N4 = N7) (H8 : dEv 1027 [] [(N7)] = some (N8)) (H9 : N8 + 1 ≤ 0) (H10 : dEv 1023 [(F0), (F1)] [(N4), (N13), (N2)] = some (N14)) (H11 : N13 = 1) (H12 : N15 = 0) : (N4 + 1 ≤ N14) ∧ (N14 ≤ N1) ∧ (ePam (F0) (F1) (N0) (N14) (N2) (N15)) := by
  obtain ⟨⟨k, m, h1, h2⟩, h3, h4⟩ := ePaf_no H0 H1
  obtain ⟨l, g⟩ := ePaw_no H2 H3
  obtain ⟨x, e1, e2⟩ := ePf_next h1 h2 h4 g (by omega)
  subst H7 H11 H12
  rcases e1 with ⟨-, ⟨r, a1, a2⟩, -⟩ | ⟨e5, e6, e7⟩
  · have := eDv a1 H8; omega
  · have e := eDv e6 H10
    subst e; exact ⟨e7, e2, Or.inr ⟨l, N4, g, Or.inr ⟨e5, e6, e7⟩⟩⟩
theorem M_pM {F0 F1 : Int → Int} {N0 N1 N2 N3 N4 N5 N6 N7 N8 : Int} (H0 : ePaf (F0) (F1) (N0) (N1) (N2) (N3)) (H1 : N3 ≤ 0) (H2 : ePam (F0) (F1) (N0) (N4) (N2) (N5)) (H3 : N5 ≤ 0) (H4 : N4 + 1 ≤ N1) (H5 : F1 N4 = N6) (H6 : N7 = N4 + 1) (H7 : N8 = 0) : (43 ≤ N6) ∧ (N6 ≤ 45) ∧ (ePms (N6)) ∧ (ePaw (F0) (F1) (N0) (N7) (N2) (N8)) ∧ (N4 + 2 ≤ N1) := by
  obtain ⟨⟨k, m, h1, h2⟩, h3, h4⟩ := ePaf_no H0 H1
  obtain ⟨l, n, g1, g2⟩ := ePam_no H2 H3
  rcases ePm_next h1 h2 h4 g1 g2 with e | ⟨e1, e2, e3, e4⟩
  · omega
  · have q := e2.2
    exact ⟨by omega, by omega, by unfold ePms; omega, by subst H6; exact Or.inr ⟨l + 1, e4⟩, by omega⟩
theorem M_pMe {F0 F1 : Int → Int} {N0 N1 N2 N3 N4 N5 : Int} (H0 : ePaf (F0) (F1) (N0) (N1) (N2) (N3)) (H1 : N3 ≤ 0) (H2 : ePam (F0) (F1) (N0) (N4) (N2) (N5)) (H3 : N5 ≤ 0) : N4 ≤ N1 := by
  obtain ⟨⟨k, m, h1, h2⟩, h3, h4⟩ := ePaf_no H0 H1
  obtain ⟨l, n, g1, g2⟩ := ePam_no H2 H3
  rcases ePm_next h1 h2 h4 g1 g2 with e | ⟨e1, e2, e3, e4⟩ <;> omega
theorem M_rp1 {F0 F1 F2 : Int → Int} {N0 N1 : Int} (H0 : N0 = 0) (H1 : N1 = 1) : eRp (F0) (F1) (F2) (N0) (N1) := by
  subst H0; exact fun _ => RunP.zero
theorem M_rp2 {F0 F1 F2 : Int → Int} {N0 N1 N2 N3 N4 : Int} (H0 : N2 = N0 + -1) (H1 : eRpz (F0) (F1) (F2) (N2)) (H2 : 1 ≤ N2) (H3 : N1 = 1) (H4 : F0 N2 = N3) (H5 : N4 = -1 * N3 + -1) (H6 : ePms (N4)) : eRp (F0) (F1) (F2) (N0) (N1) := by
  intro _
  rcases H1 with h | h
  · omega
  unfold ePms at H6
  have c : cChr F0 F1 F2 N2 = N4 := by unfold cChr; rw [H4, if_pos (by omega)]; omega
  rw [show N0 = N2 + 1 by omega]
  exact RunP.bi h (by omega) (by omega) (by omega) (by omega)
theorem M_rp3 {F0 F1 F2 : Int → Int} {N0 N1 N2 N3 N4 : Int} (H0 : N0 = 1) (H1 : N1 = 1) (H2 : N2 = 0) (H3 : F0 N2 = N3) (H4 : N4 = -1 * N3 + -1) (H5 : N4 = 45) : eRp (F0) (F1) (F2) (N0) (N1) := by
  intro _
  subst H2
  have c : cChr F0 F1 F2 0 = 45 := by unfold cChr; rw [H3, if_pos (by omega)]; omega
  rw [show N0 = 0 + 1 by omega]
  exact RunP.fr RunP.zero (by omega) (by omega) (by omega)
theorem M_rpW {F0 F1 F2 F3 : Int → Int} {N0 N1 N2 N3 : Int} (H0 : ∀ x : Int, F3 x = if x = N2 then N3 else F0 x) (H1 : eRp (F0) (F1) (F2) (N0) (N1)) (H2 : N0 ≤ N2) : eRp (F3) (F1) (F2) (N0) (N1) := by
  intro w
  exact (H1 w).con (fun i a b => by rw [H0 i, if_neg (by omega)])
theorem M_rzW {F0 F1 F2 F3 : Int → Int} {N0 N1 N2 N3 : Int} (H0 : ∀ x : Int, F3 x = if x = N2 then N3 else F0 x) (H1 : eRpz (F0) (F1) (F2) (N0)) (H2 : N0 ≤ N2) : eRpz (F3) (F1) (F2) (N0) := by
  rcases H1 with h | h
  · exact Or.inl h
  · exact Or.inr (h.con (fun i a b => by rw [H0 i, if_neg (by omega)]))
theorem M_rz0 {F0 F1 F2 : Int → Int} {N0 : Int} (H0 : N0 ≤ 0) : eRpz (F0) (F1) (F2) (N0) := by
  exact Or.inl H0
theorem M_rzE {F0 F1 F2 : Int → Int} {N0 N1 N2 N3 N4 N5 N6 N7 : Int} (H0 : eRp (F0) (F1) (F2) (N1) (N2)) (H1 : 1 ≤ N2) (H2 : RunT (F1) (F2) (N3) (N4) 0 0) (H3 : 0 ≤ N3) (H4 : ∀ x, N5 ≤ x → x < N6 → (x + N7 ≤ F0 x)) (H5 : ∀ x, N5 ≤ x → x < N6 → (F0 x ≤ x + N7)) (H6 : N5 = N1) (H7 : N0 ≤ N6) (H8 : N4 = N0 + -1 * N1 + N3) (H9 : N7 = N3 + -1 * N1) : eRpz (F0) (F1) (F2) (N0) := by
  have q := RunP.on (P := F0) (H0 H1) H3 H2 (fun j a b => by have := H4 j (by omega) (by omega); have := H5 j (by omega) (by omega); omega)
  rw [show N1 + (N4 - N3) = N0 by omega] at q
  exact Or.inr q
theorem M_rzX {F0 F1 F2 : Int → Int} {N0 : Int} (H0 : eRpz (F0) (F1) (F2) (N0)) (H1 : 1 ≤ N0) : RunP (F0) (F1) (F2) (N0) 0 0 := by
  rcases H0 with h | h
  · omega
  · exact h
theorem M_pms0 {N0 : Int} (H0 : N0 = 43) : ePms (N0) := by
  unfold ePms at *
  omega
theorem M_pms1 {N0 : Int} (H0 : N0 = 45) : ePms (N0) := by
  unfold ePms at *
  omega
theorem M_po0 {N0 N1 N2 : Int} (H0 : N0 ≤ 0) : ePmo (N0) (N1) (N2) := by
  unfold ePmo at *
  omega
theorem M_po1 {N0 N1 N2 N3 : Int} (H0 : ePms (N3)) (H1 : N3 = N1) : ePmo (N0) (N1) (N2) := by
  unfold ePmo ePms at *
  omega
theorem M_poG {N0 N1 N2 : Int} (H0 : 1 ≤ N2) : ePmo (N0) (N1) (N2) := by
  unfold ePmo at *
  omega
theorem M_pox0 {N0 N1 N2 : Int} (H0 : ePmo (N0) (N1) (N2)) (H1 : 1 ≤ N0) (H2 : N2 ≤ 0) (H3 : N1 ≤ 42) : 1 ≤ 0 := by
  unfold ePmo at *
  omega
theorem M_pox1 {N0 N1 N2 : Int} (H0 : ePmo (N0) (N1) (N2)) (H1 : 1 ≤ N0) (H2 : N2 ≤ 0) (H3 : N1 = 44) : 1 ≤ 0 := by
  unfold ePmo at *
  omega
/-! ADDRESSES AND OPERANDS PASSED OVER AND READ: the rules (written by wip/p2/grp.py) -/
section
variable {fs : List (Int → Int)} {zs : List Int}
theorem s_paw {a0 a1 i0 i1 i2 i3 : Nat} : SnOk fs zs (1053, [2, a0, a1, i0, i1, i2, i3], []) ↔ ePaw (nthF fs a0) (nthF fs a1) (nthZ zs i0) (nthZ zs i1) (nthZ zs i2) (nthZ zs i3) := Iff.rfl
theorem s_pam {a0 a1 i0 i1 i2 i3 : Nat} : SnOk fs zs (1054, [2, a0, a1, i0, i1, i2, i3], []) ↔ ePam (nthF fs a0) (nthF fs a1) (nthZ zs i0) (nthZ zs i1) (nthZ zs i2) (nthZ zs i3) := Iff.rfl
theorem s_paf {a0 a1 i0 i1 i2 i3 : Nat} : SnOk fs zs (1055, [2, a0, a1, i0, i1, i2, i3], []) ↔ ePaf (nthF fs a0) (nthF fs a1) (nthZ zs i0) (nthZ zs i1) (nthZ zs i2) (nthZ zs i3) := Iff.rfl
theorem s_pad {a0 a1 i0 i1 i2 i3 : Nat} : SnOk fs zs (1056, [2, a0, a1, i0, i1, i2, i3], []) ↔ ePad (nthF fs a0) (nthF fs a1) (nthZ zs i0) (nthZ zs i1) (nthZ zs i2) (nthZ zs i3) := Iff.rfl
theorem s_vsc {a0 i0 : Nat} : SnOk fs zs (1057, [1, a0, i0], []) ↔ eVsc (nthF fs a0) (nthZ zs i0) := Iff.rfl
theorem s_pms {i0 : Nat} : SnOk fs zs (1060, [0, i0], []) ↔ ePms (nthZ zs i0) := Iff.rfl
theorem s_exz {a0 a1 i0 i1 i2 : Nat} : SnOk fs zs (1061, [2, a0, a1, i0, i1, i2], []) ↔ eExz (nthF fs a0) (nthF fs a1) (nthZ zs i0) (nthZ zs i1) (nthZ zs i2) := Iff.rfl
theorem s_rp {a0 a1 a2 i0 i1 : Nat} : SnOk fs zs (1058, [3, a0, a1, a2, i0, i1], []) ↔ eRp (nthF fs a0) (nthF fs a1) (nthF fs a2) (nthZ zs i0) (nthZ zs i1) := Iff.rfl
theorem s_rpz {a0 a1 a2 i0 : Nat} : SnOk fs zs (1059, [3, a0, a1, a2, i0], []) ↔ eRpz (nthF fs a0) (nthF fs a1) (nthF fs a2) (nthZ zs i0) := Iff.rfl
theorem s_pmo {i0 i1 i2 : Nat} : SnOk fs zs (1063, [0, i0, i1, i2], []) ↔ ePmo (nthZ zs i0) (nthZ zs i1) (nthZ zs i2) := Iff.rfl
end
def q_pwI : qRl := ([sp 0 [(1, 1), (0, (-1))], sp 0 [(0, 1), (1, (-1))], sp 0 [], sp 0 []], [(1053, [2, 0, 1, 0, 1, 2, 3], [])])
theorem q_pwI_ok : RlOk q_pwI := by
  intro fs zs h x hx
  obtain ⟨P0, h⟩ := snAll h
  replace P0 := sp_2.mp P0
  obtain ⟨P1, h⟩ := snAll h
  replace P1 := sp_2.mp P1
  obtain ⟨P2, h⟩ := snAll h
  replace P2 := sp_0.mp P2
  obtain ⟨P3, h⟩ := snAll h
  replace P3 := sp_0.mp P3
  have L : ePaw ((nthF fs 0)) ((nthF fs 1)) ((nthZ zs 0)) ((nthZ zs 1)) ((nthZ zs 2)) ((nthZ zs 3)) := by
    apply M_pwI (F0 := nthF fs 0) (F1 := nthF fs 1) (N0 := nthZ zs 0) (N1 := nthZ zs 1) (N2 := nthZ zs 2) (N3 := nthZ zs 3) <;> first | assumption | omega
  rcases List.mem_cons.mp hx with hx | hx
  · rw [hx]; refine s_paw.mpr ?_; exact L
  · cases hx
def q_pwG : qRl := ([sp (-1) [(3, 1)], sp 0 [], sp 0 [], sp 0 []], [(1053, [2, 0, 1, 0, 1, 2, 3], [])])
theorem q_pwG_ok : RlOk q_pwG := by
  intro fs zs h x hx
  obtain ⟨P0, h⟩ := snAll h
  replace P0 := sp_1.mp P0
  obtain ⟨P1, h⟩ := snAll h
  replace P1 := sp_0.mp P1
  obtain ⟨P2, h⟩ := snAll h
  replace P2 := sp_0.mp P2
  obtain ⟨P3, h⟩ := snAll h
  replace P3 := sp_0.mp P3
  have L : ePaw ((nthF fs 0)) ((nthF fs 1)) ((nthZ zs 0)) ((nthZ zs 1)) ((nthZ zs 2)) ((nthZ zs 3)) := by
    apply M_pwG (F0 := nthF fs 0) (F1 := nthF fs 1) (N0 := nthZ zs 0) (N1 := nthZ zs 1) (N2 := nthZ zs 2) (N3 := nthZ zs 3) <;> first | assumption | omega
  rcases List.mem_cons.mp hx with hx | hx
  · rw [hx]; refine s_paw.mpr ?_; exact L
  · cases hx
def q_pwZ : qRl := ([(1053, [2, 0, 1, 0, 1, 2, 4], []), sp 0 [(4, (-1))], sp 0 []], [(1053, [2, 0, 1, 0, 1, 2, 3], [])])
theorem q_pwZ_ok : RlOk q_pwZ := by
  intro fs zs h x hx
  obtain ⟨P0, h⟩ := snAll h
  replace P0 := s_paw.mp P0
  obtain ⟨P1, h⟩ := snAll h
  replace P1 := sp_1.mp P1
  obtain ⟨P2, h⟩ := snAll h
  replace P2 := sp_0.mp P2
  have L : ePaw ((nthF fs 0)) ((nthF fs 1)) ((nthZ zs 0)) ((nthZ zs 1)) ((nthZ zs 2)) ((nthZ zs 3)) := by
    apply M_pwZ (F0 := nthF fs 0) (F1 := nthF fs 1) (N0 := nthZ zs 0) (N1 := nthZ zs 1) (N2 := nthZ zs 2) (N3 := nthZ zs 3) (N4 := nthZ zs 4) <;> first | assumption | omega
  rcases List.mem_cons.mp hx with hx | hx
  · rw [hx]; refine s_paw.mpr ?_; exact L
  · cases hx
def q_pwS0 : qRl := ([(1054, [2, 0, 1, 0, 4, 2, 5], []), sp 0 [(5, (-1))], sp (-1) [(1, 1), (4, (-1))], sp 1 [(4, 1), (1, (-1))], (1008, [2, 0, 1, 4, 6], []), sp (-43) [(6, 1)], sp 43 [(6, (-1))], sp 0 []], [(1053, [2, 0, 1, 0, 1, 2, 3], [])])
theorem q_pwS0_ok : RlOk q_pwS0 := by
  intro fs zs h x hx
  obtain ⟨P0, h⟩ := snAll h
  replace P0 := s_pam.mp P0
  obtain ⟨P1, h⟩ := snAll h
  replace P1 := sp_1.mp P1
  obtain ⟨P2, h⟩ := snAll h
  replace P2 := sp_2.mp P2
  obtain ⟨P3, h⟩ := snAll h
  replace P3 := sp_2.mp P3
  obtain ⟨P4, h⟩ := snAll h
  replace P4 := s_sgn.mp P4
  obtain ⟨P5, h⟩ := snAll h
  replace P5 := sp_1.mp P5
  obtain ⟨P6, h⟩ := snAll h
  replace P6 := sp_1.mp P6
  obtain ⟨P7, h⟩ := snAll h
  replace P7 := sp_0.mp P7
  have L : ePaw ((nthF fs 0)) ((nthF fs 1)) ((nthZ zs 0)) ((nthZ zs 1)) ((nthZ zs 2)) ((nthZ zs 3)) := by
    apply M_pwS0 (F0 := nthF fs 0) (F1 := nthF fs 1) (N0 := nthZ zs 0) (N1 := nthZ zs 1) (N2 := nthZ zs 2) (N3 := nthZ zs 3) (N4 := nthZ zs 4) (N5 := nthZ zs 5) (N6 := nthZ zs 6) <;> first | assumption | omega
  rcases List.mem_cons.mp hx with hx | hx
  · rw [hx]; refine s_paw.mpr ?_; exact L
  · cases hx
def q_pwS1 : qRl := ([(1054, [2, 0, 1, 0, 4, 2, 5], []), sp 0 [(5, (-1))], sp (-1) [(1, 1), (4, (-1))], sp 1 [(4, 1), (1, (-1))], (1008, [2, 0, 1, 4, 6], []), sp (-45) [(6, 1)], sp 45 [(6, (-1))], sp 0 []], [(1053, [2, 0, 1, 0, 1, 2, 3], [])])
theorem q_pwS1_ok : RlOk q_pwS1 := by
  intro fs zs h x hx
  obtain ⟨P0, h⟩ := snAll h
  replace P0 := s_pam.mp P0
  obtain ⟨P1, h⟩ := snAll h
  replace P1 := sp_1.mp P1
  obtain ⟨P2, h⟩ := snAll h
  replace P2 := sp_2.mp P2
  obtain ⟨P3, h⟩ := snAll h
  replace P3 := sp_2.mp P3
  obtain ⟨P4, h⟩ := snAll h
  replace P4 := s_sgn.mp P4
  obtain ⟨P5, h⟩ := snAll h
  replace P5 := sp_1.mp P5
  obtain ⟨P6, h⟩ := snAll h
  replace P6 := sp_1.mp P6
  obtain ⟨P7, h⟩ := snAll h
  replace P7 := sp_0.mp P7
  have L : ePaw ((nthF fs 0)) ((nthF fs 1)) ((nthZ zs 0)) ((nthZ zs 1)) ((nthZ zs 2)) ((nthZ zs 3)) := by
    apply M_pwS1 (F0 := nthF fs 0) (F1 := nthF fs 1) (N0 := nthZ zs 0) (N1 := nthZ zs 1) (N2 := nthZ zs 2) (N3 := nthZ zs 3) (N4 := nthZ zs 4) (N5 := nthZ zs 5) (N6 := nthZ zs 6) <;> first | assumption | omega
  rcases List.mem_cons.mp hx with hx | hx
  · rw [hx]; refine s_paw.mpr ?_; exact L
  · cases hx
def q_vs1 : qRl := ([(1, [0, 0, 1], []), sp (-1) [(1, 1)], sp 1 [(1, (-1))]], [(1057, [1, 0, 0], [])])
theorem q_vs1_ok : RlOk q_vs1 := by
  intro fs zs h x hx
  obtain ⟨P0, h⟩ := snAll h
  replace P0 := s_rd.mp P0
  obtain ⟨P1, h⟩ := snAll h
  replace P1 := sp_1.mp P1
  obtain ⟨P2, h⟩ := snAll h
  replace P2 := sp_1.mp P2
  have L : eVsc ((nthF fs 0)) ((nthZ zs 0)) := by
    apply M_vs1 (F0 := nthF fs 0) (N0 := nthZ zs 0) (N1 := nthZ zs 1) <;> first | assumption | omega
  rcases List.mem_cons.mp hx with hx | hx
  · rw [hx]; refine s_vsc.mpr ?_; exact L
  · cases hx
def q_vs2 : qRl := ([(1, [0, 0, 1], []), sp (-2) [(1, 1)], sp 2 [(1, (-1))]], [(1057, [1, 0, 0], [])])
theorem q_vs2_ok : RlOk q_vs2 := by
  intro fs zs h x hx
  obtain ⟨P0, h⟩ := snAll h
  replace P0 := s_rd.mp P0
  obtain ⟨P1, h⟩ := snAll h
  replace P1 := sp_1.mp P1
  obtain ⟨P2, h⟩ := snAll h
  replace P2 := sp_1.mp P2
  have L : eVsc ((nthF fs 0)) ((nthZ zs 0)) := by
    apply M_vs2 (F0 := nthF fs 0) (N0 := nthZ zs 0) (N1 := nthZ zs 1) <;> first | assumption | omega
  rcases List.mem_cons.mp hx with hx | hx
  · rw [hx]; refine s_vsc.mpr ?_; exact L
  · cases hx
def q_vs4 : qRl := ([(1, [0, 0, 1], []), sp (-4) [(1, 1)], sp 4 [(1, (-1))]], [(1057, [1, 0, 0], [])])
theorem q_vs4_ok : RlOk q_vs4 := by
  intro fs zs h x hx
  obtain ⟨P0, h⟩ := snAll h
  replace P0 := s_rd.mp P0
  obtain ⟨P1, h⟩ := snAll h
  replace P1 := sp_1.mp P1
  obtain ⟨P2, h⟩ := snAll h
  replace P2 := sp_1.mp P2
  have L : eVsc ((nthF fs 0)) ((nthZ zs 0)) := by
    apply M_vs4 (F0 := nthF fs 0) (N0 := nthZ zs 0) (N1 := nthZ zs 1) <;> first | assumption | omega
  rcases List.mem_cons.mp hx with hx | hx
  · rw [hx]; refine s_vsc.mpr ?_; exact L
  · cases hx
def q_vs8 : qRl := ([(1, [0, 0, 1], []), sp (-8) [(1, 1)], sp 8 [(1, (-1))]], [(1057, [1, 0, 0], [])])
theorem q_vs8_ok : RlOk q_vs8 := by
  intro fs zs h x hx
  obtain ⟨P0, h⟩ := snAll h
  replace P0 := s_rd.mp P0
  obtain ⟨P1, h⟩ := snAll h
  replace P1 := sp_1.mp P1
  obtain ⟨P2, h⟩ := snAll h
  replace P2 := sp_1.mp P2
  have L : eVsc ((nthF fs 0)) ((nthZ zs 0)) := by
    apply M_vs8 (F0 := nthF fs 0) (N0 := nthZ zs 0) (N1 := nthZ zs 1) <;> first | assumption | omega
  rcases List.mem_cons.mp hx with hx | hx
  · rw [hx]; refine s_vsc.mpr ?_; exact L
  · cases hx
def q_pmA : qRl := ([(1053, [2, 0, 1, 0, 4, 2, 5], []), sp 0 [(5, (-1))], (1034, [1, 0, 4, 2, 6], []), sp (-1) [(6, 1)], (1, [1, 4, 7], []), (1030, [0, 7, 8], []), sp 0 [(8, 1)], sp (-1) [(9, 1), (4, (-1))], sp 1 [(9, (-1)), (4, 1)], (1035, [2, 0, 1, 9, 10, 2, 11], []), sp (-42) [(10, 1)], sp 42 [(10, (-1))], sp (-1) [(11, 1)], sp (-2) [(12, 1), (4, (-1))], sp 2 [(12, (-1)), (4, 1)], (1057, [1, 1, 12], []), sp (-3) [(2, 1), (4, (-1))], sp (-3) [(1, 1), (4, (-1))], sp 3 [(4, 1), (1, (-1))], sp 0 []], [(1054, [2, 0, 1, 0, 1, 2, 3], [])])
theorem q_pmA_ok : RlOk q_pmA := by
  intro fs zs h x hx
  obtain ⟨P0, h⟩ := snAll h
  replace P0 := s_paw.mp P0
  obtain ⟨P1, h⟩ := snAll h
  replace P1 := sp_1.mp P1
  obtain ⟨P2, h⟩ := snAll h
  replace P2 := s_det_isName.mp P2
  obtain ⟨P3, h⟩ := snAll h
  replace P3 := sp_1.mp P3
  obtain ⟨P4, h⟩ := snAll h
  replace P4 := s_rd.mp P4
  obtain ⟨P5, h⟩ := snAll h
  replace P5 := s_det_registerOf.mp P5
  obtain ⟨P6, h⟩ := snAll h
  replace P6 := sp_1.mp P6
  obtain ⟨P7a, h⟩ := snAll h
  replace P7a := sp_2.mp P7a
  obtain ⟨P7b, h⟩ := snAll h
  replace P7b := sp_2.mp P7b
  obtain ⟨P8, h⟩ := snAll h
  replace P8 := s_det_isSign.mp P8
  obtain ⟨P9, h⟩ := snAll h
  replace P9 := sp_1.mp P9
  obtain ⟨P10, h⟩ := snAll h
  replace P10 := sp_1.mp P10
  obtain ⟨P11, h⟩ := snAll h
  replace P11 := sp_1.mp P11
  obtain ⟨P12a, h⟩ := snAll h
  replace P12a := sp_2.mp P12a
  obtain ⟨P12b, h⟩ := snAll h
  replace P12b := sp_2.mp P12b
  obtain ⟨P13, h⟩ := snAll h
  replace P13 := s_vsc.mp P13
  obtain ⟨P14, h⟩ := snAll h
  replace P14 := sp_2.mp P14
  obtain ⟨P15, h⟩ := snAll h
  replace P15 := sp_2.mp P15
  obtain ⟨P16, h⟩ := snAll h
  replace P16 := sp_2.mp P16
  obtain ⟨P17, h⟩ := snAll h
  replace P17 := sp_0.mp P17
  have L : ePam ((nthF fs 0)) ((nthF fs 1)) ((nthZ zs 0)) ((nthZ zs 1)) ((nthZ zs 2)) ((nthZ zs 3)) := by
    apply M_pmA (F0 := nthF fs 0) (F1 := nthF fs 1) (N0 := nthZ zs 0) (N1 := nthZ zs 1) (N2 := nthZ zs 2) (N3 := nthZ zs 3) (N4 := nthZ zs 4) (N5 := nthZ zs 5) (N6 := nthZ zs 6) (N7 := nthZ zs 7) (N8 := nthZ zs 8) (N9 := nthZ zs 9) (N10 := nthZ zs 10) (N11 := nthZ zs 11) (N12 := nthZ zs 12) <;> first | assumption | omega
  rcases List.mem_cons.mp hx with hx | hx
  · rw [hx]; refine s_pam.mpr ?_; exact L
  · cases hx
def q_pmB : qRl := ([(1053, [2, 0, 1, 0, 4, 2, 5], []), sp 0 [(5, (-1))], (1034, [1, 0, 4, 2, 6], []), sp (-1) [(6, 1)], (1, [1, 4, 7], []), (1030, [0, 7, 8], []), sp 0 [(8, 1)], sp (-1) [(9, 1), (4, (-1))], sp 1 [(9, (-1)), (4, 1)], (1035, [2, 0, 1, 9, 10, 2, 11], []), sp (-42) [(10, 1)], sp 42 [(10, (-1))], sp 0 [(11, (-1))], sp (-1) [(2, 1), (4, (-1))], sp (-1) [(1, 1), (4, (-1))], sp 1 [(4, 1), (1, (-1))], sp 0 []], [(1054, [2, 0, 1, 0, 1, 2, 3], [])])
theorem q_pmB_ok : RlOk q_pmB := by
  intro fs zs h x hx
  obtain ⟨P0, h⟩ := snAll h
  replace P0 := s_paw.mp P0
  obtain ⟨P1, h⟩ := snAll h
  replace P1 := sp_1.mp P1
  obtain ⟨P2, h⟩ := snAll h
  replace P2 := s_det_isName.mp P2
  obtain ⟨P3, h⟩ := snAll h
  replace P3 := sp_1.mp P3
  obtain ⟨P4, h⟩ := snAll h
  replace P4 := s_rd.mp P4
  obtain ⟨P5, h⟩ := snAll h
  replace P5 := s_det_registerOf.mp P5
  obtain ⟨P6, h⟩ := snAll h
  replace P6 := sp_1.mp P6
  obtain ⟨P7a, h⟩ := snAll h
  replace P7a := sp_2.mp P7a
  obtain ⟨P7b, h⟩ := snAll h
  replace P7b := sp_2.mp P7b
  obtain ⟨P8, h⟩ := snAll h
  replace P8 := s_det_isSign.mp P8
  obtain ⟨P9, h⟩ := snAll h
  replace P9 := sp_1.mp P9
  obtain ⟨P10, h⟩ := snAll h
  replace P10 := sp_1.mp P10
  obtain ⟨P11, h⟩ := snAll h
  replace P11 := sp_1.mp P11
  obtain ⟨P12, h⟩ := snAll h
  replace P12 := sp_2.mp P12
  obtain ⟨P13, h⟩ := snAll h
  replace P13 := sp_2.mp P13
  obtain ⟨P14, h⟩ := snAll h
  replace P14 := sp_2.mp P14
  obtain ⟨P15, h⟩ := snAll h
  replace P15 := sp_0.mp P15
  have L : ePam ((nthF fs 0)) ((nthF fs 1)) ((nthZ zs 0)) ((nthZ zs 1)) ((nthZ zs 2)) ((nthZ zs 3)) := by
    apply M_pmB (F0 := nthF fs 0) (F1 := nthF fs 1) (N0 := nthZ zs 0) (N1 := nthZ zs 1) (N2 := nthZ zs 2) (N3 := nthZ zs 3) (N4 := nthZ zs 4) (N5 := nthZ zs 5) (N6 := nthZ zs 6) (N7 := nthZ zs 7) (N8 := nthZ zs 8) (N9 := nthZ zs 9) (N10 := nthZ zs 10) (N11 := nthZ zs 11) <;> first | assumption | omega
  rcases List.mem_cons.mp hx with hx | hx
  · rw [hx]; refine s_pam.mpr ?_; exact L
  · cases hx
def q_pmC : qRl := ([(1053, [2, 0, 1, 0, 4, 2, 5], []), sp 0 [(5, (-1))], (1034, [1, 0, 4, 2, 6], []), sp 0 [(6, (-1))], (1026, [2, 0, 1, 4, 13, 2, 14], []), sp (-1) [(13, 1)], sp 1 [(13, (-1))], sp (-1) [(14, 1), (4, (-1))], sp 0 [(1, 1), (14, (-1))], sp 0 [(14, 1), (1, (-1))], sp 0 []], [(1054, [2, 0, 1, 0, 1, 2, 3], [])])
theorem q_pmC_ok : RlOk q_pmC := by
  intro fs zs h x hx
  obtain ⟨P0, h⟩ := snAll h
  replace P0 := s_paw.mp P0
  obtain ⟨P1, h⟩ := snAll h
  replace P1 := sp_1.mp P1
  obtain ⟨P2, h⟩ := snAll h
  replace P2 := s_det_isName.mp P2
  obtain ⟨P3, h⟩ := snAll h
  replace P3 := sp_1.mp P3
  obtain ⟨P4, h⟩ := snAll h
  replace P4 := s_det_pass.mp P4
  obtain ⟨P5, h⟩ := snAll h
  replace P5 := sp_1.mp P5
  obtain ⟨P6, h⟩ := snAll h
  replace P6 := sp_1.mp P6
  obtain ⟨P7, h⟩ := snAll h
  replace P7 := sp_2.mp P7
  obtain ⟨P8, h⟩ := snAll h
  replace P8 := sp_2.mp P8
  obtain ⟨P9, h⟩ := snAll h
  replace P9 := sp_2.mp P9
  obtain ⟨P10, h⟩ := snAll h
  replace P10 := sp_0.mp P10
  have L : ePam ((nthF fs 0)) ((nthF fs 1)) ((nthZ zs 0)) ((nthZ zs 1)) ((nthZ zs 2)) ((nthZ zs 3)) := by
    apply M_pmC (F0 := nthF fs 0) (F1 := nthF fs 1) (N0 := nthZ zs 0) (N1 := nthZ zs 1) (N2 := nthZ zs 2) (N3 := nthZ zs 3) (N4 := nthZ zs 4) (N5 := nthZ zs 5) (N6 := nthZ zs 6) (N7 := nthZ zs 7) (N8 := nthZ zs 8) (N9 := nthZ zs 9) (N10 := nthZ zs 10) (N11 := nthZ zs 11) (N12 := nthZ zs 12) (N13 := nthZ zs 13) (N14 := nthZ zs 14) <;> first | assumption | omega
  rcases List.mem_cons.mp hx with hx | hx
  · rw [hx]; refine s_pam.mpr ?_; exact L
  · cases hx
def q_pmD : qRl := ([(1053, [2, 0, 1, 0, 4, 2, 5], []), sp 0 [(5, (-1))], (1034, [1, 0, 4, 2, 6], []), sp (-1) [(6, 1)], (1, [1, 4, 7], []), (1030, [0, 7, 8], []), sp (-1) [(8, (-1))], (1026, [2, 0, 1, 4, 13, 2, 14], []), sp (-1) [(13, 1)], sp 1 [(13, (-1))], sp (-1) [(14, 1), (4, (-1))], sp 0 [(1, 1), (14, (-1))], sp 0 [(14, 1), (1, (-1))], sp 0 []], [(1054, [2, 0, 1, 0, 1, 2, 3], [])])
theorem q_pmD_ok : RlOk q_pmD := by
  intro fs zs h x hx
  obtain ⟨P0, h⟩ := snAll h
  replace P0 := s_paw.mp P0
  obtain ⟨P1, h⟩ := snAll h
  replace P1 := sp_1.mp P1
  obtain ⟨P2, h⟩ := snAll h
  replace P2 := s_det_isName.mp P2
  obtain ⟨P3, h⟩ := snAll h
  replace P3 := sp_1.mp P3
  obtain ⟨P4, h⟩ := snAll h
  replace P4 := s_rd.mp P4
  obtain ⟨P5, h⟩ := snAll h
  replace P5 := s_det_registerOf.mp P5
  obtain ⟨P6, h⟩ := snAll h
  replace P6 := sp_1.mp P6
  obtain ⟨P7, h⟩ := snAll h
  replace P7 := s_det_pass.mp P7
  obtain ⟨P8, h⟩ := snAll h
  replace P8 := sp_1.mp P8
  obtain ⟨P9, h⟩ := snAll h
  replace P9 := sp_1.mp P9
  obtain ⟨P10, h⟩ := snAll h
  replace P10 := sp_2.mp P10
  obtain ⟨P11, h⟩ := snAll h
  replace P11 := sp_2.mp P11
  obtain ⟨P12, h⟩ := snAll h
  replace P12 := sp_2.mp P12
  obtain ⟨P13, h⟩ := snAll h
  replace P13 := sp_0.mp P13
  have L : ePam ((nthF fs 0)) ((nthF fs 1)) ((nthZ zs 0)) ((nthZ zs 1)) ((nthZ zs 2)) ((nthZ zs 3)) := by
    apply M_pmD (F0 := nthF fs 0) (F1 := nthF fs 1) (N0 := nthZ zs 0) (N1 := nthZ zs 1) (N2 := nthZ zs 2) (N3 := nthZ zs 3) (N4 := nthZ zs 4) (N5 := nthZ zs 5) (N6 := nthZ zs 6) (N7 := nthZ zs 7) (N8 := nthZ zs 8) (N9 := nthZ zs 9) (N10 := nthZ zs 10) (N11 := nthZ zs 11) (N12 := nthZ zs 12) (N13 := nthZ zs 13) (N14 := nthZ zs 14) <;> first | assumption | omega
  rcases List.mem_cons.mp hx with hx | hx
  · rw [hx]; refine s_pam.mpr ?_; exact L
  · cases hx
def q_pmG : qRl := ([sp (-1) [(3, 1)], sp 0 [], sp 0 [], sp 0 []], [(1054, [2, 0, 1, 0, 1, 2, 3], [])])
theorem q_pmG_ok : RlOk q_pmG := by
  intro fs zs h x hx
  obtain ⟨P0, h⟩ := snAll h
  replace P0 := sp_1.mp P0
  obtain ⟨P1, h⟩ := snAll h
  replace P1 := sp_0.mp P1
  obtain ⟨P2, h⟩ := snAll h
  replace P2 := sp_0.mp P2
  obtain ⟨P3, h⟩ := snAll h
  replace P3 := sp_0.mp P3
  have L : ePam ((nthF fs 0)) ((nthF fs 1)) ((nthZ zs 0)) ((nthZ zs 1)) ((nthZ zs 2)) ((nthZ zs 3)) := by
    apply M_pmG (F0 := nthF fs 0) (F1 := nthF fs 1) (N0 := nthZ zs 0) (N1 := nthZ zs 1) (N2 := nthZ zs 2) (N3 := nthZ zs 3) <;> first | assumption | omega
  rcases List.mem_cons.mp hx with hx | hx
  · rw [hx]; refine s_pam.mpr ?_; exact L
  · cases hx
def q_pfE : qRl := ([(1054, [2, 0, 1, 0, 1, 2, 4], []), sp 0 [(4, (-1))], (1008, [2, 0, 1, 1, 5], []), sp (-93) [(5, 1)], sp 93 [(5, (-1))], sp 0 []], [(1055, [2, 0, 1, 0, 1, 2, 3], [])])
theorem q_pfE_ok : RlOk q_pfE := by
  intro fs zs h x hx
  obtain ⟨P0, h⟩ := snAll h
  replace P0 := s_pam.mp P0
  obtain ⟨P1, h⟩ := snAll h
  replace P1 := sp_1.mp P1
  obtain ⟨P2, h⟩ := snAll h
  replace P2 := s_sgn.mp P2
  obtain ⟨P3, h⟩ := snAll h
  replace P3 := sp_1.mp P3
  obtain ⟨P4, h⟩ := snAll h
  replace P4 := sp_1.mp P4
  obtain ⟨P5, h⟩ := snAll h
  replace P5 := sp_0.mp P5
  have L : ePaf ((nthF fs 0)) ((nthF fs 1)) ((nthZ zs 0)) ((nthZ zs 1)) ((nthZ zs 2)) ((nthZ zs 3)) := by
    apply M_pfE (F0 := nthF fs 0) (F1 := nthF fs 1) (N0 := nthZ zs 0) (N1 := nthZ zs 1) (N2 := nthZ zs 2) (N3 := nthZ zs 3) (N4 := nthZ zs 4) (N5 := nthZ zs 5) <;> first | assumption | omega
  rcases List.mem_cons.mp hx with hx | hx
  · rw [hx]; refine s_paf.mpr ?_; exact L
  · cases hx
def q_pfG : qRl := ([sp (-1) [(3, 1)], sp 0 [], sp 0 [], sp 0 []], [(1055, [2, 0, 1, 0, 1, 2, 3], [])])
theorem q_pfG_ok : RlOk q_pfG := by
  intro fs zs h x hx
  obtain ⟨P0, h⟩ := snAll h
  replace P0 := sp_1.mp P0
  obtain ⟨P1, h⟩ := snAll h
  replace P1 := sp_0.mp P1
  obtain ⟨P2, h⟩ := snAll h
  replace P2 := sp_0.mp P2
  obtain ⟨P3, h⟩ := snAll h
  replace P3 := sp_0.mp P3
  have L : ePaf ((nthF fs 0)) ((nthF fs 1)) ((nthZ zs 0)) ((nthZ zs 1)) ((nthZ zs 2)) ((nthZ zs 3)) := by
    apply M_pfG (F0 := nthF fs 0) (F1 := nthF fs 1) (N0 := nthZ zs 0) (N1 := nthZ zs 1) (N2 := nthZ zs 2) (N3 := nthZ zs 3) <;> first | assumption | omega
  rcases List.mem_cons.mp hx with hx | hx
  · rw [hx]; refine s_paf.mpr ?_; exact L
  · cases hx
def q_pdR : qRl := ([(1036, [2, 0, 1, 0, 6, 2, 4], []), sp 0 [(6, 1), (3, (-1))], sp 0 [(3, 1), (6, (-1))], sp (-1) [(4, 1)], sp (-1) [(5, 1), (0, (-1))], sp 1 [(5, (-1)), (0, 1)], (1013, [2, 0, 1, 5, 1], [])], [(1056, [2, 0, 1, 0, 1, 2, 3], [])])
theorem q_pdR_ok : RlOk q_pdR := by
  intro fs zs h x hx
  obtain ⟨P0, h⟩ := snAll h
  replace P0 := s_det_isNamedAs.mp P0
  obtain ⟨P1, h⟩ := snAll h
  replace P1 := sp_2.mp P1
  obtain ⟨P2, h⟩ := snAll h
  replace P2 := sp_2.mp P2
  obtain ⟨P3, h⟩ := snAll h
  replace P3 := sp_1.mp P3
  obtain ⟨P4a, h⟩ := snAll h
  replace P4a := sp_2.mp P4a
  obtain ⟨P4b, h⟩ := snAll h
  replace P4b := sp_2.mp P4b
  obtain ⟨P5, h⟩ := snAll h
  replace P5 := s_exprT.mp P5
  have L : ePad ((nthF fs 0)) ((nthF fs 1)) ((nthZ zs 0)) ((nthZ zs 1)) ((nthZ zs 2)) ((nthZ zs 3)) := by
    apply M_pdR (F0 := nthF fs 0) (F1 := nthF fs 1) (N0 := nthZ zs 0) (N1 := nthZ zs 1) (N2 := nthZ zs 2) (N3 := nthZ zs 3) (N4 := nthZ zs 4) (N5 := nthZ zs 5) (N6 := nthZ zs 6) <;> first | assumption | omega
  rcases List.mem_cons.mp hx with hx | hx
  · rw [hx]; refine s_pad.mpr ?_; exact L
  · cases hx
def q_pdN : qRl := ([(1036, [2, 0, 1, 0, 6, 2, 4], []), sp 0 [(6, 1), (3, (-1))], sp 0 [(3, 1), (6, (-1))], sp 0 [(4, (-1))], sp 0 [(5, 1)], sp 0 [(5, (-1))], (1055, [2, 0, 1, 0, 1, 2, 5], []), sp 0 [(5, (-1))]], [(1056, [2, 0, 1, 0, 1, 2, 3], [])])
theorem q_pdN_ok : RlOk q_pdN := by
  intro fs zs h x hx
  obtain ⟨P0, h⟩ := snAll h
  replace P0 := s_det_isNamedAs.mp P0
  obtain ⟨P1, h⟩ := snAll h
  replace P1 := sp_2.mp P1
  obtain ⟨P2, h⟩ := snAll h
  replace P2 := sp_2.mp P2
  obtain ⟨P3, h⟩ := snAll h
  replace P3 := sp_1.mp P3
  obtain ⟨P4a, h⟩ := snAll h
  replace P4a := sp_1.mp P4a
  obtain ⟨P4b, h⟩ := snAll h
  replace P4b := sp_1.mp P4b
  obtain ⟨P5, h⟩ := snAll h
  replace P5 := s_paf.mp P5
  obtain ⟨P6, h⟩ := snAll h
  replace P6 := sp_1.mp P6
  have L : ePad ((nthF fs 0)) ((nthF fs 1)) ((nthZ zs 0)) ((nthZ zs 1)) ((nthZ zs 2)) ((nthZ zs 3)) := by
    apply M_pdN (F0 := nthF fs 0) (F1 := nthF fs 1) (N0 := nthZ zs 0) (N1 := nthZ zs 1) (N2 := nthZ zs 2) (N3 := nthZ zs 3) (N4 := nthZ zs 4) (N5 := nthZ zs 5) (N6 := nthZ zs 6) <;> first | assumption | omega
  rcases List.mem_cons.mp hx with hx | hx
  · rw [hx]; refine s_pad.mpr ?_; exact L
  · cases hx
def q_pdr : qRl := ([(1056, [2, 0, 1, 4, 1, 5, 6], []), (1036, [2, 0, 1, 4, 8, 5, 7], []), sp 0 [(8, 1), (6, (-1))], sp 0 [(6, 1), (8, (-1))], sp (-1) [(7, 1)], sp (-1) [(0, 1), (4, (-1))], sp 1 [(4, 1), (0, (-1))], sp 0 []], [(1061, [2, 0, 1, 0, 1, 2], [])])
theorem q_pdr_ok : RlOk q_pdr := by
  intro fs zs h x hx
  obtain ⟨P0, h⟩ := snAll h
  replace P0 := s_pad.mp P0
  obtain ⟨P1, h⟩ := snAll h
  replace P1 := s_det_isNamedAs.mp P1
  obtain ⟨P2, h⟩ := snAll h
  replace P2 := sp_2.mp P2
  obtain ⟨P3, h⟩ := snAll h
  replace P3 := sp_2.mp P3
  obtain ⟨P4, h⟩ := snAll h
  replace P4 := sp_1.mp P4
  obtain ⟨P5, h⟩ := snAll h
  replace P5 := sp_2.mp P5
  obtain ⟨P6, h⟩ := snAll h
  replace P6 := sp_2.mp P6
  obtain ⟨P7, h⟩ := snAll h
  replace P7 := sp_0.mp P7
  have L : eExz ((nthF fs 0)) ((nthF fs 1)) ((nthZ zs 0)) ((nthZ zs 1)) ((nthZ zs 2)) := by
    apply M_pdr (F0 := nthF fs 0) (F1 := nthF fs 1) (N0 := nthZ zs 0) (N1 := nthZ zs 1) (N2 := nthZ zs 2) (N3 := nthZ zs 3) (N4 := nthZ zs 4) (N5 := nthZ zs 5) (N6 := nthZ zs 6) (N7 := nthZ zs 7) (N8 := nthZ zs 8) <;> first | assumption | omega
  rcases List.mem_cons.mp hx with hx | hx
  · rw [hx]; refine s_exz.mpr ?_; exact L
  · cases hx
def q_pdn : qRl := ([(1056, [2, 0, 1, 0, 1, 2, 4], []), (1036, [2, 0, 1, 0, 6, 2, 5], []), sp 0 [(6, 1), (4, (-1))], sp 0 [(4, 1), (6, (-1))], sp 0 [(5, (-1))], sp 0 []], [(1055, [2, 0, 1, 0, 1, 2, 3], [])])
theorem q_pdn_ok : RlOk q_pdn := by
  intro fs zs h x hx
  obtain ⟨P0, h⟩ := snAll h
  replace P0 := s_pad.mp P0
  obtain ⟨P1, h⟩ := snAll h
  replace P1 := s_det_isNamedAs.mp P1
  obtain ⟨P2, h⟩ := snAll h
  replace P2 := sp_2.mp P2
  obtain ⟨P3, h⟩ := snAll h
  replace P3 := sp_2.mp P3
  obtain ⟨P4, h⟩ := snAll h
  replace P4 := sp_1.mp P4
  obtain ⟨P5, h⟩ := snAll h
  replace P5 := sp_0.mp P5
  have L : ePaf ((nthF fs 0)) ((nthF fs 1)) ((nthZ zs 0)) ((nthZ zs 1)) ((nthZ zs 2)) ((nthZ zs 3)) := by
    apply M_pdn (F0 := nthF fs 0) (F1 := nthF fs 1) (N0 := nthZ zs 0) (N1 := nthZ zs 1) (N2 := nthZ zs 2) (N3 := nthZ zs 3) (N4 := nthZ zs 4) (N5 := nthZ zs 5) (N6 := nthZ zs 6) <;> first | assumption | omega
  rcases List.mem_cons.mp hx with hx | hx
  · rw [hx]; refine s_paf.mpr ?_; exact L
  · cases hx
def q_exg : qRl := ([sp (-1) [(2, 1)], sp 0 [], sp 0 []], [(1061, [2, 0, 1, 0, 1, 2], [])])
theorem q_exg_ok : RlOk q_exg := by
  intro fs zs h x hx
  obtain ⟨P0, h⟩ := snAll h
  replace P0 := sp_1.mp P0
  obtain ⟨P1, h⟩ := snAll h
  replace P1 := sp_0.mp P1
  obtain ⟨P2, h⟩ := snAll h
  replace P2 := sp_0.mp P2
  have L : eExz ((nthF fs 0)) ((nthF fs 1)) ((nthZ zs 0)) ((nthZ zs 1)) ((nthZ zs 2)) := by
    apply M_exg (F0 := nthF fs 0) (F1 := nthF fs 1) (N0 := nthZ zs 0) (N1 := nthZ zs 1) (N2 := nthZ zs 2) <;> first | assumption | omega
  rcases List.mem_cons.mp hx with hx | hx
  · rw [hx]; refine s_exz.mpr ?_; exact L
  · cases hx
def q_exe : qRl := ([(1061, [2, 0, 1, 2, 3, 4], []), sp 0 [(4, (-1))], sp 0 [(0, 1), (2, (-1))], sp 0 [(2, 1), (0, (-1))], sp 0 [(1, 1), (3, (-1))], sp 0 [(3, 1), (1, (-1))]], [(1013, [2, 0, 1, 0, 1], [])])
theorem q_exe_ok : RlOk q_exe := by
  intro fs zs h x hx
  obtain ⟨P0, h⟩ := snAll h
  replace P0 := s_exz.mp P0
  obtain ⟨P1, h⟩ := snAll h
  replace P1 := sp_1.mp P1
  obtain ⟨P2, h⟩ := snAll h
  replace P2 := sp_2.mp P2
  obtain ⟨P3, h⟩ := snAll h
  replace P3 := sp_2.mp P3
  obtain ⟨P4, h⟩ := snAll h
  replace P4 := sp_2.mp P4
  obtain ⟨P5, h⟩ := snAll h
  replace P5 := sp_2.mp P5
  have L : RunT ((nthF fs 0)) ((nthF fs 1)) ((nthZ zs 0)) ((nthZ zs 1)) 0 0 := by
    apply M_exe (F0 := nthF fs 0) (F1 := nthF fs 1) (N0 := nthZ zs 0) (N1 := nthZ zs 1) (N2 := nthZ zs 2) (N3 := nthZ zs 3) (N4 := nthZ zs 4) <;> first | assumption | omega
  rcases List.mem_cons.mp hx with hx | hx
  · rw [hx]; refine s_exprT.mpr ?_; exact L
  · cases hx
def q_pR1 : qRl := ([(1055, [2, 0, 1, 0, 1, 2, 3], []), sp 0 [(3, (-1))], (1053, [2, 0, 1, 0, 4, 2, 5], []), sp 0 [(5, (-1))], sp (-1) [(1, 1), (4, (-1))], (1034, [1, 0, 4, 2, 6], []), sp (-1) [(6, 1)], (1, [1, 4, 7], []), (1030, [0, 7, 8], []), sp 0 [(8, 1)], sp (-1) [(9, 1), (4, (-1))], sp 1 [(9, (-1)), (4, 1)], (1035, [2, 0, 1, 9, 10, 2, 11], []), sp (-42) [(10, 1)], sp 42 [(10, (-1))], sp (-1) [(11, 1)], sp (-3) [(12, 1), (4, (-1))], sp 3 [(12, (-1)), (4, 1)], sp (-2) [(13, 1), (4, (-1))], sp 2 [(13, (-1)), (4, 1)], (1, [1, 13, 14], []), sp 0 [(15, 1)], sp 0 [(15, (-1))]], [sp (-3) [(1, 1), (4, (-1))], sp (-1) [(14, 1)], sp 8 [(14, (-1))], (1054, [2, 0, 1, 0, 12, 2, 15], [])])
theorem q_pR1_ok : RlOk q_pR1 := by
  intro fs zs h x hx
  obtain ⟨P0, h⟩ := snAll h
  replace P0 := s_paf.mp P0
  obtain ⟨P1, h⟩ := snAll h
  replace P1 := sp_1.mp P1
  obtain ⟨P2, h⟩ := snAll h
  replace P2 := s_paw.mp P2
  obtain ⟨P3, h⟩ := snAll h
  replace P3 := sp_1.mp P3
  obtain ⟨P4, h⟩ := snAll h
  replace P4 := sp_2.mp P4
  obtain ⟨P5, h⟩ := snAll h
  replace P5 := s_det_isName.mp P5
  obtain ⟨P6, h⟩ := snAll h
  replace P6 := sp_1.mp P6
  obtain ⟨P7, h⟩ := snAll h
  replace P7 := s_rd.mp P7
  obtain ⟨P8, h⟩ := snAll h
  replace P8 := s_det_registerOf.mp P8
  obtain ⟨P9, h⟩ := snAll h
  replace P9 := sp_1.mp P9
  obtain ⟨P10a, h⟩ := snAll h
  replace P10a := sp_2.mp P10a
  obtain ⟨P10b, h⟩ := snAll h
  replace P10b := sp_2.mp P10b
  obtain ⟨P11, h⟩ := snAll h
  replace P11 := s_det_isSign.mp P11
  obtain ⟨P12, h⟩ := snAll h
  replace P12 := sp_1.mp P12
  obtain ⟨P13, h⟩ := snAll h
  replace P13 := sp_1.mp P13
  obtain ⟨P14, h⟩ := snAll h
  replace P14 := sp_1.mp P14
  obtain ⟨P15a, h⟩ := snAll h
  replace P15a := sp_2.mp P15a
  obtain ⟨P15b, h⟩ := snAll h
  replace P15b := sp_2.mp P15b
  obtain ⟨P16a, h⟩ := snAll h
  replace P16a := sp_2.mp P16a
  obtain ⟨P16b, h⟩ := snAll h
  replace P16b := sp_2.mp P16b
  obtain ⟨P17, h⟩ := snAll h
  replace P17 := s_rd.mp P17
  obtain ⟨P18a, h⟩ := snAll h
  replace P18a := sp_1.mp P18a
  obtain ⟨P18b, h⟩ := snAll h
  replace P18b := sp_1.mp P18b
  have L : ((nthZ zs 4) + 3 ≤ (nthZ zs 1)) ∧ (1 ≤ (nthZ zs 14)) ∧ ((nthZ zs 14) ≤ 8) ∧ (ePam ((nthF fs 0)) ((nthF fs 1)) ((nthZ zs 0)) ((nthZ zs 12)) ((nthZ zs 2)) ((nthZ zs 15))) := by
    apply M_pR1 (F0 := nthF fs 0) (F1 := nthF fs 1) (N0 := nthZ zs 0) (N1 := nthZ zs 1) (N2 := nthZ zs 2) (N3 := nthZ zs 3) (N4 := nthZ zs 4) (N5 := nthZ zs 5) (N6 := nthZ zs 6) (N7 := nthZ zs 7) (N8 := nthZ zs 8) (N9 := nthZ zs 9) (N10 := nthZ zs 10) (N11 := nthZ zs 11) (N12 := nthZ zs 12) (N13 := nthZ zs 13) (N14 := nthZ zs 14) (N15 := nthZ zs 15) <;> first | assumption | omega
  obtain ⟨L0, L1, L2, L3⟩ := L
  rcases List.mem_cons.mp hx with hx | hx
  · rw [hx]; refine sp_2.mpr ?_; omega
  rcases List.mem_cons.mp hx with hx | hx
  · rw [hx]; refine sp_1.mpr ?_; omega
  rcases List.mem_cons.mp hx with hx | hx
  · rw [hx]; refine sp_1.mpr ?_; omega
  rcases List.mem_cons.mp hx with hx | hx
  · rw [hx]; refine s_pam.mpr ?_; exact L3
  · cases hx
def q_pP0 : qRl := ([(1055, [2, 0, 1, 0, 1, 2, 3], []), sp 0 [(3, (-1))], (1053, [2, 0, 1, 0, 4, 2, 5], []), sp 0 [(5, (-1))], sp (-1) [(1, 1), (4, (-1))], (1034, [1, 0, 4, 2, 6], []), sp 0 [(6, (-1))], (1026, [2, 0, 1, 4, 13, 2, 14], []), sp (-1) [(13, 1)], sp 1 [(13, (-1))], sp 0 [(15, 1)], sp 0 [(15, (-1))]], [sp (-1) [(14, 1), (4, (-1))], sp 0 [(1, 1), (14, (-1))], (1054, [2, 0, 1, 0, 14, 2, 15], [])])
theorem q_pP0_ok : RlOk q_pP0 := by
  intro fs zs h x hx
  obtain ⟨P0, h⟩ := snAll h
  replace P0 := s_paf.mp P0
  obtain ⟨P1, h⟩ := snAll h
  replace P1 := sp_1.mp P1
  obtain ⟨P2, h⟩ := snAll h
  replace P2 := s_paw.mp P2
  obtain ⟨P3, h⟩ := snAll h
  replace P3 := sp_1.mp P3
  obtain ⟨P4, h⟩ := snAll h
  replace P4 := sp_2.mp P4
  obtain ⟨P5, h⟩ := snAll h
  replace P5 := s_det_isName.mp P5
  obtain ⟨P6, h⟩ := snAll h
  replace P6 := sp_1.mp P6
  obtain ⟨P7, h⟩ := snAll h
  replace P7 := s_det_pass.mp P7
  obtain ⟨P8, h⟩ := snAll h
  replace P8 := sp_1.mp P8
  obtain ⟨P9, h⟩ := snAll h
  replace P9 := sp_1.mp P9
  obtain ⟨P10a, h⟩ := snAll h
  replace P10a := sp_1.mp P10a
  obtain ⟨P10b, h⟩ := snAll h
  replace P10b := sp_1.mp P10b
  have L : ((nthZ zs 4) + 1 ≤ (nthZ zs 14)) ∧ ((nthZ zs 14) ≤ (nthZ zs 1)) ∧ (ePam ((nthF fs 0)) ((nthF fs 1)) ((nthZ zs 0)) ((nthZ zs 14)) ((nthZ zs 2)) ((nthZ zs 15))) := by
    apply M_pP0 (F0 := nthF fs 0) (F1 := nthF fs 1) (N0 := nthZ zs 0) (N1 := nthZ zs 1) (N2 := nthZ zs 2) (N3 := nthZ zs 3) (N4 := nthZ zs 4) (N5 := nthZ zs 5) (N6 := nthZ zs 6) (N7 := nthZ zs 7) (N8 := nthZ zs 8) (N9 := nthZ zs 9) (N10 := nthZ zs 10) (N11 := nthZ zs 11) (N12 := nthZ zs 12) (N13 := nthZ zs 13) (N14 := nthZ zs 14) (N15 := nthZ zs 15) <;> first | assumption | omega
  obtain ⟨L0, L1, L2⟩ := L
  rcases List.mem_cons.mp hx with hx | hx
  · rw [hx]; refine sp_2.mpr ?_; omega
  rcases List.mem_cons.mp hx with hx | hx
  · rw [hx]; refine sp_2.mpr ?_; omega
  rcases List.mem_cons.mp hx with hx | hx
  · rw [hx]; refine s_pam.mpr ?_; exact L2
  · cases hx
def q_pP1 : qRl := ([(1055, [2, 0, 1, 0, 1, 2, 3], []), sp 0 [(3, (-1))], (1053, [2, 0, 1, 0, 4, 2, 5], []), sp 0 [(5, (-1))], sp (-1) [(1, 1), (4, (-1))], (1034, [1, 0, 4, 2, 6], []), sp (-1) [(6, 1)], (1, [1, 4, 7], []), (1030, [0, 7, 8], []), sp (-1) [(8, (-1))], (1026, [2, 0, 1, 4, 13, 2, 14], []), sp (-1) [(13, 1)], sp 1 [(13, (-1))], sp 0 [(15, 1)], sp 0 [(15, (-1))]], [sp (-1) [(14, 1), (4, (-1))], sp 0 [(1, 1), (14, (-1))], (1054, [2, 0, 1, 0, 14, 2, 15], [])])
theorem q_pP1_ok : RlOk q_pP1 := by
  intro fs zs h x hx
  obtain ⟨P0, h⟩ := snAll h
  replace P0 := s_paf.mp P0
  obtain ⟨P1, h⟩ := snAll h
  replace P1 := sp_1.mp P1
  obtain ⟨P2, h⟩ := snAll h
  replace P2 := s_paw.mp P2
  obtain ⟨P3, h⟩ := snAll h
  replace P3 := sp_1.mp P3
  obtain ⟨P4, h⟩ := snAll h
  replace P4 := sp_2.mp P4
  obtain ⟨P5, h⟩ := snAll h
  replace P5 := s_det_isName.mp P5
  obtain ⟨P6, h⟩ := snAll h
  replace P6 := sp_1.mp P6
  obtain ⟨P7, h⟩ := snAll h
  replace P7 := s_rd.mp P7
  obtain ⟨P8, h⟩ := snAll h
  replace P8 := s_det_registerOf.mp P8
  obtain ⟨P9, h⟩ := snAll h
  replace P9 := sp_1.mp P9
  obtain ⟨P10, h⟩ := snAll h
  replace P10 := s_det_pass.mp P10
  obtain ⟨P11, h⟩ := snAll h
  replace P11 := sp_1.mp P11
  obtain ⟨P12, h⟩ := snAll h
  replace P12 := sp_1.mp P12
  obtain ⟨P13a, h⟩ := snAll h
  replace P13a := sp_1.mp P13a
  obtain ⟨P13b, h⟩ := snAll h
  replace P13b := sp_1.mp P13b
  have L : ((nthZ zs 4) + 1 ≤ (nthZ zs 14)) ∧ ((nthZ zs 14) ≤ (nthZ zs 1)) ∧ (ePam ((nthF fs 0)) ((nthF fs 1)) ((nthZ zs 0)) ((nthZ zs 14)) ((nthZ zs 2)) ((nthZ zs 15))) := by
    apply M_pP1 (F0 := nthF fs 0) (F1 := nthF fs 1) (N0 := nthZ zs 0) (N1 := nthZ zs 1) (N2 := nthZ zs 2) (N3 := nthZ zs 3) (N4 := nthZ zs 4) (N5 := nthZ zs 5) (N6 := nthZ zs 6) (N7 := nthZ zs 7) (N8 := nthZ zs 8) (N9 := nthZ zs 9) (N10 := nthZ zs 10) (N11 := nthZ zs 11) (N12 := nthZ zs 12) (N13 := nthZ zs 13) (N14 := nthZ zs 14) (N15 := nthZ zs 15) <;> first | assumption | omega
  obtain ⟨L0, L1, L2⟩ := L
  rcases List.mem_cons.mp hx with hx | hx
  · rw [hx]; refine sp_2.mpr ?_; omega
  rcases List.mem_cons.mp hx with hx | hx
  · rw [hx]; refine sp_2.mpr ?_; omega
  rcases List.mem_cons.mp hx with hx | hx
  · rw [hx]; refine s_pam.mpr ?_; exact L2
  · cases hx
def q_pM : qRl := ([(1055, [2, 0, 1, 0, 1, 2, 3], []), sp 0 [(3, (-1))], (1054, [2, 0, 1, 0, 4, 2, 5], []), sp 0 [(5, (-1))], sp (-1) [(1, 1), (4, (-1))], (1, [1, 4, 6], []), sp (-1) [(7, 1), (4, (-1))], sp 1 [(7, (-1)), (4, 1)], sp 0 [(8, 1)], sp 0 [(8, (-1))]], [sp (-43) [(6, 1)], sp 45 [(6, (-1))], (1060, [0, 6], []), (1053, [2, 0, 1, 0, 7, 2, 8], []), sp (-2) [(1, 1), (4, (-1))]])
theorem q_pM_ok : RlOk q_pM := by
  intro fs zs h x hx
  obtain ⟨P0, h⟩ := snAll h
  replace P0 := s_paf.mp P0
  obtain ⟨P1, h⟩ := snAll h
  replace P1 := sp_1.mp P1
  obtain ⟨P2, h⟩ := snAll h
  replace P2 := s_pam.mp P2
  obtain ⟨P3, h⟩ := snAll h
  replace P3 := sp_1.mp P3
  obtain ⟨P4, h⟩ := snAll h
  replace P4 := sp_2.mp P4
  obtain ⟨P5, h⟩ := snAll h
  replace P5 := s_rd.mp P5
  obtain ⟨P6a, h⟩ := snAll h
  replace P6a := sp_2.mp P6a
  obtain ⟨P6b, h⟩ := snAll h
  replace P6b := sp_2.mp P6b
  obtain ⟨P7a, h⟩ := snAll h
  replace P7a := sp_1.mp P7a
  obtain ⟨P7b, h⟩ := snAll h
  replace P7b := sp_1.mp P7b
  have L : (43 ≤ (nthZ zs 6)) ∧ ((nthZ zs 6) ≤ 45) ∧ (ePms ((nthZ zs 6))) ∧ (ePaw ((nthF fs 0)) ((nthF fs 1)) ((nthZ zs 0)) ((nthZ zs 7)) ((nthZ zs 2)) ((nthZ zs 8))) ∧ ((nthZ zs 4) + 2 ≤ (nthZ zs 1)) := by
    apply M_pM (F0 := nthF fs 0) (F1 := nthF fs 1) (N0 := nthZ zs 0) (N1 := nthZ zs 1) (N2 := nthZ zs 2) (N3 := nthZ zs 3) (N4 := nthZ zs 4) (N5 := nthZ zs 5) (N6 := nthZ zs 6) (N7 := nthZ zs 7) (N8 := nthZ zs 8) <;> first | assumption | omega
  obtain ⟨L0, L1, L2, L3, L4⟩ := L
  rcases List.mem_cons.mp hx with hx | hx
  · rw [hx]; refine sp_1.mpr ?_; omega
  rcases List.mem_cons.mp hx with hx | hx
  · rw [hx]; refine sp_1.mpr ?_; omega
  rcases List.mem_cons.mp hx with hx | hx
  · rw [hx]; refine s_pms.mpr ?_; exact L2
  rcases List.mem_cons.mp hx with hx | hx
  · rw [hx]; refine s_paw.mpr ?_; exact L3
  rcases List.mem_cons.mp hx with hx | hx
  · rw [hx]; refine sp_2.mpr ?_; omega
  · cases hx
def q_pMe : qRl := ([(1055, [2, 0, 1, 0, 1, 2, 3], []), sp 0 [(3, (-1))], (1054, [2, 0, 1, 0, 4, 2, 5], []), sp 0 [(5, (-1))], sp 0 []], [sp 0 [(1, 1), (4, (-1))]])
theorem q_pMe_ok : RlOk q_pMe := by
  intro fs zs h x hx
  obtain ⟨P0, h⟩ := snAll h
  replace P0 := s_paf.mp P0
  obtain ⟨P1, h⟩ := snAll h
  replace P1 := sp_1.mp P1
  obtain ⟨P2, h⟩ := snAll h
  replace P2 := s_pam.mp P2
  obtain ⟨P3, h⟩ := snAll h
  replace P3 := sp_1.mp P3
  obtain ⟨P4, h⟩ := snAll h
  replace P4 := sp_0.mp P4
  have L : (nthZ zs 4) ≤ (nthZ zs 1) := by
    apply M_pMe (F0 := nthF fs 0) (F1 := nthF fs 1) (N0 := nthZ zs 0) (N1 := nthZ zs 1) (N2 := nthZ zs 2) (N3 := nthZ zs 3) (N4 := nthZ zs 4) (N5 := nthZ zs 5) <;> first | assumption | omega
  rcases List.mem_cons.mp hx with hx | hx
  · rw [hx]; refine sp_2.mpr ?_; omega
  · cases hx
def q_rp1 : qRl := ([sp 0 [(0, 1)], sp 0 [(0, (-1))], sp (-1) [(1, 1)], sp 1 [(1, (-1))]], [(1058, [3, 0, 1, 2, 0, 1], [])])
theorem q_rp1_ok : RlOk q_rp1 := by
  intro fs zs h x hx
  obtain ⟨P0, h⟩ := snAll h
  replace P0 := sp_1.mp P0
  obtain ⟨P1, h⟩ := snAll h
  replace P1 := sp_1.mp P1
  obtain ⟨P2, h⟩ := snAll h
  replace P2 := sp_1.mp P2
  obtain ⟨P3, h⟩ := snAll h
  replace P3 := sp_1.mp P3
  have L : eRp ((nthF fs 0)) ((nthF fs 1)) ((nthF fs 2)) ((nthZ zs 0)) ((nthZ zs 1)) := by
    apply M_rp1 (F0 := nthF fs 0) (F1 := nthF fs 1) (F2 := nthF fs 2) (N0 := nthZ zs 0) (N1 := nthZ zs 1) <;> first | assumption | omega
  rcases List.mem_cons.mp hx with hx | hx
  · rw [hx]; refine s_rp.mpr ?_; exact L
  · cases hx
def q_rp2 : qRl := ([sp 1 [(2, 1), (0, (-1))], sp (-1) [(2, (-1)), (0, 1)], (1059, [3, 0, 1, 2, 2], []), sp (-1) [(2, 1)], sp (-1) [(1, 1)], sp 1 [(1, (-1))], (1, [0, 2, 3], []), sp 1 [(4, 1), (3, 1)], sp (-1) [(4, (-1)), (3, (-1))], (1060, [0, 4], [])], [(1058, [3, 0, 1, 2, 0, 1], [])])
theorem q_rp2_ok : RlOk q_rp2 := by
  intro fs zs h x hx
  obtain ⟨P0a, h⟩ := snAll h
  replace P0a := sp_2.mp P0a
  obtain ⟨P0b, h⟩ := snAll h
  replace P0b := sp_2.mp P0b
  obtain ⟨P1, h⟩ := snAll h
  replace P1 := s_rpz.mp P1
  obtain ⟨P2, h⟩ := snAll h
  replace P2 := sp_1.mp P2
  obtain ⟨P3, h⟩ := snAll h
  replace P3 := sp_1.mp P3
  obtain ⟨P4, h⟩ := snAll h
  replace P4 := sp_1.mp P4
  obtain ⟨P5, h⟩ := snAll h
  replace P5 := s_rd.mp P5
  obtain ⟨P6a, h⟩ := snAll h
  replace P6a := sp_2.mp P6a
  obtain ⟨P6b, h⟩ := snAll h
  replace P6b := sp_2.mp P6b
  obtain ⟨P7, h⟩ := snAll h
  replace P7 := s_pms.mp P7
  have L : eRp ((nthF fs 0)) ((nthF fs 1)) ((nthF fs 2)) ((nthZ zs 0)) ((nthZ zs 1)) := by
    apply M_rp2 (F0 := nthF fs 0) (F1 := nthF fs 1) (F2 := nthF fs 2) (N0 := nthZ zs 0) (N1 := nthZ zs 1) (N2 := nthZ zs 2) (N3 := nthZ zs 3) (N4 := nthZ zs 4) <;> first | assumption | omega
  rcases List.mem_cons.mp hx with hx | hx
  · rw [hx]; refine s_rp.mpr ?_; exact L
  · cases hx
def q_rp3 : qRl := ([sp (-1) [(0, 1)], sp 1 [(0, (-1))], sp (-1) [(1, 1)], sp 1 [(1, (-1))], sp 0 [(2, 1)], sp 0 [(2, (-1))], (1, [0, 2, 3], []), sp 1 [(4, 1), (3, 1)], sp (-1) [(4, (-1)), (3, (-1))], sp (-45) [(4, 1)], sp 45 [(4, (-1))]], [(1058, [3, 0, 1, 2, 0, 1], [])])
theorem q_rp3_ok : RlOk q_rp3 := by
  intro fs zs h x hx
  obtain ⟨P0, h⟩ := snAll h
  replace P0 := sp_1.mp P0
  obtain ⟨P1, h⟩ := snAll h
  replace P1 := sp_1.mp P1
  obtain ⟨P2, h⟩ := snAll h
  replace P2 := sp_1.mp P2
  obtain ⟨P3, h⟩ := snAll h
  replace P3 := sp_1.mp P3
  obtain ⟨P4a, h⟩ := snAll h
  replace P4a := sp_1.mp P4a
  obtain ⟨P4b, h⟩ := snAll h
  replace P4b := sp_1.mp P4b
  obtain ⟨P5, h⟩ := snAll h
  replace P5 := s_rd.mp P5
  obtain ⟨P6a, h⟩ := snAll h
  replace P6a := sp_2.mp P6a
  obtain ⟨P6b, h⟩ := snAll h
  replace P6b := sp_2.mp P6b
  obtain ⟨P7, h⟩ := snAll h
  replace P7 := sp_1.mp P7
  obtain ⟨P8, h⟩ := snAll h
  replace P8 := sp_1.mp P8
  have L : eRp ((nthF fs 0)) ((nthF fs 1)) ((nthF fs 2)) ((nthZ zs 0)) ((nthZ zs 1)) := by
    apply M_rp3 (F0 := nthF fs 0) (F1 := nthF fs 1) (F2 := nthF fs 2) (N0 := nthZ zs 0) (N1 := nthZ zs 1) (N2 := nthZ zs 2) (N3 := nthZ zs 3) (N4 := nthZ zs 4) <;> first | assumption | omega
  rcases List.mem_cons.mp hx with hx | hx
  · rw [hx]; refine s_rp.mpr ?_; exact L
  · cases hx
def q_rpW : qRl := ([(2, [3, 0, 2, 3], []), (1058, [3, 0, 1, 2, 0, 1], []), sp 0 [(2, 1), (0, (-1))]], [(1058, [3, 3, 1, 2, 0, 1], [])])
theorem q_rpW_ok : RlOk q_rpW := by
  intro fs zs h x hx
  obtain ⟨P0, h⟩ := snAll h
  replace P0 := s_wr.mp P0
  obtain ⟨P1, h⟩ := snAll h
  replace P1 := s_rp.mp P1
  obtain ⟨P2, h⟩ := snAll h
  replace P2 := sp_2.mp P2
  have L : eRp ((nthF fs 3)) ((nthF fs 1)) ((nthF fs 2)) ((nthZ zs 0)) ((nthZ zs 1)) := by
    apply M_rpW (F0 := nthF fs 0) (F1 := nthF fs 1) (F2 := nthF fs 2) (F3 := nthF fs 3) (N0 := nthZ zs 0) (N1 := nthZ zs 1) (N2 := nthZ zs 2) (N3 := nthZ zs 3) <;> first | assumption | omega
  rcases List.mem_cons.mp hx with hx | hx
  · rw [hx]; refine s_rp.mpr ?_; exact L
  · cases hx
def q_rzW : qRl := ([(2, [3, 0, 2, 3], []), (1059, [3, 0, 1, 2, 0], []), sp 0 [(2, 1), (0, (-1))]], [(1059, [3, 3, 1, 2, 0], [])])
theorem q_rzW_ok : RlOk q_rzW := by
  intro fs zs h x hx
  obtain ⟨P0, h⟩ := snAll h
  replace P0 := s_wr.mp P0
  obtain ⟨P1, h⟩ := snAll h
  replace P1 := s_rpz.mp P1
  obtain ⟨P2, h⟩ := snAll h
  replace P2 := sp_2.mp P2
  have L : eRpz ((nthF fs 3)) ((nthF fs 1)) ((nthF fs 2)) ((nthZ zs 0)) := by
    apply M_rzW (F0 := nthF fs 0) (F1 := nthF fs 1) (F2 := nthF fs 2) (F3 := nthF fs 3) (N0 := nthZ zs 0) (N1 := nthZ zs 1) (N2 := nthZ zs 2) (N3 := nthZ zs 3) <;> first | assumption | omega
  rcases List.mem_cons.mp hx with hx | hx
  · rw [hx]; refine s_rpz.mpr ?_; exact L
  · cases hx
def q_rz0 : qRl := ([sp 0 [(0, (-1))]], [(1059, [3, 0, 1, 2, 0], [])])
theorem q_rz0_ok : RlOk q_rz0 := by
  intro fs zs h x hx
  obtain ⟨P0, h⟩ := snAll h
  replace P0 := sp_1.mp P0
  have L : eRpz ((nthF fs 0)) ((nthF fs 1)) ((nthF fs 2)) ((nthZ zs 0)) := by
    apply M_rz0 (F0 := nthF fs 0) (F1 := nthF fs 1) (F2 := nthF fs 2) (N0 := nthZ zs 0) <;> first | assumption | omega
  rcases List.mem_cons.mp hx with hx | hx
  · rw [hx]; refine s_rpz.mpr ?_; exact L
  · cases hx
def q_rzE : qRl := ([(1058, [3, 0, 1, 2, 1, 2], []), sp (-1) [(2, 1)], (1013, [2, 1, 2, 3, 4], []), sp 0 [(3, 1)], (17, [1, 0, 5, 6, 7], []), (18, [1, 0, 5, 6, 7], []), sp 0 [(5, 1), (1, (-1))], sp 0 [(1, 1), (5, (-1))], sp 0 [(6, 1), (0, (-1))], sp 0 [(0, 1), (1, (-1)), (4, (-1)), (3, 1)], sp 0 [(4, 1), (3, (-1)), (0, (-1)), (1, 1)], sp 0 [(7, 1), (3, (-1)), (1, 1)], sp 0 [(3, 1), (1, (-1)), (7, (-1))]], [(1059, [3, 0, 1, 2, 0], [])])
theorem q_rzE_ok : RlOk q_rzE := by
  intro fs zs h x hx
  obtain ⟨P0, h⟩ := snAll h
  replace P0 := s_rp.mp P0
  obtain ⟨P1, h⟩ := snAll h
  replace P1 := sp_1.mp P1
  obtain ⟨P2, h⟩ := snAll h
  replace P2 := s_exprT.mp P2
  obtain ⟨P3, h⟩ := snAll h
  replace P3 := sp_1.mp P3
  obtain ⟨P4, h⟩ := snAll h
  replace P4 := s_ge_off.mp P4
  obtain ⟨P5, h⟩ := snAll h
  replace P5 := s_le_off.mp P5
  obtain ⟨P6, h⟩ := snAll h
  replace P6 := sp_2.mp P6
  obtain ⟨P7, h⟩ := snAll h
  replace P7 := sp_2.mp P7
  obtain ⟨P8, h⟩ := snAll h
  replace P8 := sp_2.mp P8
  obtain ⟨P9, h⟩ := snAll h
  replace P9 := sp_4.mp P9
  obtain ⟨P10, h⟩ := snAll h
  replace P10 := sp_4.mp P10
  obtain ⟨P11, h⟩ := snAll h
  replace P11 := sp_3.mp P11
  obtain ⟨P12, h⟩ := snAll h
  replace P12 := sp_3.mp P12
  have L : eRpz ((nthF fs 0)) ((nthF fs 1)) ((nthF fs 2)) ((nthZ zs 0)) := by
    apply M_rzE (F0 := nthF fs 0) (F1 := nthF fs 1) (F2 := nthF fs 2) (N0 := nthZ zs 0) (N1 := nthZ zs 1) (N2 := nthZ zs 2) (N3 := nthZ zs 3) (N4 := nthZ zs 4) (N5 := nthZ zs 5) (N6 := nthZ zs 6) (N7 := nthZ zs 7) <;> first | assumption | omega
  rcases List.mem_cons.mp hx with hx | hx
  · rw [hx]; refine s_rpz.mpr ?_; exact L
  · cases hx
def q_rzX : qRl := ([(1059, [3, 0, 1, 2, 0], []), sp (-1) [(0, 1)]], [(1015, [3, 0, 1, 2, 0], [])])
theorem q_rzX_ok : RlOk q_rzX := by
  intro fs zs h x hx
  obtain ⟨P0, h⟩ := snAll h
  replace P0 := s_rpz.mp P0
  obtain ⟨P1, h⟩ := snAll h
  replace P1 := sp_1.mp P1
  have L : RunP ((nthF fs 0)) ((nthF fs 1)) ((nthF fs 2)) ((nthZ zs 0)) 0 0 := by
    apply M_rzX (F0 := nthF fs 0) (F1 := nthF fs 1) (F2 := nthF fs 2) (N0 := nthZ zs 0) <;> first | assumption | omega
  rcases List.mem_cons.mp hx with hx | hx
  · rw [hx]; refine s_expr.mpr ?_; exact L
  · cases hx
def q_pms0 : qRl := ([sp (-43) [(0, 1)], sp 43 [(0, (-1))]], [(1060, [0, 0], [])])
theorem q_pms0_ok : RlOk q_pms0 := by
  intro fs zs h x hx
  obtain ⟨P0, h⟩ := snAll h
  replace P0 := sp_1.mp P0
  obtain ⟨P1, h⟩ := snAll h
  replace P1 := sp_1.mp P1
  have L : ePms ((nthZ zs 0)) := by
    apply M_pms0 (N0 := nthZ zs 0) <;> first | assumption | omega
  rcases List.mem_cons.mp hx with hx | hx
  · rw [hx]; refine s_pms.mpr ?_; exact L
  · cases hx
def q_pms1 : qRl := ([sp (-45) [(0, 1)], sp 45 [(0, (-1))]], [(1060, [0, 0], [])])
theorem q_pms1_ok : RlOk q_pms1 := by
  intro fs zs h x hx
  obtain ⟨P0, h⟩ := snAll h
  replace P0 := sp_1.mp P0
  obtain ⟨P1, h⟩ := snAll h
  replace P1 := sp_1.mp P1
  have L : ePms ((nthZ zs 0)) := by
    apply M_pms1 (N0 := nthZ zs 0) <;> first | assumption | omega
  rcases List.mem_cons.mp hx with hx | hx
  · rw [hx]; refine s_pms.mpr ?_; exact L
  · cases hx
def q_po0 : qRl := ([sp 0 [(0, (-1))], sp 0 [], sp 0 []], [(1063, [0, 0, 1, 2], [])])
theorem q_po0_ok : RlOk q_po0 := by
  intro fs zs h x hx
  obtain ⟨P0, h⟩ := snAll h
  replace P0 := sp_1.mp P0
  obtain ⟨P1, h⟩ := snAll h
  replace P1 := sp_0.mp P1
  obtain ⟨P2, h⟩ := snAll h
  replace P2 := sp_0.mp P2
  have L : ePmo ((nthZ zs 0)) ((nthZ zs 1)) ((nthZ zs 2)) := by
    apply M_po0 (N0 := nthZ zs 0) (N1 := nthZ zs 1) (N2 := nthZ zs 2) <;> first | assumption | omega
  rcases List.mem_cons.mp hx with hx | hx
  · rw [hx]; refine s_pmo.mpr ?_; exact L
  · cases hx
def q_po1 : qRl := ([(1060, [0, 3], []), sp 0 [(3, 1), (1, (-1))], sp 0 [(1, 1), (3, (-1))], sp 0 [], sp 0 []], [(1063, [0, 0, 1, 2], [])])
theorem q_po1_ok : RlOk q_po1 := by
  intro fs zs h x hx
  obtain ⟨P0, h⟩ := snAll h
  replace P0 := s_pms.mp P0
  obtain ⟨P1, h⟩ := snAll h
  replace P1 := sp_2.mp P1
  obtain ⟨P2, h⟩ := snAll h
  replace P2 := sp_2.mp P2
  obtain ⟨P3, h⟩ := snAll h
  replace P3 := sp_0.mp P3
  obtain ⟨P4, h⟩ := snAll h
  replace P4 := sp_0.mp P4
  have L : ePmo ((nthZ zs 0)) ((nthZ zs 1)) ((nthZ zs 2)) := by
    apply M_po1 (N0 := nthZ zs 0) (N1 := nthZ zs 1) (N2 := nthZ zs 2) (N3 := nthZ zs 3) <;> first | assumption | omega
  rcases List.mem_cons.mp hx with hx | hx
  · rw [hx]; refine s_pmo.mpr ?_; exact L
  · cases hx
def q_poG : qRl := ([sp (-1) [(2, 1)], sp 0 [], sp 0 []], [(1063, [0, 0, 1, 2], [])])
theorem q_poG_ok : RlOk q_poG := by
  intro fs zs h x hx
  obtain ⟨P0, h⟩ := snAll h
  replace P0 := sp_1.mp P0
  obtain ⟨P1, h⟩ := snAll h
  replace P1 := sp_0.mp P1
  obtain ⟨P2, h⟩ := snAll h
  replace P2 := sp_0.mp P2
  have L : ePmo ((nthZ zs 0)) ((nthZ zs 1)) ((nthZ zs 2)) := by
    apply M_poG (N0 := nthZ zs 0) (N1 := nthZ zs 1) (N2 := nthZ zs 2) <;> first | assumption | omega
  rcases List.mem_cons.mp hx with hx | hx
  · rw [hx]; refine s_pmo.mpr ?_; exact L
  · cases hx
def q_pox0 : qRl := ([(1063, [0, 0, 1, 2], []), sp (-1) [(0, 1)], sp 0 [(2, (-1))], sp 42 [(1, (-1))]], [sp (-1) []])
theorem q_pox0_ok : RlOk q_pox0 := by
  intro fs zs h x hx
  obtain ⟨P0, h⟩ := snAll h
  replace P0 := s_pmo.mp P0
  obtain ⟨P1, h⟩ := snAll h
  replace P1 := sp_1.mp P1
  obtain ⟨P2, h⟩ := snAll h
  replace P2 := sp_1.mp P2
  obtain ⟨P3, h⟩ := snAll h
  replace P3 := sp_1.mp P3
  have L : 1 ≤ 0 := by
    apply M_pox0 (N0 := nthZ zs 0) (N1 := nthZ zs 1) (N2 := nthZ zs 2) <;> first | assumption | omega
  rcases List.mem_cons.mp hx with hx | hx
  · rw [hx]; refine sp_0.mpr ?_; omega
  · cases hx
def q_pox1 : qRl := ([(1063, [0, 0, 1, 2], []), sp (-1) [(0, 1)], sp 0 [(2, (-1))], sp (-44) [(1, 1)], sp 44 [(1, (-1))]], [sp (-1) []])
theorem q_pox1_ok : RlOk q_pox1 := by
  intro fs zs h x hx
  obtain ⟨P0, h⟩ := snAll h
  replace P0 := s_pmo.mp P0
  obtain ⟨P1, h⟩ := snAll h
  replace P1 := sp_1.mp P1
  obtain ⟨P2, h⟩ := snAll h
  replace P2 := sp_1.mp P2
  obtain ⟨P3, h⟩ := snAll h
  replace P3 := sp_1.mp P3
  obtain ⟨P4, h⟩ := snAll h
  replace P4 := sp_1.mp P4
  have L : 1 ≤ 0 := by
    apply M_pox1 (N0 := nthZ zs 0) (N1 := nthZ zs 1) (N2 := nthZ zs 2) <;> first | assumption | omega
  rcases List.mem_cons.mp hx with hx | hx
  · rw [hx]; refine sp_0.mpr ?_; omega
  · cases hx
