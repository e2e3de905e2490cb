
theorem M_pea {F0 F1 : Int → Int} {N0 N1 N2 N3 : Int} (H0 : F0 N0 = N3) (H1 : N3 = 3) : ePe2 (F0) (F1) (N0) (N1) (N2) := by
  exact Or.inl (by omega)
theorem M_peb {F0 F1 : Int → Int} {N0 N1 N2 N3 : Int} (H0 : dEv 1023 [(F0), (F1)] [(N0), (N3), (N1)] = some (N2)) (H1 : N3 = 0) : ePe2 (F0) (F1) (N0) (N1) (N2) := by
  subst H1; exact Or.inr H0
theorem M_pec0 {F0 F1 : Int → Int} {N0 N1 N2 N3 N4 N5 : Int} (H0 : ePe2 (F0) (F1) (N0) (N1) (N2)) (H1 : F0 N0 = N3) (H2 : N3 ≤ 2) (H3 : dEv 1023 [(F0), (F1)] [(N0), (N4), (N1)] = some (N5)) (H4 : N4 = 0) : (N2 ≤ N5) ∧ (N5 ≤ N2) := by
  rcases H0 with h | h
  · omega
  · subst H4; rw [h] at H3; cases H3; omega
theorem M_pec1 {F0 F1 : Int → Int} {N0 N1 N2 N3 N4 N5 : Int} (H0 : ePe2 (F0) (F1) (N0) (N1) (N2)) (H1 : F0 N0 = N3) (H2 : 4 ≤ N3) (H3 : dEv 1023 [(F0), (F1)] [(N0), (N4), (N1)] = some (N5)) (H4 : N4 = 0) : (N2 ≤ N5) ∧ (N5 ≤ N2) := by
  rcases H0 with h | h
  · omega
  · subst H4; rw [h] at H3; cases H3; omega
theorem M_ac0 {F0 F1 F2 F3 F4 : Int → Int} {N0 N1 N2 N3 N4 N5 : Int} (H0 : N1 = N0) (H1 : N2 = 0) : eAcc (F0) (F1) (F2) (F3) (F4) (N0) (N1) (N2) (N3) (N4) (N5) := by
  subst H0 H1; exact ⟨0, rfl⟩
theorem M_acT0 {F0 F1 F2 F3 F4 : Int → Int} {N0 N1 N2 N3 N4 N5 N6 N7 N8 N9 N10 N11 : Int} (H0 : eAcc (F0) (F1) (F2) (F3) (F4) (N0) (N7) (N8) (N3) (N4) (N5)) (H1 : N7 + 1 ≤ N4) (H2 : dEv 1024 [(F0), (F1)] [(N7), (N6), (N4)] = some (N9)) (H3 : N3 = 1) (H4 : N6 = 1) (H5 : N7 ≤ N9) (H6 : N9 = N1 + -1) (H7 : F0 N7 = N10) (H8 : N10 = 3) (H9 : eTle (F2) (F3) (F4) (N7) (N11) (N5)) (H10 : N11 = N2 + -1 * N8) : eAcc (F0) (F1) (F2) (F3) (F4) (N0) (N1) (N2) (N3) (N4) (N5) := by
  exact eAcc_go H0 (by omega) H2 (eFlg1 H3 H4) H5 (by omega) (Or.inl ⟨by omega, H9⟩) (by omega)
theorem M_acN00 {F0 F1 F2 F3 F4 : Int → Int} {N0 N1 N2 N3 N4 N5 N6 N7 N8 N9 N10 : Int} (H0 : eAcc (F0) (F1) (F2) (F3) (F4) (N0) (N7) (N8) (N3) (N4) (N5)) (H1 : N7 + 1 ≤ N4) (H2 : dEv 1024 [(F0), (F1)] [(N7), (N6), (N4)] = some (N9)) (H3 : N3 = 1) (H4 : N6 = 1) (H5 : N7 ≤ N9) (H6 : N9 = N1 + -1) (H7 : F0 N7 = N10) (H8 : N10 ≤ 2) (H9 : N8 = N2 + -1 * N3) : eAcc (F0) (F1) (F2) (F3) (F4) (N0) (N1) (N2) (N3) (N4) (N5) := by
  exact eAcc_go H0 (by omega) H2 (eFlg1 H3 H4) H5 (by omega) (Or.inr ⟨by omega, rfl⟩) (by omega)
theorem M_acN10 {F0 F1 F2 F3 F4 : Int → Int} {N0 N1 N2 N3 N4 N5 N6 N7 N8 N9 N10 : Int} (H0 : eAcc (F0) (F1) (F2) (F3) (F4) (N0) (N7) (N8) (N3) (N4) (N5)) (H1 : N7 + 1 ≤ N4) (H2 : dEv 1024 [(F0), (F1)] [(N7), (N6), (N4)] = some (N9)) (H3 : N3 = 1) (H4 : N6 = 1) (H5 : N7 ≤ N9) (H6 : N9 = N1 + -1) (H7 : F0 N7 = N10) (H8 : 4 ≤ N10) (H9 : N8 = N2 + -1 * N3) : eAcc (F0) (F1) (F2) (F3) (F4) (N0) (N1) (N2) (N3) (N4) (N5) := by
  exact eAcc_go H0 (by omega) H2 (eFlg1 H3 H4) H5 (by omega) (Or.inr ⟨by omega, rfl⟩) (by omega)
theorem M_acT1 {F0 F1 F2 F3 F4 : Int → Int} {N0 N1 N2 N3 N4 N5 N6 N7 N8 N9 N10 N11 : Int} (H0 : eAcc (F0) (F1) (F2) (F3) (F4) (N0) (N7) (N8) (N3) (N4) (N5)) (H1 : N7 + 1 ≤ N4) (H2 : dEv 1024 [(F0), (F1)] [(N7), (N6), (N4)] = some (N9)) (H3 : 2 ≤ N3) (H4 : N6 = 0) (H5 : N7 ≤ N9) (H6 : N9 = N1 + -1) (H7 : F0 N7 = N10) (H8 : N10 = 3) (H9 : eTle (F2) (F3) (F4) (N7) (N11) (N5)) (H10 : N11 = N2 + -1 * N8) : eAcc (F0) (F1) (F2) (F3) (F4) (N0) (N1) (N2) (N3) (N4) (N5) := by
  exact eAcc_go H0 (by omega) H2 (eFlg0 H3 H4) H5 (by omega) (Or.inl ⟨by omega, H9⟩) (by omega)
theorem M_acN01 {F0 F1 F2 F3 F4 : Int → Int} {N0 N1 N2 N3 N4 N5 N6 N7 N8 N9 N10 : Int} (H0 : eAcc (F0) (F1) (F2) (F3) (F4) (N0) (N7) (N8) (N3) (N4) (N5)) (H1 : N7 + 1 ≤ N4) (H2 : dEv 1024 [(F0), (F1)] [(N7), (N6), (N4)] = some (N9)) (H3 : 2 ≤ N3) (H4 : N6 = 0) (H5 : N7 ≤ N9) (H6 : N9 = N1 + -1) (H7 : F0 N7 = N10) (H8 : N10 ≤ 2) (H9 : N8 = N2 + -1 * N3) : eAcc (F0) (F1) (F2) (F3) (F4) (N0) (N1) (N2) (N3) (N4) (N5) := by
  exact eAcc_go H0 (by omega) H2 (eFlg0 H3 H4) H5 (by omega) (Or.inr ⟨by omega, rfl⟩) (by omega)
theorem M_acN11 {F0 F1 F2 F3 F4 : Int → Int} {N0 N1 N2 N3 N4 N5 N6 N7 N8 N9 N10 : Int} (H0 : eAcc (F0) (F1) (F2) (F3) (F4) (N0) (N7) (N8) (N3) (N4) (N5)) (H1 : N7 + 1 ≤ N4) (H2 : dEv 1024 [(F0), (F1)] [(N7), (N6), (N4)] = some (N9)) (H3 : 2 ≤ N3) (H4 : N6 = 0) (H5 : N7 ≤ N9) (H6 : N9 = N1 + -1) (H7 : F0 N7 = N10) (H8 : 4 ≤ N10) (H9 : N8 = N2 + -1 * N3) : eAcc (F0) (F1) (F2) (F3) (F4) (N0) (N1) (N2) (N3) (N4) (N5) := by
  exact eAcc_go H0 (by omega) H2 (eFlg0 H3 H4) H5 (by omega) (Or.inr ⟨by omega, rfl⟩) (by omega)
theorem M_acM0 {F0 F1 F2 F3 F4 : Int → Int} {N0 N1 N2 N3 N4 N5 N6 N7 N8 N9 N10 N11 N12 : Int} (H0 : eAcc (F0) (F1) (F2) (F3) (F4) (N0) (N7) (N8) (N3) (N4) (N5)) (H1 : N7 + 1 ≤ N4) (H2 : dEv 1024 [(F0), (F1)] [(N7), (N6), (N4)] = some (N9)) (H3 : N3 = 1) (H4 : N6 = 1) (H5 : N7 ≤ N9) (H6 : N9 = N1 + -1) (H7 : ∀ x : Int, N10 ≤ x → x < N11 → ((0 ≤ -1+(-1)*N12+(1)*F0 (x)) ∨ (0 ≤ -1+(1)*N12+(-1)*F0 (x)))) (H8 : N10 ≤ N7) (H9 : N7 + 1 ≤ N11) (H10 : N12 = 3) (H11 : N8 = N2 + -1 * N3) : eAcc (F0) (F1) (F2) (F3) (F4) (N0) (N1) (N2) (N3) (N4) (N5) := by
  have q := H7 N7 H8 (by omega)
  exact eAcc_go H0 (by omega) H2 (eFlg1 H3 H4) H5 (by omega) (Or.inr ⟨by omega, rfl⟩) (by omega)
theorem M_acM1 {F0 F1 F2 F3 F4 : Int → Int} {N0 N1 N2 N3 N4 N5 N6 N7 N8 N9 N10 N11 N12 : Int} (H0 : eAcc (F0) (F1) (F2) (F3) (F4) (N0) (N7) (N8) (N3) (N4) (N5)) (H1 : N7 + 1 ≤ N4) (H2 : dEv 1024 [(F0), (F1)] [(N7), (N6), (N4)] = some (N9)) (H3 : 2 ≤ N3) (H4 : N6 = 0) (H5 : N7 ≤ N9) (H6 : N9 = N1 + -1) (H7 : ∀ x : Int, N10 ≤ x → x < N11 → ((0 ≤ -1+(-1)*N12+(1)*F0 (x)) ∨ (0 ≤ -1+(1)*N12+(-1)*F0 (x)))) (H8 : N10 ≤ N7) (H9 : N7 + 1 ≤ N11) (H10 : N12 = 3) (H11 : N8 = N2 + -1 * N3) : eAcc (F0) (F1) (F2) (F3) (F4) (N0) (N1) (N2) (N3) (N4) (N5) := by
  have q := H7 N7 H8 (by omega)
  exact eAcc_go H0 (by omega) H2 (eFlg0 H3 H4) H5 (by omega) (Or.inr ⟨by omega, rfl⟩) (by omega)
theorem M_ch0 {F0 F1 : Int → Int} {N0 N1 N2 N3 : Int} (H0 : N1 = N0) : eChn (F0) (F1) (N0) (N1) (N2) (N3) := by
  subst H0; exact ⟨0, rfl⟩
theorem M_ch10 {F0 F1 : Int → Int} {N0 N1 N2 N3 N4 N5 N6 : Int} (H0 : eChn (F0) (F1) (N0) (N4) (N2) (N3)) (H1 : dEv 1024 [(F0), (F1)] [(N4), (N6), (N2)] = some (N5)) (H2 : N3 = 1) (H3 : N6 = 1) (H4 : N4 ≤ N5) (H5 : N4 + 1 ≤ N2) (H6 : ePe2 (F0) (F1) (N4) (N2) (N5)) (H7 : N5 = N1 + -1) : eChn (F0) (F1) (N0) (N1) (N2) (N3) := by
  exact eChn_go H0 (by omega) H1 (eFlg1 H2 H3) H4 (by omega) H6
theorem M_ch11 {F0 F1 : Int → Int} {N0 N1 N2 N3 N4 N5 N6 : Int} (H0 : eChn (F0) (F1) (N0) (N4) (N2) (N3)) (H1 : dEv 1024 [(F0), (F1)] [(N4), (N6), (N2)] = some (N5)) (H2 : 2 ≤ N3) (H3 : N6 = 0) (H4 : N4 ≤ N5) (H5 : N4 + 1 ≤ N2) (H6 : ePe2 (F0) (F1) (N4) (N2) (N5)) (H7 : N5 = N1 + -1) : eChn (F0) (F1) (N0) (N1) (N2) (N3) := by
  exact eChn_go H0 (by omega) H1 (eFlg0 H2 H3) H4 (by omega) H6
theorem M_ch20 {F0 F1 : Int → Int} {N0 N1 N2 N3 N4 N5 N6 N7 : Int} (H0 : eChn (F0) (F1) (N0) (N1) (N2) (N3)) (H1 : eChn (F0) (F1) (N0) (N7) (N2) (N3)) (H2 : N7 + 1 ≤ N1) (H3 : dEv 1024 [(F0), (F1)] [(N7), (N6), (N2)] = some (N5)) (H4 : N3 = 1) (H5 : N6 = 1) : (N7 ≤ N5) ∧ (N5 + 1 ≤ N1) := by
  obtain ⟨m, ⟨⟨h1, r, h2, h3, h4⟩, -⟩, h5⟩ := eChn_next H0 H1 (by omega)
  rw [← eFlg1 H4 H5, H3] at h2
  cases h2; omega
theorem M_ch21 {F0 F1 : Int → Int} {N0 N1 N2 N3 N4 N5 N6 N7 : Int} (H0 : eChn (F0) (F1) (N0) (N1) (N2) (N3)) (H1 : eChn (F0) (F1) (N0) (N7) (N2) (N3)) (H2 : N7 + 1 ≤ N1) (H3 : dEv 1024 [(F0), (F1)] [(N7), (N6), (N2)] = some (N5)) (H4 : 2 ≤ N3) (H5 : N6 = 0) : (N7 ≤ N5) ∧ (N5 + 1 ≤ N1) := by
  obtain ⟨m, ⟨⟨h1, r, h2, h3, h4⟩, -⟩, h5⟩ := eChn_next H0 H1 (by omega)
  rw [← eFlg0 H4 H5, H3] at h2
  cases h2; omega
theorem M_ch30 {F0 F1 : Int → Int} {N0 N1 N2 N3 N4 N5 N6 N7 N8 : Int} (H0 : eChn (F0) (F1) (N0) (N1) (N2) (N3)) (H1 : eChn (F0) (F1) (N0) (N7) (N2) (N3)) (H2 : N7 + 1 ≤ N1) (H3 : F0 N7 = N8) (H4 : N8 ≤ 2) (H5 : dEv 1023 [(F0), (F1)] [(N7), (N6), (N2)] = some (N5)) (H6 : N6 = 0) : (N7 ≤ N5) ∧ (N5 + 1 ≤ N1) := by
  obtain ⟨m, ⟨⟨h1, r, h2, h3, h4⟩, h6⟩, h5⟩ := eChn_next H0 H1 (by omega)
  rcases h6 with h6 | h6
  · omega
  · subst H6; rw [H5] at h6; cases h6; omega
theorem M_ch31 {F0 F1 : Int → Int} {N0 N1 N2 N3 N4 N5 N6 N7 N8 : Int} (H0 : eChn (F0) (F1) (N0) (N1) (N2) (N3)) (H1 : eChn (F0) (F1) (N0) (N7) (N2) (N3)) (H2 : N7 + 1 ≤ N1) (H3 : F0 N7 = N8) (H4 : 4 ≤ N8) (H5 : dEv 1023 [(F0), (F1)] [(N7), (N6), (N2)] = some (N5)) (H6 : N6 = 0) : (N7 ≤ N5) ∧ (N5 + 1 ≤ N1) := by
  obtain ⟨m, ⟨⟨h1, r, h2, h3, h4⟩, h6⟩, h5⟩ := eChn_next H0 H1 (by omega)
  rcases h6 with h6 | h6
  · omega
  · subst H6; rw [H5] at h6; cases h6; omega
theorem M_ch4 {F0 F1 : Int → Int} {N0 N1 N2 N3 N4 N5 N6 N7 : Int} (H0 : eChn (F0) (F1) (N0) (N1) (N2) (N3)) (H1 : eChn (F0) (F1) (N0) (N7) (N2) (N3)) (H2 : N7 + 1 ≤ N1) : N7 + 1 ≤ N2 := by
  obtain ⟨m, ⟨⟨h1, -⟩, -⟩, -⟩ := eChn_next H0 H1 (by omega)
  omega
theorem M_ch5 {F0 F1 : Int → Int} {N0 N1 N2 N3 N4 N5 N6 N7 : Int} (H0 : eChn (F0) (F1) (N0) (N1) (N2) (N3)) (H1 : eChn (F0) (F1) (N0) (N7) (N2) (N3)) (H2 : N2 ≤ N7) : N1 ≤ N7 := by
  apply Classical.byContradiction
  intro c
  obtain ⟨m, ⟨⟨h1, -⟩, -⟩, -⟩ := eChn_next H0 H1 (by omega)
  omega
theorem M_acLt {F0 F1 F2 F3 F4 : Int → Int} {N0 N1 N2 N3 N4 N5 N6 N7 N8 N9 N10 : Int} (H0 : eAcc (F0) (F1) (F2) (F3) (F4) (N0) (N1) (N2) (N3) (N4) (N5)) (H1 : eAcc (F0) (F1) (F2) (F3) (F4) (N0) (N7) (N8) (N3) (N4) (N5)) (H2 : N4 ≤ N1) (H3 : N7 + 1 ≤ N4) (H4 : 0 ≤ N3) (H5 : F0 N7 = N9) (H6 : N9 = 3) (H7 : eTle (F2) (F3) (F4) (N7) (N10) (N5)) : N8 + N10 ≤ N2 := by
  obtain ⟨m, ⟨h1, x, h2, h3⟩, h4⟩ := eAcc_next H4 H0 H1 (by omega)
  have h2 : m.2 = N8 + x := h2
  rcases h3 with ⟨-, h3⟩ | ⟨h3, -⟩
  · have := eTle_f h3 H7
    omega
  · exact absurd (show F0 N7 = 3 by omega) h3
theorem M_acLn0 {F0 F1 F2 F3 F4 : Int → Int} {N0 N1 N2 N3 N4 N5 N6 N7 N8 N9 : Int} (H0 : eAcc (F0) (F1) (F2) (F3) (F4) (N0) (N1) (N2) (N3) (N4) (N5)) (H1 : eAcc (F0) (F1) (F2) (F3) (F4) (N0) (N7) (N8) (N3) (N4) (N5)) (H2 : N4 ≤ N1) (H3 : N7 + 1 ≤ N4) (H4 : 0 ≤ N3) (H5 : F0 N7 = N9) (H6 : N9 ≤ 2) : N8 + N3 ≤ N2 := by
  obtain ⟨m, ⟨h1, x, h2, h3⟩, h4⟩ := eAcc_next H4 H0 H1 (by omega)
  have h2 : m.2 = N8 + x := h2
  rcases h3 with ⟨h3, -⟩ | ⟨-, h3⟩
  · have h3 : F0 N7 = 3 := h3
    omega
  · omega
theorem M_acLn1 {F0 F1 F2 F3 F4 : Int → Int} {N0 N1 N2 N3 N4 N5 N6 N7 N8 N9 : Int} (H0 : eAcc (F0) (F1) (F2) (F3) (F4) (N0) (N1) (N2) (N3) (N4) (N5)) (H1 : eAcc (F0) (F1) (F2) (F3) (F4) (N0) (N7) (N8) (N3) (N4) (N5)) (H2 : N4 ≤ N1) (H3 : N7 + 1 ≤ N4) (H4 : 0 ≤ N3) (H5 : F0 N7 = N9) (H6 : 4 ≤ N9) : N8 + N3 ≤ N2 := by
  obtain ⟨m, ⟨h1, x, h2, h3⟩, h4⟩ := eAcc_next H4 H0 H1 (by omega)
  have h2 : m.2 = N8 + x := h2
  rcases h3 with ⟨h3, -⟩ | ⟨-, h3⟩
  · have h3 : F0 N7 = 3 := h3
    omega
  · omega
theorem M_g8a {F0 F1 : Int → Int} {N0 N1 N2 N3 N4 N5 N6 N7 N8 N9 : Int} (H0 : ∀ x : Int, N4 ≤ x → x < N5 → ((0 ≤ 0+(-1)*N6+(8)*F0 (x)) ∨ (0 ≤ 0+(1)*N7))) (H1 : N4 + 1 ≤ N5) (H2 : N7 + 1 ≤ 0) (H3 : eRs (F0) (F1) (N8) (N9)) (H4 : N9 ≤ 0) (H5 : 0 ≤ N4) (H6 : N4 + 1 ≤ N8) (H7 : N4 + 1 ≤ N0) (H8 : N1 ≤ N0 + 1) (H9 : N0 ≤ N3 + N8 + 1) (H10 : N2 ≤ N6 + 8) : ∀ x : Int, N0 ≤ x → x < N1 → ((0 ≤ 0+(-1)*N2+(8)*F0 (x)) ∨ (0 ≤ 0+(1)*N3)) := by
  intro x a b
  by_cases s : 0 ≤ N3
  · right; omega
  have q := eRs_to (eRs_no H3 H4) H5 (show N4 < x by omega) (by omega)
  have r := H0 N4 (by omega) (by omega)
  left; omega
theorem M_g8b {F0 F1 F2 : Int → Int} {N0 N1 N2 N3 N4 N5 N6 N7 N8 N9 N10 N11 : Int} (H0 : ∀ x : Int, N4 ≤ x → x < N5 → ((0 ≤ 0+(-1)*N6+(8)*F0 (x)) ∨ (0 ≤ 0+(1)*N7))) (H1 : N4 + 1 ≤ N5) (H2 : N7 + 1 ≤ 0) (H3 : eRs (F0) (F1) (N8) (N9)) (H4 : N9 ≤ 0) (H5 : 0 ≤ N4) (H6 : N4 + 1 ≤ N8) (H7 : N4 + 1 ≤ N0) (H8 : N1 ≤ N0 + 1) (H9 : N0 ≤ N3 + N8 + 1) (H10 : eTle (F0) (F1) (F2) (N4) (N10) (N11)) (H11 : N2 ≤ N6 + N10) : ∀ x : Int, N0 ≤ x → x < N1 → ((0 ≤ 0+(-1)*N2+(8)*F0 (x)) ∨ (0 ≤ 0+(1)*N3)) := by
  intro x a b
  by_cases s : 0 ≤ N3
  · right; omega
  have q := eRs_to (eRs_no H3 H4) H5 (show N4 < x by omega) (by omega)
  have r := H0 N4 (by omega) (by omega)
  have t := eTle_n H10
  left; omega
theorem M_g8c {F0 F1 F2 : Int → Int} {N0 N1 N2 N3 N4 N5 N6 N7 N8 N9 N10 N11 N12 N13 N14 : Int} (H0 : ∀ x : Int, N4 ≤ x → x < N5 → ((0 ≤ 0+(-1)*N6+(8)*F0 (x)) ∨ (0 ≤ 0+(1)*N7))) (H1 : N4 + 1 ≤ N5) (H2 : N7 + 1 ≤ 0) (H3 : eRs (F0) (F1) (N8) (N9)) (H4 : N9 ≤ 0) (H5 : 0 ≤ N4) (H6 : N4 + 1 ≤ N8) (H7 : eTle (F0) (F1) (F2) (N4) (N10) (N11)) (H8 : ∀ x, N12 ≤ x → x < N13 → (F0 x ≤ N14)) (H9 : N12 ≤ N4 + 1) (H10 : N4 + 2 ≤ N13) : N6 + N10 ≤ 8 * N14 := by
  have q := eRs_to (eRs_no H3 H4) H5 (show N4 < N4 + 1 by omega) (by omega)
  have r := H0 N4 (by omega) (by omega)
  have t := eTle_n H7
  have u := H8 (N4 + 1) (by omega) (by omega)
  omega
theorem M_g8d {F0 F1 : Int → Int} {N0 N1 N2 N3 N4 N5 N6 N7 N8 N9 N10 N11 N12 N13 N14 : Int} (H0 : ∀ x : Int, N4 ≤ x → x < N5 → ((0 ≤ 0+(-1)*N6+(8)*F0 (x)) ∨ (0 ≤ 0+(1)*N7))) (H1 : N4 + 1 ≤ N5) (H2 : N7 + 1 ≤ 0) (H3 : eRs (F0) (F1) (N8) (N9)) (H4 : N9 ≤ 0) (H5 : 0 ≤ N4) (H6 : N4 + 1 ≤ N8) (H7 : ∀ x, N12 ≤ x → x < N13 → (F0 x ≤ N14)) (H8 : N12 ≤ N4 + 1) (H9 : N4 + 2 ≤ N13) : N6 + 8 ≤ 8 * N14 := by
  have q := eRs_to (eRs_no H3 H4) H5 (show N4 < N4 + 1 by omega) (by omega)
  have r := H0 N4 (by omega) (by omega)
  have u := H7 (N4 + 1) (by omega) (by omega)
  omega
/-! DATA: parts of a statement with data, their bytes: the rules (written by wip/p2/grp.py) -/
theorem s_ge8_or {fs : List (Int → Int)} {zs : List Int} {a0 i0 i1 i2 i3 : Nat} : SnOk fs zs (27, [1, a0, i0, i1, i2, i3], []) ↔ ∀ x : Int, nthZ zs i0 ≤ x → x < nthZ zs i1 → ((0 ≤ 0+(-1)*nthZ zs i2+(8)*nthF fs a0 (x)) ∨ (0 ≤ 0+(1)*nthZ zs i3)) := by
  show fOk ((1, 4), ([(0, 1, 0, [], [])], [(0, 0, [(2, (-1))], [(0, 8)]), (0, 0, [(3, 1)], [])])) [nthF fs a0] [nthZ zs i0, nthZ zs i1, nthZ zs i2, nthZ zs i3] ↔ _
  have e0 : ∀ x : Int, (0 : Int) + 1 * x + 0 + 0 = x := fun x => by omega
  constructor
  · intro h x h1 h2
    obtain ⟨l0, hl, q⟩ := h x h1 h2
    rcases List.mem_cons.mp hl with hl | hl
    · subst hl; replace q : 0 ≤ (0 : Int) + 0 * x + ((-1) * nthZ zs i2 + 0) + (8 * nthF fs a0 ((0 : Int) + 1 * x + 0 + 0) + 0) := q; try simp only [e0] at q
      left; omega
    · skip
      rcases List.mem_cons.mp hl with hl | hl
      · subst hl; replace q : 0 ≤ (0 : Int) + 0 * x + (1 * nthZ zs i3 + 0) + 0 := q; try simp only [e0] at q
        right; omega
      · cases hl
  · intro h x h1 h2
    have q := h x h1 h2
    rcases q with q | q
    · refine ⟨_, (List.mem_cons_self), ?_⟩; show 0 ≤ (0 : Int) + 0 * x + ((-1) * nthZ zs i2 + 0) + (8 * nthF fs a0 ((0 : Int) + 1 * x + 0 + 0) + 0)
      try simp only [e0]
      omega
    · refine ⟨_, (List.mem_cons_of_mem _ (List.mem_cons_self)), ?_⟩; show 0 ≤ (0 : Int) + 0 * x + (1 * nthZ zs i3 + 0) + 0
      try simp only [e0]
      omega
section
variable {fs : List (Int → Int)} {zs : List Int}
theorem s_pe2 {a0 a1 i0 i1 i2 : Nat} : SnOk fs zs (1046, [2, a0, a1, i0, i1, i2], []) ↔ ePe2 (nthF fs a0) (nthF fs a1) (nthZ zs i0) (nthZ zs i1) (nthZ zs i2) := Iff.rfl
theorem s_chn {a0 a1 i0 i1 i2 i3 : Nat} : SnOk fs zs (1048, [2, a0, a1, i0, i1, i2, i3], []) ↔ eChn (nthF fs a0) (nthF fs a1) (nthZ zs i0) (nthZ zs i1) (nthZ zs i2) (nthZ zs i3) := Iff.rfl
theorem s_acc {a0 a1 a2 a3 a4 i0 i1 i2 i3 i4 i5 : Nat} : SnOk fs zs (1047, [5, a0, a1, a2, a3, a4, i0, i1, i2, i3, i4, i5], []) ↔ eAcc (nthF fs a0) (nthF fs a1) (nthF fs a2) (nthF fs a3) (nthF fs a4) (nthZ zs i0) (nthZ zs i1) (nthZ zs i2) (nthZ zs i3) (nthZ zs i4) (nthZ zs i5) := Iff.rfl
end
def q_pea : qRl := ([(1, [0, 0, 3], []), sp (-3) [(3, 1)], sp 3 [(3, (-1))], sp 0 [], sp 0 []], [(1046, [2, 0, 1, 0, 1, 2], [])])
theorem q_pea_ok : RlOk q_pea := by
  intro fs zs h x hx
  obtain ⟨P0, h⟩ := snAll h
  replace P0 := s_rd.mp P0
  obtain ⟨P1, h⟩ := snAll h
  replace P1 := sp_1.mp P1
  obtain ⟨P2, h⟩ := snAll h
  replace P2 := sp_1.mp P2
  obtain ⟨P3, h⟩ := snAll h
  replace P3 := sp_0.mp P3
  obtain ⟨P4, h⟩ := snAll h
  replace P4 := sp_0.mp P4
  have L : ePe2 ((nthF fs 0)) ((nthF fs 1)) ((nthZ zs 0)) ((nthZ zs 1)) ((nthZ zs 2)) := by
    apply M_pea (F0 := nthF fs 0) (F1 := nthF fs 1) (N0 := nthZ zs 0) (N1 := nthZ zs 1) (N2 := nthZ zs 2) (N3 := nthZ zs 3) <;> first | assumption | omega
  rcases List.mem_cons.mp hx with hx | hx
  · rw [hx]; refine s_pe2.mpr ?_; exact L
  · cases hx
def q_peb : qRl := ([(1026, [2, 0, 1, 0, 3, 1, 2], []), sp 0 [(3, 1)], sp 0 [(3, (-1))]], [(1046, [2, 0, 1, 0, 1, 2], [])])
theorem q_peb_ok : RlOk q_peb := by
  intro fs zs h x hx
  obtain ⟨P0, h⟩ := snAll h
  replace P0 := s_det_pass.mp P0
  obtain ⟨P1, h⟩ := snAll h
  replace P1 := sp_1.mp P1
  obtain ⟨P2, h⟩ := snAll h
  replace P2 := sp_1.mp P2
  have L : ePe2 ((nthF fs 0)) ((nthF fs 1)) ((nthZ zs 0)) ((nthZ zs 1)) ((nthZ zs 2)) := by
    apply M_peb (F0 := nthF fs 0) (F1 := nthF fs 1) (N0 := nthZ zs 0) (N1 := nthZ zs 1) (N2 := nthZ zs 2) (N3 := nthZ zs 3) <;> first | assumption | omega
  rcases List.mem_cons.mp hx with hx | hx
  · rw [hx]; refine s_pe2.mpr ?_; exact L
  · cases hx
def q_pec0 : qRl := ([(1046, [2, 0, 1, 0, 1, 2], []), (1, [0, 0, 3], []), sp 2 [(3, (-1))], (1026, [2, 0, 1, 0, 4, 1, 5], []), sp 0 [(4, 1)], sp 0 [(4, (-1))]], [sp 0 [(5, 1), (2, (-1))], sp 0 [(2, 1), (5, (-1))]])
theorem q_pec0_ok : RlOk q_pec0 := by
  intro fs zs h x hx
  obtain ⟨P0, h⟩ := snAll h
  replace P0 := s_pe2.mp P0
  obtain ⟨P1, h⟩ := snAll h
  replace P1 := s_rd.mp P1
  obtain ⟨P2, h⟩ := snAll h
  replace P2 := sp_1.mp P2
  obtain ⟨P3, h⟩ := snAll h
  replace P3 := s_det_pass.mp P3
  obtain ⟨P4, h⟩ := snAll h
  replace P4 := sp_1.mp P4
  obtain ⟨P5, h⟩ := snAll h
  replace P5 := sp_1.mp P5
  have L : ((nthZ zs 2) ≤ (nthZ zs 5)) ∧ ((nthZ zs 5) ≤ (nthZ zs 2)) := by
    apply M_pec0 (F0 := nthF fs 0) (F1 := nthF fs 1) (N0 := nthZ zs 0) (N1 := nthZ zs 1) (N2 := nthZ zs 2) (N3 := nthZ zs 3) (N4 := nthZ zs 4) (N5 := nthZ zs 5) <;> first | assumption | omega
  obtain ⟨L0, L1⟩ := L
  rcases List.mem_cons.mp hx with hx | hx
  · rw [hx]; refine sp_2.mpr ?_; omega
  rcases List.mem_cons.mp hx with hx | hx
  · rw [hx]; refine sp_2.mpr ?_; omega
  · cases hx
def q_pec1 : qRl := ([(1046, [2, 0, 1, 0, 1, 2], []), (1, [0, 0, 3], []), sp (-4) [(3, 1)], (1026, [2, 0, 1, 0, 4, 1, 5], []), sp 0 [(4, 1)], sp 0 [(4, (-1))]], [sp 0 [(5, 1), (2, (-1))], sp 0 [(2, 1), (5, (-1))]])
theorem q_pec1_ok : RlOk q_pec1 := by
  intro fs zs h x hx
  obtain ⟨P0, h⟩ := snAll h
  replace P0 := s_pe2.mp P0
  obtain ⟨P1, h⟩ := snAll h
  replace P1 := s_rd.mp P1
  obtain ⟨P2, h⟩ := snAll h
  replace P2 := sp_1.mp P2
  obtain ⟨P3, h⟩ := snAll h
  replace P3 := s_det_pass.mp P3
  obtain ⟨P4, h⟩ := snAll h
  replace P4 := sp_1.mp P4
  obtain ⟨P5, h⟩ := snAll h
  replace P5 := sp_1.mp P5
  have L : ((nthZ zs 2) ≤ (nthZ zs 5)) ∧ ((nthZ zs 5) ≤ (nthZ zs 2)) := by
    apply M_pec1 (F0 := nthF fs 0) (F1 := nthF fs 1) (N0 := nthZ zs 0) (N1 := nthZ zs 1) (N2 := nthZ zs 2) (N3 := nthZ zs 3) (N4 := nthZ zs 4) (N5 := nthZ zs 5) <;> first | assumption | omega
  obtain ⟨L0, L1⟩ := L
  rcases List.mem_cons.mp hx with hx | hx
  · rw [hx]; refine sp_2.mpr ?_; omega
  rcases List.mem_cons.mp hx with hx | hx
  · rw [hx]; refine sp_2.mpr ?_; omega
  · cases hx
def q_ac0 : qRl := ([sp 0 [(1, 1), (0, (-1))], sp 0 [(0, 1), (1, (-1))], sp 0 [(2, 1)], sp 0 [(2, (-1))], sp 0 [], sp 0 [], sp 0 []], [(1047, [5, 0, 1, 2, 3, 4, 0, 1, 2, 3, 4, 5], [])])
theorem q_ac0_ok : RlOk q_ac0 := by
  intro fs zs h x hx
  obtain ⟨P0, h⟩ := snAll h
  replace P0 := sp_2.mp P0
  obtain ⟨P1, h⟩ := snAll h
  replace P1 := sp_2.mp P1
  obtain ⟨P2, h⟩ := snAll h
  replace P2 := sp_1.mp P2
  obtain ⟨P3, h⟩ := snAll h
  replace P3 := sp_1.mp P3
  obtain ⟨P4, h⟩ := snAll h
  replace P4 := sp_0.mp P4
  obtain ⟨P5, h⟩ := snAll h
  replace P5 := sp_0.mp P5
  obtain ⟨P6, h⟩ := snAll h
  replace P6 := sp_0.mp P6
  have L : eAcc ((nthF fs 0)) ((nthF fs 1)) ((nthF fs 2)) ((nthF fs 3)) ((nthF fs 4)) ((nthZ zs 0)) ((nthZ zs 1)) ((nthZ zs 2)) ((nthZ zs 3)) ((nthZ zs 4)) ((nthZ zs 5)) := by
    apply M_ac0 (F0 := nthF fs 0) (F1 := nthF fs 1) (F2 := nthF fs 2) (F3 := nthF fs 3) (F4 := nthF fs 4) (N0 := nthZ zs 0) (N1 := nthZ zs 1) (N2 := nthZ zs 2) (N3 := nthZ zs 3) (N4 := nthZ zs 4) (N5 := nthZ zs 5) <;> first | assumption | omega
  rcases List.mem_cons.mp hx with hx | hx
  · rw [hx]; refine s_acc.mpr ?_; exact L
  · cases hx
def q_acT0 : qRl := ([(1047, [5, 0, 1, 2, 3, 4, 0, 7, 8, 3, 4, 5], []), sp (-1) [(4, 1), (7, (-1))], (1027, [2, 0, 1, 7, 6, 4, 9], []), sp (-1) [(3, 1)], sp 1 [(3, (-1))], sp (-1) [(6, 1)], sp 1 [(6, (-1))], sp 0 [(9, 1), (7, (-1))], sp (-1) [(1, 1), (9, (-1))], sp 1 [(9, 1), (1, (-1))], (1, [0, 7, 10], []), sp (-3) [(10, 1)], sp 3 [(10, (-1))], (1043, [3, 2, 3, 4, 7, 11, 5], []), sp 0 [(2, 1), (8, (-1)), (11, (-1))], sp 0 [(8, 1), (11, 1), (2, (-1))]], [(1047, [5, 0, 1, 2, 3, 4, 0, 1, 2, 3, 4, 5], [])])
theorem q_acT0_ok : RlOk q_acT0 := by
  intro fs zs h x hx
  obtain ⟨P0, h⟩ := snAll h
  replace P0 := s_acc.mp P0
  obtain ⟨P1, h⟩ := snAll h
  replace P1 := sp_2.mp P1
  obtain ⟨P2, h⟩ := snAll h
  replace P2 := s_det_partEnd.mp P2
  obtain ⟨P3, h⟩ := snAll h
  replace P3 := sp_1.mp P3
  obtain ⟨P4, h⟩ := snAll h
  replace P4 := sp_1.mp P4
  obtain ⟨P5, h⟩ := snAll h
  replace P5 := sp_1.mp P5
  obtain ⟨P6, h⟩ := snAll h
  replace P6 := sp_1.mp P6
  obtain ⟨P7, h⟩ := snAll h
  replace P7 := sp_2.mp P7
  obtain ⟨P8, h⟩ := snAll h
  replace P8 := sp_2.mp P8
  obtain ⟨P9, h⟩ := snAll h
  replace P9 := sp_2.mp P9
  obtain ⟨P10, h⟩ := snAll h
  replace P10 := s_rd.mp P10
  obtain ⟨P11, h⟩ := snAll h
  replace P11 := sp_1.mp P11
  obtain ⟨P12, h⟩ := snAll h
  replace P12 := sp_1.mp P12
  obtain ⟨P13, h⟩ := snAll h
  replace P13 := s_tle.mp P13
  obtain ⟨P14, h⟩ := snAll h
  replace P14 := sp_3.mp P14
  obtain ⟨P15, h⟩ := snAll h
  replace P15 := sp_3.mp P15
  have L : eAcc ((nthF fs 0)) ((nthF fs 1)) ((nthF fs 2)) ((nthF fs 3)) ((nthF fs 4)) ((nthZ zs 0)) ((nthZ zs 1)) ((nthZ zs 2)) ((nthZ zs 3)) ((nthZ zs 4)) ((nthZ zs 5)) := by
    apply M_acT0 (F0 := nthF fs 0) (F1 := nthF fs 1) (F2 := nthF fs 2) (F3 := nthF fs 3) (F4 := nthF fs 4) (N0 := nthZ zs 0) (N1 := nthZ zs 1) (N2 := nthZ zs 2) (N3 := nthZ zs 3) (N4 := nthZ zs 4) (N5 := nthZ zs 5) (N6 := nthZ zs 6) (N7 := nthZ zs 7) (N8 := nthZ zs 8) (N9 := nthZ zs 9) (N10 := nthZ zs 10) (N11 := nthZ zs 11) <;> first | assumption | omega
  rcases List.mem_cons.mp hx with hx | hx
  · rw [hx]; refine s_acc.mpr ?_; exact L
  · cases hx
def q_acN00 : qRl := ([(1047, [5, 0, 1, 2, 3, 4, 0, 7, 8, 3, 4, 5], []), sp (-1) [(4, 1), (7, (-1))], (1027, [2, 0, 1, 7, 6, 4, 9], []), sp (-1) [(3, 1)], sp 1 [(3, (-1))], sp (-1) [(6, 1)], sp 1 [(6, (-1))], sp 0 [(9, 1), (7, (-1))], sp (-1) [(1, 1), (9, (-1))], sp 1 [(9, 1), (1, (-1))], (1, [0, 7, 10], []), sp 2 [(10, (-1))], sp 0 [(2, 1), (8, (-1)), (3, (-1))], sp 0 [(8, 1), (3, 1), (2, (-1))]], [(1047, [5, 0, 1, 2, 3, 4, 0, 1, 2, 3, 4, 5], [])])
theorem q_acN00_ok : RlOk q_acN00 := by
  intro fs zs h x hx
  obtain ⟨P0, h⟩ := snAll h
  replace P0 := s_acc.mp P0
  obtain ⟨P1, h⟩ := snAll h
  replace P1 := sp_2.mp P1
  obtain ⟨P2, h⟩ := snAll h
  replace P2 := s_det_partEnd.mp P2
  obtain ⟨P3, h⟩ := snAll h
  replace P3 := sp_1.mp P3
  obtain ⟨P4, h⟩ := snAll h
  replace P4 := sp_1.mp P4
  obtain ⟨P5, h⟩ := snAll h
  replace P5 := sp_1.mp P5
  obtain ⟨P6, h⟩ := snAll h
  replace P6 := sp_1.mp P6
  obtain ⟨P7, h⟩ := snAll h
  replace P7 := sp_2.mp P7
  obtain ⟨P8, h⟩ := snAll h
  replace P8 := sp_2.mp P8
  obtain ⟨P9, h⟩ := snAll h
  replace P9 := sp_2.mp P9
  obtain ⟨P10, h⟩ := snAll h
  replace P10 := s_rd.mp P10
  obtain ⟨P11, h⟩ := snAll h
  replace P11 := sp_1.mp P11
  obtain ⟨P12, h⟩ := snAll h
  replace P12 := sp_3.mp P12
  obtain ⟨P13, h⟩ := snAll h
  replace P13 := sp_3.mp P13
  have L : eAcc ((nthF fs 0)) ((nthF fs 1)) ((nthF fs 2)) ((nthF fs 3)) ((nthF fs 4)) ((nthZ zs 0)) ((nthZ zs 1)) ((nthZ zs 2)) ((nthZ zs 3)) ((nthZ zs 4)) ((nthZ zs 5)) := by
    apply M_acN00 (F0 := nthF fs 0) (F1 := nthF fs 1) (F2 := nthF fs 2) (F3 := nthF fs 3) (F4 := nthF fs 4) (N0 := nthZ zs 0) (N1 := nthZ zs 1) (N2 := nthZ zs 2) (N3 := nthZ zs 3) (N4 := nthZ zs 4) (N5 := nthZ zs 5) (N6 := nthZ zs 6) (N7 := nthZ zs 7) (N8 := nthZ zs 8) (N9 := nthZ zs 9) (N10 := nthZ zs 10) <;> first | assumption | omega
  rcases List.mem_cons.mp hx with hx | hx
  · rw [hx]; refine s_acc.mpr ?_; exact L
  · cases hx
def q_acN10 : qRl := ([(1047, [5, 0, 1, 2, 3, 4, 0, 7, 8, 3, 4, 5], []), sp (-1) [(4, 1), (7, (-1))], (1027, [2, 0, 1, 7, 6, 4, 9], []), sp (-1) [(3, 1)], sp 1 [(3, (-1))], sp (-1) [(6, 1)], sp 1 [(6, (-1))], sp 0 [(9, 1), (7, (-1))], sp (-1) [(1, 1), (9, (-1))], sp 1 [(9, 1), (1, (-1))], (1, [0, 7, 10], []), sp (-4) [(10, 1)], sp 0 [(2, 1), (8, (-1)), (3, (-1))], sp 0 [(8, 1), (3, 1), (2, (-1))]], [(1047, [5, 0, 1, 2, 3, 4, 0, 1, 2, 3, 4, 5], [])])
theorem q_acN10_ok : RlOk q_acN10 := by
  intro fs zs h x hx
  obtain ⟨P0, h⟩ := snAll h
  replace P0 := s_acc.mp P0
  obtain ⟨P1, h⟩ := snAll h
  replace P1 := sp_2.mp P1
  obtain ⟨P2, h⟩ := snAll h
  replace P2 := s_det_partEnd.mp P2
  obtain ⟨P3, h⟩ := snAll h
  replace P3 := sp_1.mp P3
  obtain ⟨P4, h⟩ := snAll h
  replace P4 := sp_1.mp P4
  obtain ⟨P5, h⟩ := snAll h
  replace P5 := sp_1.mp P5
  obtain ⟨P6, h⟩ := snAll h
  replace P6 := sp_1.mp P6
  obtain ⟨P7, h⟩ := snAll h
  replace P7 := sp_2.mp P7
  obtain ⟨P8, h⟩ := snAll h
  replace P8 := sp_2.mp P8
  obtain ⟨P9, h⟩ := snAll h
  replace P9 := sp_2.mp P9
  obtain ⟨P10, h⟩ := snAll h
  replace P10 := s_rd.mp P10
  obtain ⟨P11, h⟩ := snAll h
  replace P11 := sp_1.mp P11
  obtain ⟨P12, h⟩ := snAll h
  replace P12 := sp_3.mp P12
  obtain ⟨P13, h⟩ := snAll h
  replace P13 := sp_3.mp P13
  have L : eAcc ((nthF fs 0)) ((nthF fs 1)) ((nthF fs 2)) ((nthF fs 3)) ((nthF fs 4)) ((nthZ zs 0)) ((nthZ zs 1)) ((nthZ zs 2)) ((nthZ zs 3)) ((nthZ zs 4)) ((nthZ zs 5)) := by
    apply M_acN10 (F0 := nthF fs 0) (F1 := nthF fs 1) (F2 := nthF fs 2) (F3 := nthF fs 3) (F4 := nthF fs 4) (N0 := nthZ zs 0) (N1 := nthZ zs 1) (N2 := nthZ zs 2) (N3 := nthZ zs 3) (N4 := nthZ zs 4) (N5 := nthZ zs 5) (N6 := nthZ zs 6) (N7 := nthZ zs 7) (N8 := nthZ zs 8) (N9 := nthZ zs 9) (N10 := nthZ zs 10) <;> first | assumption | omega
  rcases List.mem_cons.mp hx with hx | hx
  · rw [hx]; refine s_acc.mpr ?_; exact L
  · cases hx
def q_acT1 : qRl := ([(1047, [5, 0, 1, 2, 3, 4, 0, 7, 8, 3, 4, 5], []), sp (-1) [(4, 1), (7, (-1))], (1027, [2, 0, 1, 7, 6, 4, 9], []), sp (-2) [(3, 1)], sp 0 [(6, 1)], sp 0 [(6, (-1))], sp 0 [(9, 1), (7, (-1))], sp (-1) [(1, 1), (9, (-1))], sp 1 [(9, 1), (1, (-1))], (1, [0, 7, 10], []), sp (-3) [(10, 1)], sp 3 [(10, (-1))], (1043, [3, 2, 3, 4, 7, 11, 5], []), sp 0 [(2, 1), (8, (-1)), (11, (-1))], sp 0 [(8, 1), (11, 1), (2, (-1))]], [(1047, [5, 0, 1, 2, 3, 4, 0, 1, 2, 3, 4, 5], [])])
theorem q_acT1_ok : RlOk q_acT1 := by
  intro fs zs h x hx
  obtain ⟨P0, h⟩ := snAll h
  replace P0 := s_acc.mp P0
  obtain ⟨P1, h⟩ := snAll h
  replace P1 := sp_2.mp P1
  obtain ⟨P2, h⟩ := snAll h
  replace P2 := s_det_partEnd.mp P2
  obtain ⟨P3, h⟩ := snAll h
  replace P3 := sp_1.mp P3
  obtain ⟨P4, h⟩ := snAll h
  replace P4 := sp_1.mp P4
  obtain ⟨P5, h⟩ := snAll h
  replace P5 := sp_1.mp P5
  obtain ⟨P6, h⟩ := snAll h
  replace P6 := sp_2.mp P6
  obtain ⟨P7, h⟩ := snAll h
  replace P7 := sp_2.mp P7
  obtain ⟨P8, h⟩ := snAll h
  replace P8 := sp_2.mp P8
  obtain ⟨P9, h⟩ := snAll h
  replace P9 := s_rd.mp P9
  obtain ⟨P10, h⟩ := snAll h
  replace P10 := sp_1.mp P10
  obtain ⟨P11, h⟩ := snAll h
  replace P11 := sp_1.mp P11
  obtain ⟨P12, h⟩ := snAll h
  replace P12 := s_tle.mp P12
  obtain ⟨P13, h⟩ := snAll h
  replace P13 := sp_3.mp P13
  obtain ⟨P14, h⟩ := snAll h
  replace P14 := sp_3.mp P14
  have L : eAcc ((nthF fs 0)) ((nthF fs 1)) ((nthF fs 2)) ((nthF fs 3)) ((nthF fs 4)) ((nthZ zs 0)) ((nthZ zs 1)) ((nthZ zs 2)) ((nthZ zs 3)) ((nthZ zs 4)) ((nthZ zs 5)) := by
    apply M_acT1 (F0 := nthF fs 0) (F1 := nthF fs 1) (F2 := nthF fs 2) (F3 := nthF fs 3) (F4 := nthF fs 4) (N0 := nthZ zs 0) (N1 := nthZ zs 1) (N2 := nthZ zs 2) (N3 := nthZ zs 3) (N4 := nthZ zs 4) (N5 := nthZ zs 5) (N6 := nthZ zs 6) (N7 := nthZ zs 7) (N8 := nthZ zs 8) (N9 := nthZ zs 9) (N10 := nthZ zs 10) (N11 := nthZ zs 11) <;> first | assumption | omega
  rcases List.mem_cons.mp hx with hx | hx
  · rw [hx]; refine s_acc.mpr ?_; exact L
  · cases hx
def q_acN01 : qRl := ([(1047, [5, 0, 1, 2, 3, 4, 0, 7, 8, 3, 4, 5], []), sp (-1) [(4, 1), (7, (-1))], (1027, [2, 0, 1, 7, 6, 4, 9], []), sp (-2) [(3, 1)], sp 0 [(6, 1)], sp 0 [(6, (-1))], sp 0 [(9, 1), (7, (-1))], sp (-1) [(1, 1), (9, (-1))], sp 1 [(9, 1), (1, (-1))], (1, [0, 7, 10], []), sp 2 [(10, (-1))], sp 0 [(2, 1), (8, (-1)), (3, (-1))], sp 0 [(8, 1), (3, 1), (2, (-1))]], [(1047, [5, 0, 1, 2, 3, 4, 0, 1, 2, 3, 4, 5], [])])
theorem q_acN01_ok : RlOk q_acN01 := by
  intro fs zs h x hx
  obtain ⟨P0, h⟩ := snAll h
  replace P0 := s_acc.mp P0
  obtain ⟨P1, h⟩ := snAll h
  replace P1 := sp_2.mp P1
  obtain ⟨P2, h⟩ := snAll h
  replace P2 := s_det_partEnd.mp P2
  obtain ⟨P3, h⟩ := snAll h
  replace P3 := sp_1.mp P3
  obtain ⟨P4, h⟩ := snAll h
  replace P4 := sp_1.mp P4
  obtain ⟨P5, h⟩ := snAll h
  replace P5 := sp_1.mp P5
  obtain ⟨P6, h⟩ := snAll h
  replace P6 := sp_2.mp P6
  obtain ⟨P7, h⟩ := snAll h
  replace P7 := sp_2.mp P7
  obtain ⟨P8, h⟩ := snAll h
  replace P8 := sp_2.mp P8
  obtain ⟨P9, h⟩ := snAll h
  replace P9 := s_rd.mp P9
  obtain ⟨P10, h⟩ := snAll h
  replace P10 := sp_1.mp P10
  obtain ⟨P11, h⟩ := snAll h
  replace P11 := sp_3.mp P11
  obtain ⟨P12, h⟩ := snAll h
  replace P12 := sp_3.mp P12
  have L : eAcc ((nthF fs 0)) ((nthF fs 1)) ((nthF fs 2)) ((nthF fs 3)) ((nthF fs 4)) ((nthZ zs 0)) ((nthZ zs 1)) ((nthZ zs 2)) ((nthZ zs 3)) ((nthZ zs 4)) ((nthZ zs 5)) := by
    apply M_acN01 (F0 := nthF fs 0) (F1 := nthF fs 1) (F2 := nthF fs 2) (F3 := nthF fs 3) (F4 := nthF fs 4) (N0 := nthZ zs 0) (N1 := nthZ zs 1) (N2 := nthZ zs 2) (N3 := nthZ zs 3) (N4 := nthZ zs 4) (N5 := nthZ zs 5) (N6 := nthZ zs 6) (N7 := nthZ zs 7) (N8 := nthZ zs 8) (N9 := nthZ zs 9) (N10 := nthZ zs 10) <;> first | assumption | omega
  rcases List.mem_cons.mp hx with hx | hx
  · rw [hx]; refine s_acc.mpr ?_; exact L
  · cases hx
def q_acN11 : qRl := ([(1047, [5, 0, 1, 2, 3, 4, 0, 7, 8, 3, 4, 5], []), sp (-1) [(4, 1), (7, (-1))], (1027, [2, 0, 1, 7, 6, 4, 9], []), sp (-2) [(3, 1)], sp 0 [(6, 1)], sp 0 [(6, (-1))], sp 0 [(9, 1), (7, (-1))], sp (-1) [(1, 1), (9, (-1))], sp 1 [(9, 1), (1, (-1))], (1, [0, 7, 10], []), sp (-4) [(10, 1)], sp 0 [(2, 1), (8, (-1)), (3, (-1))], sp 0 [(8, 1), (3, 1), (2, (-1))]], [(1047, [5, 0, 1, 2, 3, 4, 0, 1, 2, 3, 4, 5], [])])
theorem q_acN11_ok : RlOk q_acN11 := by
  intro fs zs h x hx
  obtain ⟨P0, h⟩ := snAll h
  replace P0 := s_acc.mp P0
  obtain ⟨P1, h⟩ := snAll h
  replace P1 := sp_2.mp P1
  obtain ⟨P2, h⟩ := snAll h
  replace P2 := s_det_partEnd.mp P2
  obtain ⟨P3, h⟩ := snAll h
  replace P3 := sp_1.mp P3
  obtain ⟨P4, h⟩ := snAll h
  replace P4 := sp_1.mp P4
  obtain ⟨P5, h⟩ := snAll h
  replace P5 := sp_1.mp P5
  obtain ⟨P6, h⟩ := snAll h
  replace P6 := sp_2.mp P6
  obtain ⟨P7, h⟩ := snAll h
  replace P7 := sp_2.mp P7
  obtain ⟨P8, h⟩ := snAll h
  replace P8 := sp_2.mp P8
  obtain ⟨P9, h⟩ := snAll h
  replace P9 := s_rd.mp P9
  obtain ⟨P10, h⟩ := snAll h
  replace P10 := sp_1.mp P10
  obtain ⟨P11, h⟩ := snAll h
  replace P11 := sp_3.mp P11
  obtain ⟨P12, h⟩ := snAll h
  replace P12 := sp_3.mp P12
  have L : eAcc ((nthF fs 0)) ((nthF fs 1)) ((nthF fs 2)) ((nthF fs 3)) ((nthF fs 4)) ((nthZ zs 0)) ((nthZ zs 1)) ((nthZ zs 2)) ((nthZ zs 3)) ((nthZ zs 4)) ((nthZ zs 5)) := by
    apply M_acN11 (F0 := nthF fs 0) (F1 := nthF fs 1) (F2 := nthF fs 2) (F3 := nthF fs 3) (F4 := nthF fs 4) (N0 := nthZ zs 0) (N1 := nthZ zs 1) (N2 := nthZ zs 2) (N3 := nthZ zs 3) (N4 := nthZ zs 4) (N5 := nthZ zs 5) (N6 := nthZ zs 6) (N7 := nthZ zs 7) (N8 := nthZ zs 8) (N9 := nthZ zs 9) (N10 := nthZ zs 10) <;> first | assumption | omega
  rcases List.mem_cons.mp hx with hx | hx
  · rw [hx]; refine s_acc.mpr ?_; exact L
  · cases hx
def q_acM0 : qRl := ([(1047, [5, 0, 1, 2, 3, 4, 0, 7, 8, 3, 4, 5], []), sp (-1) [(4, 1), (7, (-1))], (1027, [2, 0, 1, 7, 6, 4, 9], []), sp (-1) [(3, 1)], sp 1 [(3, (-1))], sp (-1) [(6, 1)], sp 1 [(6, (-1))], sp 0 [(9, 1), (7, (-1))], sp (-1) [(1, 1), (9, (-1))], sp 1 [(9, 1), (1, (-1))], (25, [1, 0, 10, 11, 12], []), sp 0 [(7, 1), (10, (-1))], sp (-1) [(11, 1), (7, (-1))], sp (-3) [(12, 1)], sp 3 [(12, (-1))], sp 0 [(2, 1), (8, (-1)), (3, (-1))], sp 0 [(8, 1), (3, 1), (2, (-1))]], [(1047, [5, 0, 1, 2, 3, 4, 0, 1, 2, 3, 4, 5], [])])
theorem q_acM0_ok : RlOk q_acM0 := by
  intro fs zs h x hx
  obtain ⟨P0, h⟩ := snAll h
  replace P0 := s_acc.mp P0
  obtain ⟨P1, h⟩ := snAll h
  replace P1 := sp_2.mp P1
  obtain ⟨P2, h⟩ := snAll h
  replace P2 := s_det_partEnd.mp P2
  obtain ⟨P3, h⟩ := snAll h
  replace P3 := sp_1.mp P3
  obtain ⟨P4, h⟩ := snAll h
  replace P4 := sp_1.mp P4
  obtain ⟨P5, h⟩ := snAll h
  replace P5 := sp_1.mp P5
  obtain ⟨P6, h⟩ := snAll h
  replace P6 := sp_1.mp P6
  obtain ⟨P7, h⟩ := snAll h
  replace P7 := sp_2.mp P7
  obtain ⟨P8, h⟩ := snAll h
  replace P8 := sp_2.mp P8
  obtain ⟨P9, h⟩ := snAll h
  replace P9 := sp_2.mp P9
  obtain ⟨P10, h⟩ := snAll h
  replace P10 := s_nev.mp P10
  obtain ⟨P11, h⟩ := snAll h
  replace P11 := sp_2.mp P11
  obtain ⟨P12, h⟩ := snAll h
  replace P12 := sp_2.mp P12
  obtain ⟨P13, h⟩ := snAll h
  replace P13 := sp_1.mp P13
  obtain ⟨P14, h⟩ := snAll h
  replace P14 := sp_1.mp P14
  obtain ⟨P15, h⟩ := snAll h
  replace P15 := sp_3.mp P15
  obtain ⟨P16, h⟩ := snAll h
  replace P16 := sp_3.mp P16
  have L : eAcc ((nthF fs 0)) ((nthF fs 1)) ((nthF fs 2)) ((nthF fs 3)) ((nthF fs 4)) ((nthZ zs 0)) ((nthZ zs 1)) ((nthZ zs 2)) ((nthZ zs 3)) ((nthZ zs 4)) ((nthZ zs 5)) := by
    apply M_acM0 (F0 := nthF fs 0) (F1 := nthF fs 1) (F2 := nthF fs 2) (F3 := nthF fs 3) (F4 := nthF fs 4) (N0 := nthZ zs 0) (N1 := nthZ zs 1) (N2 := nthZ zs 2) (N3 := nthZ zs 3) (N4 := nthZ zs 4) (N5 := nthZ zs 5) (N6 := nthZ zs 6) (N7 := nthZ zs 7) (N8 := nthZ zs 8) (N9 := nthZ zs 9) (N10 := nthZ zs 10) (N11 := nthZ zs 11) (N12 := nthZ zs 12) <;> first | assumption | omega
  rcases List.mem_cons.mp hx with hx | hx
  · rw [hx]; refine s_acc.mpr ?_; exact L
  · cases hx
def q_acM1 : qRl := ([(1047, [5, 0, 1, 2, 3, 4, 0, 7, 8, 3, 4, 5], []), sp (-1) [(4, 1), (7, (-1))], (1027, [2, 0, 1, 7, 6, 4, 9], []), sp (-2) [(3, 1)], sp 0 [(6, 1)], sp 0 [(6, (-1))], sp 0 [(9, 1), (7, (-1))], sp (-1) [(1, 1), (9, (-1))], sp 1 [(9, 1), (1, (-1))], (25, [1, 0, 10, 11, 12], []), sp 0 [(7, 1), (10, (-1))], sp (-1) [(11, 1), (7, (-1))], sp (-3) [(12, 1)], sp 3 [(12, (-1))], sp 0 [(2, 1), (8, (-1)), (3, (-1))], sp 0 [(8, 1), (3, 1), (2, (-1))]], [(1047, [5, 0, 1, 2, 3, 4, 0, 1, 2, 3, 4, 5], [])])
theorem q_acM1_ok : RlOk q_acM1 := by
  intro fs zs h x hx
  obtain ⟨P0, h⟩ := snAll h
  replace P0 := s_acc.mp P0
  obtain ⟨P1, h⟩ := snAll h
  replace P1 := sp_2.mp P1
  obtain ⟨P2, h⟩ := snAll h
  replace P2 := s_det_partEnd.mp P2
  obtain ⟨P3, h⟩ := snAll h
  replace P3 := sp_1.mp P3
  obtain ⟨P4, h⟩ := snAll h
  replace P4 := sp_1.mp P4
  obtain ⟨P5, h⟩ := snAll h
  replace P5 := sp_1.mp P5
  obtain ⟨P6, h⟩ := snAll h
  replace P6 := sp_2.mp P6
  obtain ⟨P7, h⟩ := snAll h
  replace P7 := sp_2.mp P7
  obtain ⟨P8, h⟩ := snAll h
  replace P8 := sp_2.mp P8
  obtain ⟨P9, h⟩ := snAll h
  replace P9 := s_nev.mp P9
  obtain ⟨P10, h⟩ := snAll h
  replace P10 := sp_2.mp P10
  obtain ⟨P11, h⟩ := snAll h
  replace P11 := sp_2.mp P11
  obtain ⟨P12, h⟩ := snAll h
  replace P12 := sp_1.mp P12
  obtain ⟨P13, h⟩ := snAll h
  replace P13 := sp_1.mp P13
  obtain ⟨P14, h⟩ := snAll h
  replace P14 := sp_3.mp P14
  obtain ⟨P15, h⟩ := snAll h
  replace P15 := sp_3.mp P15
  have L : eAcc ((nthF fs 0)) ((nthF fs 1)) ((nthF fs 2)) ((nthF fs 3)) ((nthF fs 4)) ((nthZ zs 0)) ((nthZ zs 1)) ((nthZ zs 2)) ((nthZ zs 3)) ((nthZ zs 4)) ((nthZ zs 5)) := by
    apply M_acM1 (F0 := nthF fs 0) (F1 := nthF fs 1) (F2 := nthF fs 2) (F3 := nthF fs 3) (F4 := nthF fs 4) (N0 := nthZ zs 0) (N1 := nthZ zs 1) (N2 := nthZ zs 2) (N3 := nthZ zs 3) (N4 := nthZ zs 4) (N5 := nthZ zs 5) (N6 := nthZ zs 6) (N7 := nthZ zs 7) (N8 := nthZ zs 8) (N9 := nthZ zs 9) (N10 := nthZ zs 10) (N11 := nthZ zs 11) (N12 := nthZ zs 12) <;> first | assumption | omega
  rcases List.mem_cons.mp hx with hx | hx
  · rw [hx]; refine s_acc.mpr ?_; exact L
  · cases hx
def q_ch0 : qRl := ([sp 0 [(1, 1), (0, (-1))], sp 0 [(0, 1), (1, (-1))], sp 0 [], sp 0 []], [(1048, [2, 0, 1, 0, 1, 2, 3], [])])
theorem q_ch0_ok : RlOk q_ch0 := by
  intro fs zs h x hx
  obtain ⟨P0, h⟩ := snAll h
  replace P0 := sp_2.mp P0
  obtain ⟨P1, h⟩ := snAll h
  replace P1 := sp_2.mp P1
  obtain ⟨P2, h⟩ := snAll h
  replace P2 := sp_0.mp P2
  obtain ⟨P3, h⟩ := snAll h
  replace P3 := sp_0.mp P3
  have L : eChn ((nthF fs 0)) ((nthF fs 1)) ((nthZ zs 0)) ((nthZ zs 1)) ((nthZ zs 2)) ((nthZ zs 3)) := by
    apply M_ch0 (F0 := nthF fs 0) (F1 := nthF fs 1) (N0 := nthZ zs 0) (N1 := nthZ zs 1) (N2 := nthZ zs 2) (N3 := nthZ zs 3) <;> first | assumption | omega
  rcases List.mem_cons.mp hx with hx | hx
  · rw [hx]; refine s_chn.mpr ?_; exact L
  · cases hx
def q_ch10 : qRl := ([(1048, [2, 0, 1, 0, 4, 2, 3], []), (1027, [2, 0, 1, 4, 6, 2, 5], []), sp (-1) [(3, 1)], sp 1 [(3, (-1))], sp (-1) [(6, 1)], sp 1 [(6, (-1))], sp 0 [(5, 1), (4, (-1))], sp (-1) [(2, 1), (4, (-1))], (1046, [2, 0, 1, 4, 2, 5], []), sp (-1) [(1, 1), (5, (-1))], sp 1 [(5, 1), (1, (-1))]], [(1048, [2, 0, 1, 0, 1, 2, 3], [])])
theorem q_ch10_ok : RlOk q_ch10 := by
  intro fs zs h x hx
  obtain ⟨P0, h⟩ := snAll h
  replace P0 := s_chn.mp P0
  obtain ⟨P1, h⟩ := snAll h
  replace P1 := s_det_partEnd.mp P1
  obtain ⟨P2, h⟩ := snAll h
  replace P2 := sp_1.mp P2
  obtain ⟨P3, h⟩ := snAll h
  replace P3 := sp_1.mp P3
  obtain ⟨P4, h⟩ := snAll h
  replace P4 := sp_1.mp P4
  obtain ⟨P5, h⟩ := snAll h
  replace P5 := sp_1.mp P5
  obtain ⟨P6, h⟩ := snAll h
  replace P6 := sp_2.mp P6
  obtain ⟨P7, h⟩ := snAll h
  replace P7 := sp_2.mp P7
  obtain ⟨P8, h⟩ := snAll h
  replace P8 := s_pe2.mp P8
  obtain ⟨P9, h⟩ := snAll h
  replace P9 := sp_2.mp P9
  obtain ⟨P10, h⟩ := snAll h
  replace P10 := sp_2.mp P10
  have L : eChn ((nthF fs 0)) ((nthF fs 1)) ((nthZ zs 0)) ((nthZ zs 1)) ((nthZ zs 2)) ((nthZ zs 3)) := by
    apply M_ch10 (F0 := nthF fs 0) (F1 := nthF fs 1) (N0 := nthZ zs 0) (N1 := nthZ zs 1) (N2 := nthZ zs 2) (N3 := nthZ zs 3) (N4 := nthZ zs 4) (N5 := nthZ zs 5) (N6 := nthZ zs 6) <;> first | assumption | omega
  rcases List.mem_cons.mp hx with hx | hx
  · rw [hx]; refine s_chn.mpr ?_; exact L
  · cases hx
def q_ch11 : qRl := ([(1048, [2, 0, 1, 0, 4, 2, 3], []), (1027, [2, 0, 1, 4, 6, 2, 5], []), sp (-2) [(3, 1)], sp 0 [(6, 1)], sp 0 [(6, (-1))], sp 0 [(5, 1), (4, (-1))], sp (-1) [(2, 1), (4, (-1))], (1046, [2, 0, 1, 4, 2, 5], []), sp (-1) [(1, 1), (5, (-1))], sp 1 [(5, 1), (1, (-1))]], [(1048, [2, 0, 1, 0, 1, 2, 3], [])])
theorem q_ch11_ok : RlOk q_ch11 := by
  intro fs zs h x hx
  obtain ⟨P0, h⟩ := snAll h
  replace P0 := s_chn.mp P0
  obtain ⟨P1, h⟩ := snAll h
  replace P1 := s_det_partEnd.mp P1
  obtain ⟨P2, h⟩ := snAll h
  replace P2 := sp_1.mp P2
  obtain ⟨P3, h⟩ := snAll h
  replace P3 := sp_1.mp P3
  obtain ⟨P4, h⟩ := snAll h
  replace P4 := sp_1.mp P4
  obtain ⟨P5, h⟩ := snAll h
  replace P5 := sp_2.mp P5
  obtain ⟨P6, h⟩ := snAll h
  replace P6 := sp_2.mp P6
  obtain ⟨P7, h⟩ := snAll h
  replace P7 := s_pe2.mp P7
  obtain ⟨P8, h⟩ := snAll h
  replace P8 := sp_2.mp P8
  obtain ⟨P9, h⟩ := snAll h
  replace P9 := sp_2.mp P9
  have L : eChn ((nthF fs 0)) ((nthF fs 1)) ((nthZ zs 0)) ((nthZ zs 1)) ((nthZ zs 2)) ((nthZ zs 3)) := by
    apply M_ch11 (F0 := nthF fs 0) (F1 := nthF fs 1) (N0 := nthZ zs 0) (N1 := nthZ zs 1) (N2 := nthZ zs 2) (N3 := nthZ zs 3) (N4 := nthZ zs 4) (N5 := nthZ zs 5) (N6 := nthZ zs 6) <;> first | assumption | omega
  rcases List.mem_cons.mp hx with hx | hx
  · rw [hx]; refine s_chn.mpr ?_; exact L
  · cases hx
def q_ch20 : qRl := ([(1048, [2, 0, 1, 0, 1, 2, 3], []), (1048, [2, 0, 1, 0, 7, 2, 3], []), sp (-1) [(1, 1), (7, (-1))], (1027, [2, 0, 1, 7, 6, 2, 5], []), sp (-1) [(3, 1)], sp 1 [(3, (-1))], sp (-1) [(6, 1)], sp 1 [(6, (-1))]], [sp 0 [(5, 1), (7, (-1))], sp (-1) [(1, 1), (5, (-1))]])
theorem q_ch20_ok : RlOk q_ch20 := by
  intro fs zs h x hx
  obtain ⟨P0, h⟩ := snAll h
  replace P0 := s_chn.mp P0
  obtain ⟨P1, h⟩ := snAll h
  replace P1 := s_chn.mp P1
  obtain ⟨P2, h⟩ := snAll h
  replace P2 := sp_2.mp P2
  obtain ⟨P3, h⟩ := snAll h
  replace P3 := s_det_partEnd.mp P3
  obtain ⟨P4, h⟩ := snAll h
  replace P4 := sp_1.mp P4
  obtain ⟨P5, h⟩ := snAll h
  replace P5 := sp_1.mp P5
  obtain ⟨P6, h⟩ := snAll h
  replace P6 := sp_1.mp P6
  obtain ⟨P7, h⟩ := snAll h
  replace P7 := sp_1.mp P7
  have L : ((nthZ zs 7) ≤ (nthZ zs 5)) ∧ ((nthZ zs 5) + 1 ≤ (nthZ zs 1)) := by
    apply M_ch20 (F0 := nthF fs 0) (F1 := nthF fs 1) (N0 := nthZ zs 0) (N1 := nthZ zs 1) (N2 := nthZ zs 2) (N3 := nthZ zs 3) (N4 := nthZ zs 4) (N5 := nthZ zs 5) (N6 := nthZ zs 6) (N7 := nthZ zs 7) <;> first | assumption | omega
  obtain ⟨L0, L1⟩ := L
  rcases List.mem_cons.mp hx with hx | hx
  · rw [hx]; refine sp_2.mpr ?_; omega
  rcases List.mem_cons.mp hx with hx | hx
  · rw [hx]; refine sp_2.mpr ?_; omega
  · cases hx
def q_ch21 : qRl := ([(1048, [2, 0, 1, 0, 1, 2, 3], []), (1048, [2, 0, 1, 0, 7, 2, 3], []), sp (-1) [(1, 1), (7, (-1))], (1027, [2, 0, 1, 7, 6, 2, 5], []), sp (-2) [(3, 1)], sp 0 [(6, 1)], sp 0 [(6, (-1))]], [sp 0 [(5, 1), (7, (-1))], sp (-1) [(1, 1), (5, (-1))]])
theorem q_ch21_ok : RlOk q_ch21 := by
  intro fs zs h x hx
  obtain ⟨P0, h⟩ := snAll h
  replace P0 := s_chn.mp P0
  obtain ⟨P1, h⟩ := snAll h
  replace P1 := s_chn.mp P1
  obtain ⟨P2, h⟩ := snAll h
  replace P2 := sp_2.mp P2
  obtain ⟨P3, h⟩ := snAll h
  replace P3 := s_det_partEnd.mp P3
  obtain ⟨P4, h⟩ := snAll h
  replace P4 := sp_1.mp P4
  obtain ⟨P5, h⟩ := snAll h
  replace P5 := sp_1.mp P5
  obtain ⟨P6, h⟩ := snAll h
  replace P6 := sp_1.mp P6
  have L : ((nthZ zs 7) ≤ (nthZ zs 5)) ∧ ((nthZ zs 5) + 1 ≤ (nthZ zs 1)) := by
    apply M_ch21 (F0 := nthF fs 0) (F1 := nthF fs 1) (N0 := nthZ zs 0) (N1 := nthZ zs 1) (N2 := nthZ zs 2) (N3 := nthZ zs 3) (N4 := nthZ zs 4) (N5 := nthZ zs 5) (N6 := nthZ zs 6) (N7 := nthZ zs 7) <;> first | assumption | omega
  obtain ⟨L0, L1⟩ := L
  rcases List.mem_cons.mp hx with hx | hx
  · rw [hx]; refine sp_2.mpr ?_; omega
  rcases List.mem_cons.mp hx with hx | hx
  · rw [hx]; refine sp_2.mpr ?_; omega
  · cases hx
def q_ch30 : qRl := ([(1048, [2, 0, 1, 0, 1, 2, 3], []), (1048, [2, 0, 1, 0, 7, 2, 3], []), sp (-1) [(1, 1), (7, (-1))], (1, [0, 7, 8], []), sp 2 [(8, (-1))], (1026, [2, 0, 1, 7, 6, 2, 5], []), sp 0 [(6, 1)], sp 0 [(6, (-1))]], [sp 0 [(5, 1), (7, (-1))], sp (-1) [(1, 1), (5, (-1))]])
theorem q_ch30_ok : RlOk q_ch30 := by
  intro fs zs h x hx
  obtain ⟨P0, h⟩ := snAll h
  replace P0 := s_chn.mp P0
  obtain ⟨P1, h⟩ := snAll h
  replace P1 := s_chn.mp P1
  obtain ⟨P2, h⟩ := snAll h
  replace P2 := sp_2.mp P2
  obtain ⟨P3, h⟩ := snAll h
  replace P3 := s_rd.mp P3
  obtain ⟨P4, h⟩ := snAll h
  replace P4 := sp_1.mp P4
  obtain ⟨P5, h⟩ := snAll h
  replace P5 := s_det_pass.mp P5
  obtain ⟨P6, h⟩ := snAll h
  replace P6 := sp_1.mp P6
  obtain ⟨P7, h⟩ := snAll h
  replace P7 := sp_1.mp P7
  have L : ((nthZ zs 7) ≤ (nthZ zs 5)) ∧ ((nthZ zs 5) + 1 ≤ (nthZ zs 1)) := by
    apply M_ch30 (F0 := nthF fs 0) (F1 := nthF fs 1) (N0 := nthZ zs 0) (N1 := nthZ zs 1) (N2 := nthZ zs 2) (N3 := nthZ zs 3) (N4 := nthZ zs 4) (N5 := nthZ zs 5) (N6 := nthZ zs 6) (N7 := nthZ zs 7) (N8 := nthZ zs 8) <;> first | assumption | omega
  obtain ⟨L0, L1⟩ := L
  rcases List.mem_cons.mp hx with hx | hx
  · rw [hx]; refine sp_2.mpr ?_; omega
  rcases List.mem_cons.mp hx with hx | hx
  · rw [hx]; refine sp_2.mpr ?_; omega
  · cases hx
def q_ch31 : qRl := ([(1048, [2, 0, 1, 0, 1, 2, 3], []), (1048, [2, 0, 1, 0, 7, 2, 3], []), sp (-1) [(1, 1), (7, (-1))], (1, [0, 7, 8], []), sp (-4) [(8, 1)], (1026, [2, 0, 1, 7, 6, 2, 5], []), sp 0 [(6, 1)], sp 0 [(6, (-1))]], [sp 0 [(5, 1), (7, (-1))], sp (-1) [(1, 1), (5, (-1))]])
theorem q_ch31_ok : RlOk q_ch31 := by
  intro fs zs h x hx
  obtain ⟨P0, h⟩ := snAll h
  replace P0 := s_chn.mp P0
  obtain ⟨P1, h⟩ := snAll h
  replace P1 := s_chn.mp P1
  obtain ⟨P2, h⟩ := snAll h
  replace P2 := sp_2.mp P2
  obtain ⟨P3, h⟩ := snAll h
  replace P3 := s_rd.mp P3
  obtain ⟨P4, h⟩ := snAll h
  replace P4 := sp_1.mp P4
  obtain ⟨P5, h⟩ := snAll h
  replace P5 := s_det_pass.mp P5
  obtain ⟨P6, h⟩ := snAll h
  replace P6 := sp_1.mp P6
  obtain ⟨P7, h⟩ := snAll h
  replace P7 := sp_1.mp P7
  have L : ((nthZ zs 7) ≤ (nthZ zs 5)) ∧ ((nthZ zs 5) + 1 ≤ (nthZ zs 1)) := by
    apply M_ch31 (F0 := nthF fs 0) (F1 := nthF fs 1) (N0 := nthZ zs 0) (N1 := nthZ zs 1) (N2 := nthZ zs 2) (N3 := nthZ zs 3) (N4 := nthZ zs 4) (N5 := nthZ zs 5) (N6 := nthZ zs 6) (N7 := nthZ zs 7) (N8 := nthZ zs 8) <;> first | assumption | omega
  obtain ⟨L0, L1⟩ := L
  rcases List.mem_cons.mp hx with hx | hx
  · rw [hx]; refine sp_2.mpr ?_; omega
  rcases List.mem_cons.mp hx with hx | hx
  · rw [hx]; refine sp_2.mpr ?_; omega
  · cases hx
def q_ch4 : qRl := ([(1048, [2, 0, 1, 0, 1, 2, 3], []), (1048, [2, 0, 1, 0, 7, 2, 3], []), sp (-1) [(1, 1), (7, (-1))]], [sp (-1) [(2, 1), (7, (-1))]])
theorem q_ch4_ok : RlOk q_ch4 := by
  intro fs zs h x hx
  obtain ⟨P0, h⟩ := snAll h
  replace P0 := s_chn.mp P0
  obtain ⟨P1, h⟩ := snAll h
  replace P1 := s_chn.mp P1
  obtain ⟨P2, h⟩ := snAll h
  replace P2 := sp_2.mp P2
  have L : (nthZ zs 7) + 1 ≤ (nthZ zs 2) := by
    apply M_ch4 (F0 := nthF fs 0) (F1 := nthF fs 1) (N0 := nthZ zs 0) (N1 := nthZ zs 1) (N2 := nthZ zs 2) (N3 := nthZ zs 3) (N4 := nthZ zs 4) (N5 := nthZ zs 5) (N6 := nthZ zs 6) (N7 := nthZ zs 7) <;> first | assumption | omega
  rcases List.mem_cons.mp hx with hx | hx
  · rw [hx]; refine sp_2.mpr ?_; omega
  · cases hx
def q_ch5 : qRl := ([(1048, [2, 0, 1, 0, 1, 2, 3], []), (1048, [2, 0, 1, 0, 7, 2, 3], []), sp 0 [(7, 1), (2, (-1))]], [sp 0 [(7, 1), (1, (-1))]])
theorem q_ch5_ok : RlOk q_ch5 := by
  intro fs zs h x hx
  obtain ⟨P0, h⟩ := snAll h
  replace P0 := s_chn.mp P0
  obtain ⟨P1, h⟩ := snAll h
  replace P1 := s_chn.mp P1
  obtain ⟨P2, h⟩ := snAll h
  replace P2 := sp_2.mp P2
  have L : (nthZ zs 1) ≤ (nthZ zs 7) := by
    apply M_ch5 (F0 := nthF fs 0) (F1 := nthF fs 1) (N0 := nthZ zs 0) (N1 := nthZ zs 1) (N2 := nthZ zs 2) (N3 := nthZ zs 3) (N4 := nthZ zs 4) (N5 := nthZ zs 5) (N6 := nthZ zs 6) (N7 := nthZ zs 7) <;> first | assumption | omega
  rcases List.mem_cons.mp hx with hx | hx
  · rw [hx]; refine sp_2.mpr ?_; omega
  · cases hx
def q_acLt : qRl := ([(1047, [5, 0, 1, 2, 3, 4, 0, 1, 2, 3, 4, 5], []), (1047, [5, 0, 1, 2, 3, 4, 0, 7, 8, 3, 4, 5], []), sp 0 [(1, 1), (4, (-1))], sp (-1) [(4, 1), (7, (-1))], sp 0 [(3, 1)], (1, [0, 7, 9], []), sp (-3) [(9, 1)], sp 3 [(9, (-1))], (1043, [3, 2, 3, 4, 7, 10, 5], [])], [sp 0 [(2, 1), (8, (-1)), (10, (-1))]])
theorem q_acLt_ok : RlOk q_acLt := by
  intro fs zs h x hx
  obtain ⟨P0, h⟩ := snAll h
  replace P0 := s_acc.mp P0
  obtain ⟨P1, h⟩ := snAll h
  replace P1 := s_acc.mp P1
  obtain ⟨P2, h⟩ := snAll h
  replace P2 := sp_2.mp P2
  obtain ⟨P3, h⟩ := snAll h
  replace P3 := sp_2.mp P3
  obtain ⟨P4, h⟩ := snAll h
  replace P4 := sp_1.mp P4
  obtain ⟨P5, h⟩ := snAll h
  replace P5 := s_rd.mp P5
  obtain ⟨P6, h⟩ := snAll h
  replace P6 := sp_1.mp P6
  obtain ⟨P7, h⟩ := snAll h
  replace P7 := sp_1.mp P7
  obtain ⟨P8, h⟩ := snAll h
  replace P8 := s_tle.mp P8
  have L : (nthZ zs 8) + (nthZ zs 10) ≤ (nthZ zs 2) := by
    apply M_acLt (F0 := nthF fs 0) (F1 := nthF fs 1) (F2 := nthF fs 2) (F3 := nthF fs 3) (F4 := nthF fs 4) (N0 := nthZ zs 0) (N1 := nthZ zs 1) (N2 := nthZ zs 2) (N3 := nthZ zs 3) (N4 := nthZ zs 4) (N5 := nthZ zs 5) (N6 := nthZ zs 6) (N7 := nthZ zs 7) (N8 := nthZ zs 8) (N9 := nthZ zs 9) (N10 := nthZ zs 10) <;> first | assumption | omega
  rcases List.mem_cons.mp hx with hx | hx
  · rw [hx]; refine sp_3.mpr ?_; omega
  · cases hx
def q_acLn0 : qRl := ([(1047, [5, 0, 1, 2, 3, 4, 0, 1, 2, 3, 4, 5], []), (1047, [5, 0, 1, 2, 3, 4, 0, 7, 8, 3, 4, 5], []), sp 0 [(1, 1), (4, (-1))], sp (-1) [(4, 1), (7, (-1))], sp 0 [(3, 1)], (1, [0, 7, 9], []), sp 2 [(9, (-1))]], [sp 0 [(2, 1), (8, (-1)), (3, (-1))]])
theorem q_acLn0_ok : RlOk q_acLn0 := by
  intro fs zs h x hx
  obtain ⟨P0, h⟩ := snAll h
  replace P0 := s_acc.mp P0
  obtain ⟨P1, h⟩ := snAll h
  replace P1 := s_acc.mp P1
  obtain ⟨P2, h⟩ := snAll h
  replace P2 := sp_2.mp P2
  obtain ⟨P3, h⟩ := snAll h
  replace P3 := sp_2.mp P3
  obtain ⟨P4, h⟩ := snAll h
  replace P4 := sp_1.mp P4
  obtain ⟨P5, h⟩ := snAll h
  replace P5 := s_rd.mp P5
  obtain ⟨P6, h⟩ := snAll h
  replace P6 := sp_1.mp P6
  have L : (nthZ zs 8) + (nthZ zs 3) ≤ (nthZ zs 2) := by
    apply M_acLn0 (F0 := nthF fs 0) (F1 := nthF fs 1) (F2 := nthF fs 2) (F3 := nthF fs 3) (F4 := nthF fs 4) (N0 := nthZ zs 0) (N1 := nthZ zs 1) (N2 := nthZ zs 2) (N3 := nthZ zs 3) (N4 := nthZ zs 4) (N5 := nthZ zs 5) (N6 := nthZ zs 6) (N7 := nthZ zs 7) (N8 := nthZ zs 8) (N9 := nthZ zs 9) <;> first | assumption | omega
  rcases List.mem_cons.mp hx with hx | hx
  · rw [hx]; refine sp_3.mpr ?_; omega
  · cases hx
def q_acLn1 : qRl := ([(1047, [5, 0, 1, 2, 3, 4, 0, 1, 2, 3, 4, 5], []), (1047, [5, 0, 1, 2, 3, 4, 0, 7, 8, 3, 4, 5], []), sp 0 [(1, 1), (4, (-1))], sp (-1) [(4, 1), (7, (-1))], sp 0 [(3, 1)], (1, [0, 7, 9], []), sp (-4) [(9, 1)]], [sp 0 [(2, 1), (8, (-1)), (3, (-1))]])
theorem q_acLn1_ok : RlOk q_acLn1 := by
  intro fs zs h x hx
  obtain ⟨P0, h⟩ := snAll h
  replace P0 := s_acc.mp P0
  obtain ⟨P1, h⟩ := snAll h
  replace P1 := s_acc.mp P1
  obtain ⟨P2, h⟩ := snAll h
  replace P2 := sp_2.mp P2
  obtain ⟨P3, h⟩ := snAll h
  replace P3 := sp_2.mp P3
  obtain ⟨P4, h⟩ := snAll h
  replace P4 := sp_1.mp P4
  obtain ⟨P5, h⟩ := snAll h
  replace P5 := s_rd.mp P5
  obtain ⟨P6, h⟩ := snAll h
  replace P6 := sp_1.mp P6
  have L : (nthZ zs 8) + (nthZ zs 3) ≤ (nthZ zs 2) := by
    apply M_acLn1 (F0 := nthF fs 0) (F1 := nthF fs 1) (F2 := nthF fs 2) (F3 := nthF fs 3) (F4 := nthF fs 4) (N0 := nthZ zs 0) (N1 := nthZ zs 1) (N2 := nthZ zs 2) (N3 := nthZ zs 3) (N4 := nthZ zs 4) (N5 := nthZ zs 5) (N6 := nthZ zs 6) (N7 := nthZ zs 7) (N8 := nthZ zs 8) (N9 := nthZ zs 9) <;> first | assumption | omega
  rcases List.mem_cons.mp hx with hx | hx
  · rw [hx]; refine sp_3.mpr ?_; omega
  · cases hx
def q_g8a : qRl := ([(27, [1, 0, 4, 5, 6, 7], []), sp (-1) [(5, 1), (4, (-1))], sp (-1) [(7, (-1))], (1044, [2, 0, 1, 8, 9], []), sp 0 [(9, (-1))], sp 0 [(4, 1)], sp (-1) [(8, 1), (4, (-1))], sp (-1) [(0, 1), (4, (-1))], sp 1 [(0, 1), (1, (-1))], sp 1 [(3, 1), (0, (-1)), (8, 1)], sp 8 [(6, 1), (2, (-1))]], [(27, [1, 0, 0, 1, 2, 3], [])])
theorem q_g8a_ok : RlOk q_g8a := by
  intro fs zs h x hx
  obtain ⟨P0, h⟩ := snAll h
  replace P0 := s_ge8_or.mp P0
  obtain ⟨P1, h⟩ := snAll h
  replace P1 := sp_2.mp P1
  obtain ⟨P2, h⟩ := snAll h
  replace P2 := sp_1.mp P2
  obtain ⟨P3, h⟩ := snAll h
  replace P3 := s_rs.mp P3
  obtain ⟨P4, h⟩ := snAll h
  replace P4 := sp_1.mp P4
  obtain ⟨P5, h⟩ := snAll h
  replace P5 := sp_1.mp P5
  obtain ⟨P6, h⟩ := snAll h
  replace P6 := sp_2.mp P6
  obtain ⟨P7, h⟩ := snAll h
  replace P7 := sp_2.mp P7
  obtain ⟨P8, h⟩ := snAll h
  replace P8 := sp_2.mp P8
  obtain ⟨P9, h⟩ := snAll h
  replace P9 := sp_3.mp P9
  obtain ⟨P10, h⟩ := snAll h
  replace P10 := sp_2.mp P10
  have L : ∀ x : Int, (nthZ zs 0) ≤ x → x < (nthZ zs 1) → ((0 ≤ 0+(-1)*(nthZ zs 2)+(8)*(nthF fs 0) (x)) ∨ (0 ≤ 0+(1)*(nthZ zs 3))) := by
    apply M_g8a (F0 := nthF fs 0) (F1 := nthF fs 1) (N0 := nthZ zs 0) (N1 := nthZ zs 1) (N2 := nthZ zs 2) (N3 := nthZ zs 3) (N4 := nthZ zs 4) (N5 := nthZ zs 5) (N6 := nthZ zs 6) (N7 := nthZ zs 7) (N8 := nthZ zs 8) (N9 := nthZ zs 9) <;> first | assumption | omega
  rcases List.mem_cons.mp hx with hx | hx
  · rw [hx]; refine s_ge8_or.mpr ?_; exact L
  · cases hx
def q_g8b : qRl := ([(27, [1, 0, 4, 5, 6, 7], []), sp (-1) [(5, 1), (4, (-1))], sp (-1) [(7, (-1))], (1044, [2, 0, 1, 8, 9], []), sp 0 [(9, (-1))], sp 0 [(4, 1)], sp (-1) [(8, 1), (4, (-1))], sp (-1) [(0, 1), (4, (-1))], sp 1 [(0, 1), (1, (-1))], sp 1 [(3, 1), (0, (-1)), (8, 1)], (1043, [3, 0, 1, 2, 4, 10, 11], []), sp 0 [(6, 1), (10, 1), (2, (-1))]], [(27, [1, 0, 0, 1, 2, 3], [])])
theorem q_g8b_ok : RlOk q_g8b := by
  intro fs zs h x hx
  obtain ⟨P0, h⟩ := snAll h
  replace P0 := s_ge8_or.mp P0
  obtain ⟨P1, h⟩ := snAll h
  replace P1 := sp_2.mp P1
  obtain ⟨P2, h⟩ := snAll h
  replace P2 := sp_1.mp P2
  obtain ⟨P3, h⟩ := snAll h
  replace P3 := s_rs.mp P3
  obtain ⟨P4, h⟩ := snAll h
  replace P4 := sp_1.mp P4
  obtain ⟨P5, h⟩ := snAll h
  replace P5 := sp_1.mp P5
  obtain ⟨P6, h⟩ := snAll h
  replace P6 := sp_2.mp P6
  obtain ⟨P7, h⟩ := snAll h
  replace P7 := sp_2.mp P7
  obtain ⟨P8, h⟩ := snAll h
  replace P8 := sp_2.mp P8
  obtain ⟨P9, h⟩ := snAll h
  replace P9 := sp_3.mp P9
  obtain ⟨P10, h⟩ := snAll h
  replace P10 := s_tle.mp P10
  obtain ⟨P11, h⟩ := snAll h
  replace P11 := sp_3.mp P11
  have L : ∀ x : Int, (nthZ zs 0) ≤ x → x < (nthZ zs 1) → ((0 ≤ 0+(-1)*(nthZ zs 2)+(8)*(nthF fs 0) (x)) ∨ (0 ≤ 0+(1)*(nthZ zs 3))) := by
    apply M_g8b (F0 := nthF fs 0) (F1 := nthF fs 1) (F2 := nthF fs 2) (N0 := nthZ zs 0) (N1 := nthZ zs 1) (N2 := nthZ zs 2) (N3 := nthZ zs 3) (N4 := nthZ zs 4) (N5 := nthZ zs 5) (N6 := nthZ zs 6) (N7 := nthZ zs 7) (N8 := nthZ zs 8) (N9 := nthZ zs 9) (N10 := nthZ zs 10) (N11 := nthZ zs 11) <;> first | assumption | omega
  rcases List.mem_cons.mp hx with hx | hx
  · rw [hx]; refine s_ge8_or.mpr ?_; exact L
  · cases hx
def q_g8c : qRl := ([(27, [1, 0, 4, 5, 6, 7], []), sp (-1) [(5, 1), (4, (-1))], sp (-1) [(7, (-1))], (1044, [2, 0, 1, 8, 9], []), sp 0 [(9, (-1))], sp 0 [(4, 1)], sp (-1) [(8, 1), (4, (-1))], (1043, [3, 0, 1, 2, 4, 10, 11], []), (6, [1, 0, 12, 13, 14], []), sp 1 [(4, 1), (12, (-1))], sp (-2) [(13, 1), (4, (-1))]], [sp 0 [(14, 8), (6, (-1)), (10, (-1))]])
theorem q_g8c_ok : RlOk q_g8c := by
  intro fs zs h x hx
  obtain ⟨P0, h⟩ := snAll h
  replace P0 := s_ge8_or.mp P0
  obtain ⟨P1, h⟩ := snAll h
  replace P1 := sp_2.mp P1
  obtain ⟨P2, h⟩ := snAll h
  replace P2 := sp_1.mp P2
  obtain ⟨P3, h⟩ := snAll h
  replace P3 := s_rs.mp P3
  obtain ⟨P4, h⟩ := snAll h
  replace P4 := sp_1.mp P4
  obtain ⟨P5, h⟩ := snAll h
  replace P5 := sp_1.mp P5
  obtain ⟨P6, h⟩ := snAll h
  replace P6 := sp_2.mp P6
  obtain ⟨P7, h⟩ := snAll h
  replace P7 := s_tle.mp P7
  obtain ⟨P8, h⟩ := snAll h
  replace P8 := s_le.mp P8
  obtain ⟨P9, h⟩ := snAll h
  replace P9 := sp_2.mp P9
  obtain ⟨P10, h⟩ := snAll h
  replace P10 := sp_2.mp P10
  have L : (nthZ zs 6) + (nthZ zs 10) ≤ 8 * (nthZ zs 14) := by
    apply M_g8c (F0 := nthF fs 0) (F1 := nthF fs 1) (F2 := nthF fs 2) (N0 := nthZ zs 0) (N1 := nthZ zs 1) (N2 := nthZ zs 2) (N3 := nthZ zs 3) (N4 := nthZ zs 4) (N5 := nthZ zs 5) (N6 := nthZ zs 6) (N7 := nthZ zs 7) (N8 := nthZ zs 8) (N9 := nthZ zs 9) (N10 := nthZ zs 10) (N11 := nthZ zs 11) (N12 := nthZ zs 12) (N13 := nthZ zs 13) (N14 := nthZ zs 14) <;> first | assumption | omega
  rcases List.mem_cons.mp hx with hx | hx
  · rw [hx]; refine sp_3.mpr ?_; omega
  · cases hx
def q_g8d : qRl := ([(27, [1, 0, 4, 5, 6, 7], []), sp (-1) [(5, 1), (4, (-1))], sp (-1) [(7, (-1))], (1044, [2, 0, 1, 8, 9], []), sp 0 [(9, (-1))], sp 0 [(4, 1)], sp (-1) [(8, 1), (4, (-1))], (6, [1, 0, 12, 13, 14], []), sp 1 [(4, 1), (12, (-1))], sp (-2) [(13, 1), (4, (-1))]], [sp (-8) [(14, 8), (6, (-1))]])
theorem q_g8d_ok : RlOk q_g8d := by
  intro fs zs h x hx
  obtain ⟨P0, h⟩ := snAll h
  replace P0 := s_ge8_or.mp P0
  obtain ⟨P1, h⟩ := snAll h
  replace P1 := sp_2.mp P1
  obtain ⟨P2, h⟩ := snAll h
  replace P2 := sp_1.mp P2
  obtain ⟨P3, h⟩ := snAll h
  replace P3 := s_rs.mp P3
  obtain ⟨P4, h⟩ := snAll h
  replace P4 := sp_1.mp P4
  obtain ⟨P5, h⟩ := snAll h
  replace P5 := sp_1.mp P5
  obtain ⟨P6, h⟩ := snAll h
  replace P6 := sp_2.mp P6
  obtain ⟨P7, h⟩ := snAll h
  replace P7 := s_le.mp P7
  obtain ⟨P8, h⟩ := snAll h
  replace P8 := sp_2.mp P8
  obtain ⟨P9, h⟩ := snAll h
  replace P9 := sp_2.mp P9
  have L : (nthZ zs 6) + 8 ≤ 8 * (nthZ zs 14) := by
    apply M_g8d (F0 := nthF fs 0) (F1 := nthF fs 1) (N0 := nthZ zs 0) (N1 := nthZ zs 1) (N2 := nthZ zs 2) (N3 := nthZ zs 3) (N4 := nthZ zs 4) (N5 := nthZ zs 5) (N6 := nthZ zs 6) (N7 := nthZ zs 7) (N8 := nthZ zs 8) (N9 := nthZ zs 9) (N10 := nthZ zs 10) (N11 := nthZ zs 11) (N12 := nthZ zs 12) (N13 := nthZ zs 13) (N14 := nthZ zs 14) <;> first | assumption | omega
  rcases List.mem_cons.mp hx with hx | hx
  · rw [hx]; refine sp_2.mpr ?_; omega
  · cases hx
