
theorem M_tp0 {F0 F1 F2 : Int → Int} {N0 N1 N2 : Int} (H0 : N0 ≤ 0) (H1 : N2 ≤ N1) : eTopz (F0) (F1) (F2) (N0) (N1) (N2) := by
  unfold eTopz; rw [show N0.toNat = 0 by omega]; exact H1
theorem M_tpA {F0 F1 F2 : Int → Int} {N0 N1 N2 N3 N4 : Int} (H0 : eTopz (F0) (F1) (F2) (N0) (N3) (N4)) (H1 : N3 ≤ N1) (H2 : N2 ≤ N4) : eTopz (F0) (F1) (F2) (N0) (N1) (N2) := by
  exact eTopz_m H0 H1 H2
theorem M_tpW0 {F0 F1 F2 F3 : Int → Int} {N0 N1 N2 N3 N4 : Int} (H0 : ∀ x : Int, F3 x = if x = N3 then N4 else F0 x) (H1 : eTopz (F0) (F1) (F2) (N0) (N1) (N2)) (H2 : N0 ≤ N3) : eTopz (F3) (F1) (F2) (N0) (N1) (N2) := by
  exact eTopz_c H1 (fun i a b => by have e := H0 i; rw [if_neg (by omega)] at e; exact ⟨e, rfl, rfl⟩)
theorem M_tpW1 {F0 F1 F2 F3 : Int → Int} {N0 N1 N2 N3 N4 : Int} (H0 : ∀ x : Int, F3 x = if x = N3 then N4 else F1 x) (H1 : eTopz (F0) (F1) (F2) (N0) (N1) (N2)) (H2 : N0 ≤ N3) : eTopz (F0) (F3) (F2) (N0) (N1) (N2) := by
  exact eTopz_c H1 (fun i a b => by have e := H0 i; rw [if_neg (by omega)] at e; exact ⟨rfl, e, rfl⟩)
theorem M_tpW2 {F0 F1 F2 F3 : Int → Int} {N0 N1 N2 N3 N4 : Int} (H0 : ∀ x : Int, F3 x = if x = N3 then N4 else F2 x) (H1 : eTopz (F0) (F1) (F2) (N0) (N1) (N2)) (H2 : N0 ≤ N3) : eTopz (F0) (F1) (F3) (N0) (N1) (N2) := by
  exact eTopz_c H1 (fun i a b => by have e := H0 i; rw [if_neg (by omega)] at e; exact ⟨rfl, rfl, e⟩)
theorem M_tpE1 {F0 F1 F2 : Int → Int} {N0 N1 N2 N3 N4 N5 : Int} (H0 : N3 = N0 + -1) (H1 : 0 ≤ N3) (H2 : eTopz (F0) (F1) (F2) (N3) (N4) (N2)) (H3 : F0 N3 = N5) (H4 : N5 = 110) (H5 : N4 ≤ N1) : eTopz (F0) (F1) (F2) (N0) (N1) (N2) := by
  exact eTopz_u (n := N3) (by omega) H1 (Or.inl ⟨by omega, eTopz_m H2 H5 (Int.le_refl _)⟩)
theorem M_tpE21 {F0 F1 F2 : Int → Int} {N0 N1 N2 N3 N4 N5 N6 : Int} (H0 : N3 = N0 + -1) (H1 : 0 ≤ N3) (H2 : eTopz (F0) (F1) (F2) (N3) (N4) (N2)) (H3 : F0 N3 = N5) (H4 : 111 ≤ N5) (H5 : N5 ≤ 112) (H6 : F1 N3 = N6) (H7 : N4 ≤ N6) : eTopz (F0) (F1) (F2) (N0) (N1) (N2) := by
  exact eTopz_u (n := N3) (by omega) H1 (Or.inr (Or.inl ⟨by omega, eTopz_m H2 (by omega) (Int.le_refl _)⟩))
theorem M_tpE22 {F0 F1 F2 : Int → Int} {N0 N1 N2 N3 N4 N5 N6 : Int} (H0 : N3 = N0 + -1) (H1 : 0 ≤ N3) (H2 : eTopz (F0) (F1) (F2) (N3) (N4) (N2)) (H3 : F0 N3 = N5) (H4 : 114 ≤ N5) (H5 : F1 N3 = N6) (H6 : N4 ≤ N6) : eTopz (F0) (F1) (F2) (N0) (N1) (N2) := by
  exact eTopz_u (n := N3) (by omega) H1 (Or.inr (Or.inl ⟨by omega, eTopz_m H2 (by omega) (Int.le_refl _)⟩))
theorem M_tpE3 {F0 F1 F2 : Int → Int} {N0 N1 N2 N3 N4 N5 N6 : Int} (H0 : N3 = N0 + -1) (H1 : 0 ≤ N3) (H2 : eTopz (F0) (F1) (F2) (N3) (N4) (N2)) (H3 : F0 N3 = N5) (H4 : N5 = 113) (H5 : F2 N3 = N6) (H6 : N4 ≤ N6) : eTopz (F0) (F1) (F2) (N0) (N1) (N2) := by
  exact eTopz_u (n := N3) (by omega) H1 (Or.inr (Or.inr ⟨by omega, eTopz_m H2 (by omega) (Int.le_refl _)⟩))
theorem M_tpP2 {F0 F1 F2 : Int → Int} {N0 N1 N2 N3 N4 N5 N6 : Int} (H0 : eTopz (F0) (F1) (F2) (N3) (N4) (N2)) (H1 : N3 = N0 + 1) (H2 : 0 ≤ N0) (H3 : F0 N0 = N5) (H4 : 114 ≤ N5) (H5 : F1 N0 = N6) (H6 : N6 ≤ N1) : eTopz (F0) (F1) (F2) (N0) (N1) (N2) := by
  rcases eTopz_s H0 H1 H2 with ⟨a, b⟩ | ⟨a, b⟩ | ⟨a, b⟩
  · omega
  · exact eTopz_m b (by omega) (Int.le_refl _)
  · omega
theorem M_tpP3 {F0 F1 F2 : Int → Int} {N0 N1 N2 N3 N4 N5 N6 : Int} (H0 : eTopz (F0) (F1) (F2) (N3) (N4) (N2)) (H1 : N3 = N0 + 1) (H2 : 0 ≤ N0) (H3 : F0 N0 = N5) (H4 : N5 = 113) (H5 : F2 N0 = N6) (H6 : N6 ≤ N1) : eTopz (F0) (F1) (F2) (N0) (N1) (N2) := by
  rcases eTopz_s H0 H1 H2 with ⟨a, b⟩ | ⟨a, b⟩ | ⟨a, b⟩
  · omega
  · omega
  · exact eTopz_m b (by omega) (Int.le_refl _)
theorem M_tpR1 {F0 F1 F2 : Int → Int} {N0 N1 N2 N3 N4 N5 : Int} (H0 : eTopz (F0) (F1) (F2) (N0) (N3) (N2)) (H1 : F0 N4 = N5) (H2 : 111 ≤ N5) (H3 : 0 ≤ N4) (H4 : N4 + 1 ≤ N0) : eTopz (F0) (F1) (F2) (N0) (N1) (N2) := by
  exact eTopz_a N1 H0 H3 (show N4 < N0 by omega) (by omega)
theorem M_tpR2 {F0 F1 F2 : Int → Int} {N0 N1 N2 N3 N4 N5 N6 : Int} (H0 : eTopz (F0) (F1) (F2) (N0) (N3) (N2)) (H1 : ∀ x : Int, N4 ≤ x → x < N5 → ((0 ≤ 0+(-1)*N6+(1)*F0 (x)))) (H2 : 111 ≤ N6) (H3 : 0 ≤ N4) (H4 : N4 + 1 ≤ N5) (H5 : N4 + 1 ≤ N0) : eTopz (F0) (F1) (F2) (N0) (N1) (N2) := by
  have q := H1 N4 (by omega) (by omega)
  exact eTopz_a N1 H0 H3 (show N4 < N0 by omega) (by omega)
theorem M_nr1 {F0 : Int → Int} {N0 N1 N2 : Int} (H0 : N1 ≤ 114) : eNor (F0) (N0) (N1) (N2) := by
  exact Or.inl (by omega)
theorem M_nr2 {F0 : Int → Int} {N0 N1 N2 : Int} (H0 : 116 ≤ N1) : eNor (F0) (N0) (N1) (N2) := by
  exact Or.inl (by omega)
theorem M_nr3 {F0 : Int → Int} {N0 N1 N2 : Int} (H0 : 1 ≤ N2) : eNor (F0) (N0) (N1) (N2) := by
  exact Or.inr (Or.inl H0)
theorem M_nr4 {F0 : Int → Int} {N0 N1 N2 N3 N4 N5 N6 N7 N8 : Int} (H0 : ∀ x : Int, N3 ≤ x → x < N4 → ((0 ≤ 0+(-1)*N5+(1)*F0 (x)))) (H1 : N3 ≤ 0) (H2 : N0 ≤ N4) (H3 : 110 ≤ N5) (H4 : ∀ x, N6 ≤ x → x < N7 → (F0 x ≤ N8)) (H5 : N6 ≤ 0) (H6 : N0 ≤ N7) (H7 : N8 ≤ 110) : eNor (F0) (N0) (N1) (N2) := by
  refine Or.inr (Or.inr (fun j a b => ?_))
  have := H0 j (by omega) (by omega)
  have := H4 j (by omega) (by omega)
  omega
theorem M_nrU {F0 F1 F2 : Int → Int} {N0 N1 N2 N3 N4 : Int} (H0 : eNor (F0) (N0) (N3) (N4)) (H1 : N3 = 115) (H2 : N4 ≤ 0) (H3 : eTopz (F0) (F1) (F2) (N0) (N1) (N2)) : N2 ≤ N1 := by
  rcases H0 with h | h | h
  · omega
  · omega
  · exact eTop_all H3 (fun j a b => h j a (by omega))
theorem M_nrT {F0 F1 F2 : Int → Int} {N0 N1 N2 N3 N4 : Int} (H0 : eNor (F0) (N0) (N3) (N4)) (H1 : N3 = 115) (H2 : N4 ≤ 0) (H3 : N2 ≤ N1) : eTopz (F0) (F1) (F2) (N0) (N1) (N2) := by
  rcases H0 with h | h | h
  · omega
  · omega
  · exact eTop_of (fun j a b => h j a (by omega)) H3
theorem M_ti1 {F0 : Int → Int} {N0 N1 N2 : Int} (H0 : N1 ≤ 110) : eTif (F0) (N0) (N1) (N2) := by
  exact Or.inl H0
theorem M_ti2 {F0 : Int → Int} {N0 N1 N2 : Int} (H0 : 113 ≤ N1) : eTif (F0) (N0) (N1) (N2) := by
  exact Or.inr (Or.inl H0)
theorem M_ti3 {F0 : Int → Int} {N0 N1 N2 : Int} (H0 : 1 ≤ N2) : eTif (F0) (N0) (N1) (N2) := by
  exact Or.inr (Or.inr (Or.inl H0))
theorem M_ti4 {F0 : Int → Int} {N0 N1 N2 N3 N4 : Int} (H0 : N3 = N0 + -1) (H1 : F0 N3 = N4) (H2 : N4 = 110) : eTif (F0) (N0) (N1) (N2) := by
  refine Or.inr (Or.inr (Or.inr ?_))
  rw [show N0 - 1 = N3 by omega]; omega
theorem M_tiU {F0 F1 F2 : Int → Int} {N0 N1 N2 N3 N4 N5 N6 : Int} (H0 : eTif (F0) (N3) (N4) (N5)) (H1 : N5 ≤ 0) (H2 : 111 ≤ N4) (H3 : N4 ≤ 112) (H4 : N3 = N0 + 1) (H5 : 0 ≤ N0) (H6 : eTopz (F0) (F1) (F2) (N3) (N6) (N2)) (H7 : N6 ≤ N1) : eTopz (F0) (F1) (F2) (N0) (N1) (N2) := by
  rcases H0 with h | h | h | h
  · omega
  · omega
  · omega
  rw [show N3 - 1 = N0 by omega] at h
  rcases eTopz_s H6 H4 H5 with ⟨a, b⟩ | ⟨a, b⟩ | ⟨a, b⟩
  · exact eTopz_m b H7 (Int.le_refl _)
  · omega
  · omega
theorem M_nvA {F0 : Int → Int} {N0 N1 N2 N3 : Int} (H0 : ∀ x : Int, N0 ≤ x → x < N1 → ((0 ≤ -1+(-1)*N2+(1)*F0 (x)) ∨ (0 ≤ -1+(1)*N2+(-1)*F0 (x)))) : ∀ x : Int, N0 ≤ x → x < N1 → ((0 ≤ -1+(-1)*N2+(1)*F0 (x)) ∨ (0 ≤ -1+(1)*N2+(-1)*F0 (x)) ∨ (0 ≤ 0+(1)*N3)) := by
  intro x a b; have := H0 x a b; omega
theorem M_tpS0 {F0 F1 F2 : Int → Int} {N0 N1 N2 N3 N4 N5 N6 N7 N8 N9 N10 : Int} (H0 : eTopz (F0) (F1) (F2) (N3) (N4) (N2)) (H1 : N3 = N0 + 1) (H2 : 0 ≤ N0) (H3 : ∀ x : Int, N7 ≤ x → x < N8 → ((0 ≤ -1+(-1)*N9+(1)*F0 (x)) ∨ (0 ≤ -1+(1)*N9+(-1)*F0 (x)) ∨ (0 ≤ 0+(1)*N10))) (H4 : N10 + 1 ≤ 0) (H5 : N7 ≤ N0) (H6 : N0 + 1 ≤ N8) (H7 : N9 = 110) (H8 : F0 N0 = N5) (H9 : N5 ≤ 112) (H10 : F1 N0 = N6) (H11 : N6 ≤ N1) : eTopz (F0) (F1) (F2) (N0) (N1) (N2) := by
  have q := H3 N0 (by omega) (by omega)
  rcases eTopz_s H0 H1 H2 with ⟨a, b⟩ | ⟨a, b⟩ | ⟨a, b⟩
  · omega
  · exact eTopz_m b (by omega) (Int.le_refl _)
  · omega
theorem M_tpT {F0 F1 F2 : Int → Int} {N0 N1 N2 N3 N4 N5 N6 N7 : Int} (H0 : eTopz (F0) (F1) (F2) (N0) (N3) (N2)) (H1 : ∀ x : Int, N4 ≤ x → x < N5 → ((0 ≤ -1+(-1)*N6+(1)*F0 (x)) ∨ (0 ≤ -1+(1)*N6+(-1)*F0 (x)) ∨ (0 ≤ 0+(1)*N7))) (H2 : N7 + 1 ≤ 0) (H3 : N6 = 110) (H4 : 0 ≤ N4) (H5 : N4 + 1 ≤ N5) (H6 : N4 + 1 ≤ N0) : eTopz (F0) (F1) (F2) (N0) (N1) (N2) := by
  have q := H1 N4 (by omega) (by omega)
  exact eTopz_a N1 H0 H4 (show N4 < N0 by omega) (by omega)
theorem M_ti5 {F0 : Int → Int} {N0 N1 N2 N3 N4 N5 N6 N7 N8 N9 N10 : Int} (H0 : ∀ x, N3 ≤ x → x < N4 → (N5 ≤ F0 x ∨ 0 ≤ N6)) (H1 : N6 + 1 ≤ 0) (H2 : 110 ≤ N5) (H3 : ∀ x, N7 ≤ x → x < N8 → (F0 x ≤ N9 ∨ 0 ≤ N10)) (H4 : N10 + 1 ≤ 0) (H5 : N9 ≤ 110) (H6 : N3 + 1 ≤ N0) (H7 : N0 ≤ N4) (H8 : N7 + 1 ≤ N0) (H9 : N0 ≤ N8) : eTif (F0) (N0) (N1) (N2) := by
  refine Or.inr (Or.inr (Or.inr ?_))
  have := H0 (N0 - 1) (by omega) (by omega)
  have := H3 (N0 - 1) (by omega) (by omega)
  omega
theorem M_tiN {F0 : Int → Int} {N0 N1 N2 N3 N4 N5 N6 N7 N8 N9 N10 : Int} (H0 : eTif (F0) (N3) (N4) (N5)) (H1 : N5 ≤ 0) (H2 : 111 ≤ N4) (H3 : N4 ≤ 112) (H4 : ∀ x : Int, N7 ≤ x → x < N8 → ((0 ≤ -1+(-1)*N9+(1)*F0 (x)) ∨ (0 ≤ -1+(1)*N9+(-1)*F0 (x)) ∨ (0 ≤ 0+(1)*N10))) (H5 : N10 + 1 ≤ 0) (H6 : N9 = 110) (H7 : N7 + 1 ≤ N8) (H8 : N7 + 1 ≤ N3) : N7 + 2 ≤ N3 := by
  rcases H0 with h | h | h | h
  · omega
  · omega
  · omega
  have q := H4 N7 (by omega) (by omega)
  by_cases c : N3 - 1 = N7
  · rw [c] at h; omega
  · omega
theorem M_innI {F0 : Int → Int} {N0 N1 N2 : Int} (H0 : F0 N0 = N1) (H1 : dEv 1082 [] [(N1)] = some (N2)) (H2 : 1 ≤ N2) : eInn (F0) (N0) := by
  exact ⟨N2, by rw [H0]; exact H1, H2⟩
theorem M_innE {F0 : Int → Int} {N0 N1 N2 N3 N4 : Int} (H0 : eInn (F0) (N0)) (H1 : F0 N1 = N3) (H2 : N0 ≤ N1) (H3 : dEv 1082 [] [(N3)] = some (N4)) (H4 : N4 ≤ 0) : N0 + 1 ≤ N1 := by
  by_cases c : N1 = N0
  · exfalso
    obtain ⟨r, a, b⟩ := H0
    rw [← c, H1, H3] at a
    cases a; omega
  · omega
theorem M_opn0 {F0 : Int → Int} {N0 N1 : Int} (H0 : N0 = 0) (H1 : N1 = 0) : eOpn (F0) (N0) (N1) := by
  subst H0 H1; exact ⟨by omega, rfl⟩
theorem M_opnP0 {F0 F1 F2 F3 F4 : Int → Int} {N0 N1 N2 N3 N4 N5 N6 N7 : Int} (H0 : ∀ x : Int, F4 x = if x = N6 then N7 else F0 x) (H1 : eOpn (F0) (N2) (N3)) (H2 : N6 = N2) (H3 : N7 ≤ 39) (H4 : N2 = N0 + -1) (H5 : N3 = N1) : eOpn (F4) (N0) (N1) := by
  have q := eOpn_w (n := N2) (by rw [← H2]; exact H0) H1
  rw [if_neg (by omega)] at q
  rw [show N0 = N2 + 1 by omega, show N1 = N3 + 0 by omega]; exact q
theorem M_opnQ0 {F0 : Int → Int} {N0 N1 N2 N3 N4 N5 N6 N7 : Int} (H0 : eOpn (F0) (N2) (N3)) (H1 : N2 = N0 + 1) (H2 : 0 ≤ N0) (H3 : N3 = N1) (H4 : F0 N0 = N7) (H5 : N7 ≤ 39) : eOpn (F0) (N0) (N1) := by
  have q := eOpn_s H0 H1 H2
  rw [if_neg (by omega)] at q
  rw [show N1 = N3 - 0 by omega]; exact q
theorem M_opnP1 {F0 F1 F2 F3 F4 : Int → Int} {N0 N1 N2 N3 N4 N5 N6 N7 : Int} (H0 : ∀ x : Int, F4 x = if x = N6 then N7 else F0 x) (H1 : eOpn (F0) (N2) (N3)) (H2 : N6 = N2) (H3 : 41 ≤ N7) (H4 : N2 = N0 + -1) (H5 : N3 = N1) : eOpn (F4) (N0) (N1) := by
  have q := eOpn_w (n := N2) (by rw [← H2]; exact H0) H1
  rw [if_neg (by omega)] at q
  rw [show N0 = N2 + 1 by omega, show N1 = N3 + 0 by omega]; exact q
theorem M_opnQ1 {F0 : Int → Int} {N0 N1 N2 N3 N4 N5 N6 N7 : Int} (H0 : eOpn (F0) (N2) (N3)) (H1 : N2 = N0 + 1) (H2 : 0 ≤ N0) (H3 : N3 = N1) (H4 : F0 N0 = N7) (H5 : 41 ≤ N7) : eOpn (F0) (N0) (N1) := by
  have q := eOpn_s H0 H1 H2
  rw [if_neg (by omega)] at q
  rw [show N1 = N3 - 0 by omega]; exact q
theorem M_opnPo {F0 F1 F2 F3 F4 : Int → Int} {N0 N1 N2 N3 N4 N5 N6 N7 : Int} (H0 : ∀ x : Int, F4 x = if x = N6 then N7 else F0 x) (H1 : eOpn (F0) (N2) (N3)) (H2 : N6 = N2) (H3 : N7 = 40) (H4 : N2 = N0 + -1) (H5 : N3 = N1 + -1) : eOpn (F4) (N0) (N1) := by
  have q := eOpn_w (n := N2) (by rw [← H2]; exact H0) H1
  rw [if_pos H3] at q
  rw [show N0 = N2 + 1 by omega, show N1 = N3 + 1 by omega]; exact q
theorem M_opnQo {F0 : Int → Int} {N0 N1 N2 N3 N4 N5 N6 N7 : Int} (H0 : eOpn (F0) (N2) (N3)) (H1 : N2 = N0 + 1) (H2 : 0 ≤ N0) (H3 : N3 = N1 + 1) (H4 : F0 N0 = N7) (H5 : N7 = 40) : eOpn (F0) (N0) (N1) := by
  have q := eOpn_s H0 H1 H2
  rw [if_pos (by omega)] at q
  rw [show N1 = N3 - 1 by omega]; exact q
theorem M_opnE {F0 : Int → Int} {N0 N1 : Int} (H0 : eOpn (F0) (N0) (N1)) (H1 : N0 ≤ 0) : N1 ≤ 0 := by
  obtain ⟨a, b⟩ := H0
  have : N0 = 0 := by omega
  subst this
  have b : (0 : Int) = N1 := b
  omega
theorem M_opnS {F0 F1 F2 F3 F4 : Int → Int} {N0 N1 N2 N3 N4 N5 N6 N7 : Int} (H0 : ∀ x : Int, F4 x = if x = N6 then N7 else F0 x) (H1 : N6 = 0) (H2 : 41 ≤ N7) (H3 : N0 = 1) (H4 : N1 = 0) : eOpn (F4) (N0) (N1) := by
  subst H1 H3 H4
  refine ⟨by omega, ?_⟩
  show (0 : Int) + (if F4 ((0 : Nat) : Int) = 40 then 1 else 0) = 0
  have e := H0 0
  rw [if_pos rfl] at e
  rw [show ((0 : Nat) : Int) = 0 from rfl, e, if_neg (by omega)]; rfl
theorem M_endF {F0 : Int → Int} {N0 N1 N2 N3 N4 : Int} (H0 : ∀ x : Int, N0 ≤ x → x < N1 → ((0 ≤ 0+(1)*N2+(-1)*F0 (x)))) (H1 : N2 ≤ 0) (H2 : N0 + 1 ≤ N1) (H3 : F0 N3 = N4) (H4 : 1 ≤ N4) (H5 : N3 ≤ N0) : N3 + 1 ≤ N0 := by
  have := H0 N0 (by omega) (by omega)
  by_cases c : N3 = N0
  · rw [c] at H3; omega
  · omega
theorem M_sh80 {N0 N1 N2 : Int} (H0 : N1 = N0) (H1 : N2 = 24) : eSh8 (N0) (N1) (N2) := by
  unfold eSh8; omega
theorem M_sh81 {N0 N1 N2 N3 N4 : Int} (H0 : eSh8 (N3) (N1) (N4)) (H1 : N3 = N0 + -1) (H2 : N4 = N2 + 8) : eSh8 (N0) (N1) (N2) := by
  unfold eSh8 at *; omega
theorem M_sh82 {N0 N1 N2 : Int} (H0 : eSh8 (N0) (N1) (N2)) (H1 : 0 ≤ N2) : N0 ≤ N1 + 3 := by
  unfold eSh8 at *; omega
theorem M_o23 {N0 N1 N2 N3 N4 : Int} (H0 : ∀ x, N0 ≤ x → x < N1 → (0 ≤ N2 ∨ 0 ≤ N3)) : ∀ x : Int, N0 ≤ x → x < N1 → ((0 ≤ 0+(1)*N2) ∨ (0 ≤ 0+(1)*N3) ∨ (0 ≤ 0+(1)*N4)) := by
  intro x a b; have := H0 x a b; omega
theorem M_o34 {N0 N1 N2 N3 N4 N5 : Int} (H0 : ∀ x : Int, N0 ≤ x → x < N1 → ((0 ≤ 0+(1)*N2) ∨ (0 ≤ 0+(1)*N3) ∨ (0 ≤ 0+(1)*N4))) : ∀ x : Int, N0 ≤ x → x < N1 → ((0 ≤ 0+(1)*N2) ∨ (0 ≤ 0+(1)*N3) ∨ (0 ≤ 0+(1)*N4) ∨ (0 ≤ 0+(1)*N5)) := by
  intro x a b; have := H0 x a b; omega
theorem M_outO {F0 : Int → Int} {N0 N1 N2 N3 N4 N5 N6 N7 N8 N9 : Int} (H0 : ∀ x : Int, N0 ≤ x → x < N1 → ((0 ≤ 0+(1)*N2+(-1)*F0 (x)) ∨ (0 ≤ 0+(-1)*N3+(1)*F0 (x)))) (H1 : F0 N4 = N5) (H2 : N0 ≤ N4) (H3 : N4 + 1 ≤ N1) (H4 : N6 = 0) (H5 : N7 = 1) (H6 : N2 ≤ N8 + N5) (H7 : N5 ≤ N9 + N3) : ∀ x, N6 ≤ x → x < N7 → (0 ≤ N8 ∨ 0 ≤ N9) := by
  intro x a b; have := H0 N4 (by omega) (by omega); omega
theorem M_outW {F0 F1 : Int → Int} {N0 N1 N2 N3 N4 N5 N6 N7 N8 N9 : Int} (H0 : ∀ x : Int, F1 x = if x = N4 then N5 else F0 x) (H1 : ∀ x : Int, N0 ≤ x → x < N1 → ((0 ≤ 0+(1)*N2+(-1)*F0 (x)) ∨ (0 ≤ 0+(-1)*N3+(1)*F0 (x)))) (H2 : ∀ x, N6 ≤ x → x < N7 → (0 ≤ N8 ∨ 0 ≤ N9)) (H3 : N6 ≤ 0) (H4 : 1 ≤ N7) (H5 : N5 + N8 ≤ N2) (H6 : N3 + N9 ≤ N5) : ∀ x : Int, N0 ≤ x → x < N1 → ((0 ≤ 0+(1)*N2+(-1)*F1 (x)) ∨ (0 ≤ 0+(-1)*N3+(1)*F1 (x))) := by
  intro x a b
  rw [H0 x]
  by_cases c : x = N4
  · rw [if_pos c]; have := H2 0 (by omega) (by omega); omega
  · rw [if_neg c]; exact H1 x a b
theorem M_outV {F0 F1 F2 : Int → Int} {N0 N1 N2 N3 N4 N5 N6 N7 N8 N9 N10 : Int} (H0 : ∀ x : Int, F1 x = if x = N4 then N5 else F0 x) (H1 : ∀ x : Int, N0 ≤ x → x < N1 → ((0 ≤ 0+(1)*N2+(-1)*F0 (x)) ∨ (0 ≤ 0+(-1)*N3+(1)*F0 (x)))) (H2 : ∀ x : Int, N7 ≤ x → x < N8 → ((0 ≤ 0+(1)*N9+(-1)*F2 (x)) ∨ (0 ≤ 0+(-1)*N10+(1)*F2 (x)))) (H3 : F2 N6 = N5) (H4 : N7 ≤ N6) (H5 : N6 + 1 ≤ N8) (H6 : N9 ≤ N2) (H7 : N3 ≤ N10) : ∀ x : Int, N0 ≤ x → x < N1 → ((0 ≤ 0+(1)*N2+(-1)*F1 (x)) ∨ (0 ≤ 0+(-1)*N3+(1)*F1 (x))) := by
  intro x a b
  rw [H0 x]
  by_cases c : x = N4
  · rw [if_pos c]; have := H2 N6 (by omega) (by omega); omega
  · rw [if_neg c]; exact H1 x a b
/-! NESTS; THE CLASS: letters, signs counted, sums: the rules (written by wip/p2/grp.py) -/
theorem s_nev_or {fs : List (Int → Int)} {zs : List Int} {a0 i0 i1 i2 i3 : Nat} : SnOk fs zs (36, [1, a0, i0, i1, i2, i3], []) ↔ ∀ x : Int, nthZ zs i0 ≤ x → x < nthZ zs i1 → ((0 ≤ -1+(-1)*nthZ zs i2+(1)*nthF fs a0 (x)) ∨ (0 ≤ -1+(1)*nthZ zs i2+(-1)*nthF fs a0 (x)) ∨ (0 ≤ 0+(1)*nthZ zs i3)) := by
  show fOk ((1, 4), ([(0, 1, 0, [], [])], [((-1), 0, [(2, (-1))], [(0, 1)]), ((-1), 0, [(2, 1)], [(0, (-1))]), (0, 0, [(3, 1)], [])])) [nthF fs a0] [nthZ zs i0, nthZ zs i1, nthZ zs i2, nthZ zs i3] ↔ _
  have e0 : ∀ x : Int, (0 : Int) + 1 * x + 0 + 0 = x := fun x => by omega
  constructor
  · intro h x h1 h2
    obtain ⟨l0, hl, q⟩ := h x h1 h2
    rcases List.mem_cons.mp hl with hl | hl
    · subst hl; replace q : 0 ≤ ((-1) : Int) + 0 * x + ((-1) * nthZ zs i2 + 0) + (1 * nthF fs a0 ((0 : Int) + 1 * x + 0 + 0) + 0) := q; try simp only [e0] at q
      left; omega
    · skip
      rcases List.mem_cons.mp hl with hl | hl
      · subst hl; replace q : 0 ≤ ((-1) : Int) + 0 * x + (1 * nthZ zs i2 + 0) + ((-1) * nthF fs a0 ((0 : Int) + 1 * x + 0 + 0) + 0) := q; try simp only [e0] at q
        right; left; omega
      · skip
        rcases List.mem_cons.mp hl with hl | hl
        · subst hl; replace q : 0 ≤ (0 : Int) + 0 * x + (1 * nthZ zs i3 + 0) + 0 := q; try simp only [e0] at q
          right; right; omega
        · cases hl
  · intro h x h1 h2
    have q := h x h1 h2
    rcases q with q | q | q
    · refine ⟨_, (List.mem_cons_self), ?_⟩; show 0 ≤ ((-1) : Int) + 0 * x + ((-1) * nthZ zs i2 + 0) + (1 * nthF fs a0 ((0 : Int) + 1 * x + 0 + 0) + 0)
      try simp only [e0]
      omega
    · refine ⟨_, (List.mem_cons_of_mem _ (List.mem_cons_self)), ?_⟩; show 0 ≤ ((-1) : Int) + 0 * x + (1 * nthZ zs i2 + 0) + ((-1) * nthF fs a0 ((0 : Int) + 1 * x + 0 + 0) + 0)
      try simp only [e0]
      omega
    · refine ⟨_, (List.mem_cons_of_mem _ (List.mem_cons_of_mem _ (List.mem_cons_self))), ?_⟩; show 0 ≤ (0 : Int) + 0 * x + (1 * nthZ zs i3 + 0) + 0
      try simp only [e0]
      omega
theorem s_endl {fs : List (Int → Int)} {zs : List Int} {a0 i0 i1 i2 : Nat} : SnOk fs zs (32, [1, a0, i0, i1, i2], []) ↔ ∀ x : Int, nthZ zs i0 ≤ x → x < nthZ zs i1 → ((0 ≤ 0+(1)*nthZ zs i2+(-1)*nthF fs a0 (x))) := by
  show fOk ((1, 3), ([(0, 1, 0, [], [])], [(0, 0, [(2, 1)], [(0, (-1))])])) [nthF fs a0] [nthZ zs i0, nthZ zs i1, nthZ zs i2] ↔ _
  have e0 : ∀ x : Int, (0 : Int) + 1 * x + 0 + 0 = x := fun x => by omega
  constructor
  · intro h x h1 h2
    obtain ⟨l0, hl, q⟩ := h x h1 h2
    rcases List.mem_cons.mp hl with hl | hl
    · subst hl; replace q : 0 ≤ (0 : Int) + 0 * x + (1 * nthZ zs i2 + 0) + ((-1) * nthF fs a0 ((0 : Int) + 1 * x + 0 + 0) + 0) := q; try simp only [e0] at q
      omega
    · cases hl
  · intro h x h1 h2
    have q := h x h1 h2
    refine ⟨_, (List.mem_cons_self), ?_⟩; show 0 ≤ (0 : Int) + 0 * x + (1 * nthZ zs i2 + 0) + ((-1) * nthF fs a0 ((0 : Int) + 1 * x + 0 + 0) + 0)
    try simp only [e0]
    omega
section
variable {fs : List (Int → Int)} {zs : List Int}
theorem s_top {a0 a1 a2 i0 i1 i2 : Nat} : SnOk fs zs (1082, [3, a0, a1, a2, i0, i1, i2], []) ↔ eTopz (nthF fs a0) (nthF fs a1) (nthF fs a2) (nthZ zs i0) (nthZ zs i1) (nthZ zs i2) := Iff.rfl
theorem s_nor {a0 i0 i1 i2 : Nat} : SnOk fs zs (1083, [1, a0, i0, i1, i2], []) ↔ eNor (nthF fs a0) (nthZ zs i0) (nthZ zs i1) (nthZ zs i2) := Iff.rfl
theorem s_tif {a0 i0 i1 i2 : Nat} : SnOk fs zs (1084, [1, a0, i0, i1, i2], []) ↔ eTif (nthF fs a0) (nthZ zs i0) (nthZ zs i1) (nthZ zs i2) := Iff.rfl
theorem s_inn {a0 i0 : Nat} : SnOk fs zs (1086, [1, a0, i0], []) ↔ eInn (nthF fs a0) (nthZ zs i0) := Iff.rfl
theorem s_opn {a0 i0 i1 : Nat} : SnOk fs zs (1087, [1, a0, i0, i1], []) ↔ eOpn (nthF fs a0) (nthZ zs i0) (nthZ zs i1) := Iff.rfl
theorem s_sh8 {i0 i1 i2 : Nat} : SnOk fs zs (1088, [0, i0, i1, i2], []) ↔ eSh8 (nthZ zs i0) (nthZ zs i1) (nthZ zs i2) := Iff.rfl
end
def q_tp0 : qRl := ([sp 0 [(0, (-1))], sp 0 [(1, 1), (2, (-1))]], [(1082, [3, 0, 1, 2, 0, 1, 2], [])])
theorem q_tp0_ok : RlOk q_tp0 := by
  intro fs zs h x hx
  obtain ⟨P0, h⟩ := snAll h
  replace P0 := sp_1.mp P0
  obtain ⟨P1, h⟩ := snAll h
  replace P1 := sp_2.mp P1
  have L : eTopz ((nthF fs 0)) ((nthF fs 1)) ((nthF fs 2)) ((nthZ zs 0)) ((nthZ zs 1)) ((nthZ zs 2)) := by
    apply M_tp0 (F0 := nthF fs 0) (F1 := nthF fs 1) (F2 := nthF fs 2) (N0 := nthZ zs 0) (N1 := nthZ zs 1) (N2 := nthZ zs 2) <;> first | assumption | omega
  rcases List.mem_cons.mp hx with hx | hx
  · rw [hx]; refine s_top.mpr ?_; exact L
  · cases hx
def q_tpA : qRl := ([(1082, [3, 0, 1, 2, 0, 3, 4], []), sp 0 [(1, 1), (3, (-1))], sp 0 [(4, 1), (2, (-1))]], [(1082, [3, 0, 1, 2, 0, 1, 2], [])])
theorem q_tpA_ok : RlOk q_tpA := by
  intro fs zs h x hx
  obtain ⟨P0, h⟩ := snAll h
  replace P0 := s_top.mp P0
  obtain ⟨P1, h⟩ := snAll h
  replace P1 := sp_2.mp P1
  obtain ⟨P2, h⟩ := snAll h
  replace P2 := sp_2.mp P2
  have L : eTopz ((nthF fs 0)) ((nthF fs 1)) ((nthF fs 2)) ((nthZ zs 0)) ((nthZ zs 1)) ((nthZ zs 2)) := by
    apply M_tpA (F0 := nthF fs 0) (F1 := nthF fs 1) (F2 := nthF fs 2) (N0 := nthZ zs 0) (N1 := nthZ zs 1) (N2 := nthZ zs 2) (N3 := nthZ zs 3) (N4 := nthZ zs 4) <;> first | assumption | omega
  rcases List.mem_cons.mp hx with hx | hx
  · rw [hx]; refine s_top.mpr ?_; exact L
  · cases hx
def q_tpW0 : qRl := ([(2, [3, 0, 3, 4], []), (1082, [3, 0, 1, 2, 0, 1, 2], []), sp 0 [(3, 1), (0, (-1))]], [(1082, [3, 3, 1, 2, 0, 1, 2], [])])
theorem q_tpW0_ok : RlOk q_tpW0 := by
  intro fs zs h x hx
  obtain ⟨P0, h⟩ := snAll h
  replace P0 := s_wr.mp P0
  obtain ⟨P1, h⟩ := snAll h
  replace P1 := s_top.mp P1
  obtain ⟨P2, h⟩ := snAll h
  replace P2 := sp_2.mp P2
  have L : eTopz ((nthF fs 3)) ((nthF fs 1)) ((nthF fs 2)) ((nthZ zs 0)) ((nthZ zs 1)) ((nthZ zs 2)) := by
    apply M_tpW0 (F0 := nthF fs 0) (F1 := nthF fs 1) (F2 := nthF fs 2) (F3 := nthF fs 3) (N0 := nthZ zs 0) (N1 := nthZ zs 1) (N2 := nthZ zs 2) (N3 := nthZ zs 3) (N4 := nthZ zs 4) <;> first | assumption | omega
  rcases List.mem_cons.mp hx with hx | hx
  · rw [hx]; refine s_top.mpr ?_; exact L
  · cases hx
def q_tpW1 : qRl := ([(2, [3, 1, 3, 4], []), (1082, [3, 0, 1, 2, 0, 1, 2], []), sp 0 [(3, 1), (0, (-1))]], [(1082, [3, 0, 3, 2, 0, 1, 2], [])])
theorem q_tpW1_ok : RlOk q_tpW1 := by
  intro fs zs h x hx
  obtain ⟨P0, h⟩ := snAll h
  replace P0 := s_wr.mp P0
  obtain ⟨P1, h⟩ := snAll h
  replace P1 := s_top.mp P1
  obtain ⟨P2, h⟩ := snAll h
  replace P2 := sp_2.mp P2
  have L : eTopz ((nthF fs 0)) ((nthF fs 3)) ((nthF fs 2)) ((nthZ zs 0)) ((nthZ zs 1)) ((nthZ zs 2)) := by
    apply M_tpW1 (F0 := nthF fs 0) (F1 := nthF fs 1) (F2 := nthF fs 2) (F3 := nthF fs 3) (N0 := nthZ zs 0) (N1 := nthZ zs 1) (N2 := nthZ zs 2) (N3 := nthZ zs 3) (N4 := nthZ zs 4) <;> first | assumption | omega
  rcases List.mem_cons.mp hx with hx | hx
  · rw [hx]; refine s_top.mpr ?_; exact L
  · cases hx
def q_tpW2 : qRl := ([(2, [3, 2, 3, 4], []), (1082, [3, 0, 1, 2, 0, 1, 2], []), sp 0 [(3, 1), (0, (-1))]], [(1082, [3, 0, 1, 3, 0, 1, 2], [])])
theorem q_tpW2_ok : RlOk q_tpW2 := by
  intro fs zs h x hx
  obtain ⟨P0, h⟩ := snAll h
  replace P0 := s_wr.mp P0
  obtain ⟨P1, h⟩ := snAll h
  replace P1 := s_top.mp P1
  obtain ⟨P2, h⟩ := snAll h
  replace P2 := sp_2.mp P2
  have L : eTopz ((nthF fs 0)) ((nthF fs 1)) ((nthF fs 3)) ((nthZ zs 0)) ((nthZ zs 1)) ((nthZ zs 2)) := by
    apply M_tpW2 (F0 := nthF fs 0) (F1 := nthF fs 1) (F2 := nthF fs 2) (F3 := nthF fs 3) (N0 := nthZ zs 0) (N1 := nthZ zs 1) (N2 := nthZ zs 2) (N3 := nthZ zs 3) (N4 := nthZ zs 4) <;> first | assumption | omega
  rcases List.mem_cons.mp hx with hx | hx
  · rw [hx]; refine s_top.mpr ?_; exact L
  · cases hx
def q_tpE1 : qRl := ([sp 1 [(3, 1), (0, (-1))], sp (-1) [(3, (-1)), (0, 1)], sp 0 [(3, 1)], (1082, [3, 0, 1, 2, 3, 4, 2], []), (1, [0, 3, 5], []), sp (-110) [(5, 1)], sp 110 [(5, (-1))], sp 0 [(1, 1), (4, (-1))]], [(1082, [3, 0, 1, 2, 0, 1, 2], [])])
theorem q_tpE1_ok : RlOk q_tpE1 := by
  intro fs zs h x hx
  obtain ⟨P0a, h⟩ := snAll h
  replace P0a := sp_2.mp P0a
  obtain ⟨P0b, h⟩ := snAll h
  replace P0b := sp_2.mp P0b
  obtain ⟨P1, h⟩ := snAll h
  replace P1 := sp_1.mp P1
  obtain ⟨P2, h⟩ := snAll h
  replace P2 := s_top.mp P2
  obtain ⟨P3, h⟩ := snAll h
  replace P3 := s_rd.mp P3
  obtain ⟨P4, h⟩ := snAll h
  replace P4 := sp_1.mp P4
  obtain ⟨P5, h⟩ := snAll h
  replace P5 := sp_1.mp P5
  obtain ⟨P6, h⟩ := snAll h
  replace P6 := sp_2.mp P6
  have L : eTopz ((nthF fs 0)) ((nthF fs 1)) ((nthF fs 2)) ((nthZ zs 0)) ((nthZ zs 1)) ((nthZ zs 2)) := by
    apply M_tpE1 (F0 := nthF fs 0) (F1 := nthF fs 1) (F2 := nthF fs 2) (N0 := nthZ zs 0) (N1 := nthZ zs 1) (N2 := nthZ zs 2) (N3 := nthZ zs 3) (N4 := nthZ zs 4) (N5 := nthZ zs 5) <;> first | assumption | omega
  rcases List.mem_cons.mp hx with hx | hx
  · rw [hx]; refine s_top.mpr ?_; exact L
  · cases hx
def q_tpE21 : qRl := ([sp 1 [(3, 1), (0, (-1))], sp (-1) [(3, (-1)), (0, 1)], sp 0 [(3, 1)], (1082, [3, 0, 1, 2, 3, 4, 2], []), (1, [0, 3, 5], []), sp (-111) [(5, 1)], sp 112 [(5, (-1))], (1, [1, 3, 6], []), sp 0 [(6, 1), (4, (-1))], sp 0 []], [(1082, [3, 0, 1, 2, 0, 1, 2], [])])
theorem q_tpE21_ok : RlOk q_tpE21 := by
  intro fs zs h x hx
  obtain ⟨P0a, h⟩ := snAll h
  replace P0a := sp_2.mp P0a
  obtain ⟨P0b, h⟩ := snAll h
  replace P0b := sp_2.mp P0b
  obtain ⟨P1, h⟩ := snAll h
  replace P1 := sp_1.mp P1
  obtain ⟨P2, h⟩ := snAll h
  replace P2 := s_top.mp P2
  obtain ⟨P3, h⟩ := snAll h
  replace P3 := s_rd.mp P3
  obtain ⟨P4, h⟩ := snAll h
  replace P4 := sp_1.mp P4
  obtain ⟨P5, h⟩ := snAll h
  replace P5 := sp_1.mp P5
  obtain ⟨P6, h⟩ := snAll h
  replace P6 := s_rd.mp P6
  obtain ⟨P7, h⟩ := snAll h
  replace P7 := sp_2.mp P7
  obtain ⟨P8, h⟩ := snAll h
  replace P8 := sp_0.mp P8
  have L : eTopz ((nthF fs 0)) ((nthF fs 1)) ((nthF fs 2)) ((nthZ zs 0)) ((nthZ zs 1)) ((nthZ zs 2)) := by
    apply M_tpE21 (F0 := nthF fs 0) (F1 := nthF fs 1) (F2 := nthF fs 2) (N0 := nthZ zs 0) (N1 := nthZ zs 1) (N2 := nthZ zs 2) (N3 := nthZ zs 3) (N4 := nthZ zs 4) (N5 := nthZ zs 5) (N6 := nthZ zs 6) <;> first | assumption | omega
  rcases List.mem_cons.mp hx with hx | hx
  · rw [hx]; refine s_top.mpr ?_; exact L
  · cases hx
def q_tpE22 : qRl := ([sp 1 [(3, 1), (0, (-1))], sp (-1) [(3, (-1)), (0, 1)], sp 0 [(3, 1)], (1082, [3, 0, 1, 2, 3, 4, 2], []), (1, [0, 3, 5], []), sp (-114) [(5, 1)], (1, [1, 3, 6], []), sp 0 [(6, 1), (4, (-1))], sp 0 []], [(1082, [3, 0, 1, 2, 0, 1, 2], [])])
theorem q_tpE22_ok : RlOk q_tpE22 := by
  intro fs zs h x hx
  obtain ⟨P0a, h⟩ := snAll h
  replace P0a := sp_2.mp P0a
  obtain ⟨P0b, h⟩ := snAll h
  replace P0b := sp_2.mp P0b
  obtain ⟨P1, h⟩ := snAll h
  replace P1 := sp_1.mp P1
  obtain ⟨P2, h⟩ := snAll h
  replace P2 := s_top.mp P2
  obtain ⟨P3, h⟩ := snAll h
  replace P3 := s_rd.mp P3
  obtain ⟨P4, h⟩ := snAll h
  replace P4 := sp_1.mp P4
  obtain ⟨P5, h⟩ := snAll h
  replace P5 := s_rd.mp P5
  obtain ⟨P6, h⟩ := snAll h
  replace P6 := sp_2.mp P6
  obtain ⟨P7, h⟩ := snAll h
  replace P7 := sp_0.mp P7
  have L : eTopz ((nthF fs 0)) ((nthF fs 1)) ((nthF fs 2)) ((nthZ zs 0)) ((nthZ zs 1)) ((nthZ zs 2)) := by
    apply M_tpE22 (F0 := nthF fs 0) (F1 := nthF fs 1) (F2 := nthF fs 2) (N0 := nthZ zs 0) (N1 := nthZ zs 1) (N2 := nthZ zs 2) (N3 := nthZ zs 3) (N4 := nthZ zs 4) (N5 := nthZ zs 5) (N6 := nthZ zs 6) <;> first | assumption | omega
  rcases List.mem_cons.mp hx with hx | hx
  · rw [hx]; refine s_top.mpr ?_; exact L
  · cases hx
def q_tpE3 : qRl := ([sp 1 [(3, 1), (0, (-1))], sp (-1) [(3, (-1)), (0, 1)], sp 0 [(3, 1)], (1082, [3, 0, 1, 2, 3, 4, 2], []), (1, [0, 3, 5], []), sp (-113) [(5, 1)], sp 113 [(5, (-1))], (1, [2, 3, 6], []), sp 0 [(6, 1), (4, (-1))], sp 0 []], [(1082, [3, 0, 1, 2, 0, 1, 2], [])])
theorem q_tpE3_ok : RlOk q_tpE3 := by
  intro fs zs h x hx
  obtain ⟨P0a, h⟩ := snAll h
  replace P0a := sp_2.mp P0a
  obtain ⟨P0b, h⟩ := snAll h
  replace P0b := sp_2.mp P0b
  obtain ⟨P1, h⟩ := snAll h
  replace P1 := sp_1.mp P1
  obtain ⟨P2, h⟩ := snAll h
  replace P2 := s_top.mp P2
  obtain ⟨P3, h⟩ := snAll h
  replace P3 := s_rd.mp P3
  obtain ⟨P4, h⟩ := snAll h
  replace P4 := sp_1.mp P4
  obtain ⟨P5, h⟩ := snAll h
  replace P5 := sp_1.mp P5
  obtain ⟨P6, h⟩ := snAll h
  replace P6 := s_rd.mp P6
  obtain ⟨P7, h⟩ := snAll h
  replace P7 := sp_2.mp P7
  obtain ⟨P8, h⟩ := snAll h
  replace P8 := sp_0.mp P8
  have L : eTopz ((nthF fs 0)) ((nthF fs 1)) ((nthF fs 2)) ((nthZ zs 0)) ((nthZ zs 1)) ((nthZ zs 2)) := by
    apply M_tpE3 (F0 := nthF fs 0) (F1 := nthF fs 1) (F2 := nthF fs 2) (N0 := nthZ zs 0) (N1 := nthZ zs 1) (N2 := nthZ zs 2) (N3 := nthZ zs 3) (N4 := nthZ zs 4) (N5 := nthZ zs 5) (N6 := nthZ zs 6) <;> first | assumption | omega
  rcases List.mem_cons.mp hx with hx | hx
  · rw [hx]; refine s_top.mpr ?_; exact L
  · cases hx
def q_tpP2 : qRl := ([(1082, [3, 0, 1, 2, 3, 4, 2], []), sp (-1) [(3, 1), (0, (-1))], sp 1 [(0, 1), (3, (-1))], sp 0 [(0, 1)], (1, [0, 0, 5], []), sp (-114) [(5, 1)], (1, [1, 0, 6], []), sp 0 [(1, 1), (6, (-1))]], [(1082, [3, 0, 1, 2, 0, 1, 2], [])])
theorem q_tpP2_ok : RlOk q_tpP2 := by
  intro fs zs h x hx
  obtain ⟨P0, h⟩ := snAll h
  replace P0 := s_top.mp P0
  obtain ⟨P1, h⟩ := snAll h
  replace P1 := sp_2.mp P1
  obtain ⟨P2, h⟩ := snAll h
  replace P2 := sp_2.mp P2
  obtain ⟨P3, h⟩ := snAll h
  replace P3 := sp_1.mp P3
  obtain ⟨P4, h⟩ := snAll h
  replace P4 := s_rd.mp P4
  obtain ⟨P5, h⟩ := snAll h
  replace P5 := sp_1.mp P5
  obtain ⟨P6, h⟩ := snAll h
  replace P6 := s_rd.mp P6
  obtain ⟨P7, h⟩ := snAll h
  replace P7 := sp_2.mp P7
  have L : eTopz ((nthF fs 0)) ((nthF fs 1)) ((nthF fs 2)) ((nthZ zs 0)) ((nthZ zs 1)) ((nthZ zs 2)) := by
    apply M_tpP2 (F0 := nthF fs 0) (F1 := nthF fs 1) (F2 := nthF fs 2) (N0 := nthZ zs 0) (N1 := nthZ zs 1) (N2 := nthZ zs 2) (N3 := nthZ zs 3) (N4 := nthZ zs 4) (N5 := nthZ zs 5) (N6 := nthZ zs 6) <;> first | assumption | omega
  rcases List.mem_cons.mp hx with hx | hx
  · rw [hx]; refine s_top.mpr ?_; exact L
  · cases hx
def q_tpP3 : qRl := ([(1082, [3, 0, 1, 2, 3, 4, 2], []), sp (-1) [(3, 1), (0, (-1))], sp 1 [(0, 1), (3, (-1))], sp 0 [(0, 1)], (1, [0, 0, 5], []), sp (-113) [(5, 1)], sp 113 [(5, (-1))], (1, [2, 0, 6], []), sp 0 [(1, 1), (6, (-1))]], [(1082, [3, 0, 1, 2, 0, 1, 2], [])])
theorem q_tpP3_ok : RlOk q_tpP3 := by
  intro fs zs h x hx
  obtain ⟨P0, h⟩ := snAll h
  replace P0 := s_top.mp P0
  obtain ⟨P1, h⟩ := snAll h
  replace P1 := sp_2.mp P1
  obtain ⟨P2, h⟩ := snAll h
  replace P2 := sp_2.mp P2
  obtain ⟨P3, h⟩ := snAll h
  replace P3 := sp_1.mp P3
  obtain ⟨P4, h⟩ := snAll h
  replace P4 := s_rd.mp P4
  obtain ⟨P5, h⟩ := snAll h
  replace P5 := sp_1.mp P5
  obtain ⟨P6, h⟩ := snAll h
  replace P6 := sp_1.mp P6
  obtain ⟨P7, h⟩ := snAll h
  replace P7 := s_rd.mp P7
  obtain ⟨P8, h⟩ := snAll h
  replace P8 := sp_2.mp P8
  have L : eTopz ((nthF fs 0)) ((nthF fs 1)) ((nthF fs 2)) ((nthZ zs 0)) ((nthZ zs 1)) ((nthZ zs 2)) := by
    apply M_tpP3 (F0 := nthF fs 0) (F1 := nthF fs 1) (F2 := nthF fs 2) (N0 := nthZ zs 0) (N1 := nthZ zs 1) (N2 := nthZ zs 2) (N3 := nthZ zs 3) (N4 := nthZ zs 4) (N5 := nthZ zs 5) (N6 := nthZ zs 6) <;> first | assumption | omega
  rcases List.mem_cons.mp hx with hx | hx
  · rw [hx]; refine s_top.mpr ?_; exact L
  · cases hx
def q_tpR1 : qRl := ([(1082, [3, 0, 1, 2, 0, 3, 2], []), (1, [0, 4, 5], []), sp (-111) [(5, 1)], sp 0 [(4, 1)], sp (-1) [(0, 1), (4, (-1))], sp 0 []], [(1082, [3, 0, 1, 2, 0, 1, 2], [])])
theorem q_tpR1_ok : RlOk q_tpR1 := by
  intro fs zs h x hx
  obtain ⟨P0, h⟩ := snAll h
  replace P0 := s_top.mp P0
  obtain ⟨P1, h⟩ := snAll h
  replace P1 := s_rd.mp P1
  obtain ⟨P2, h⟩ := snAll h
  replace P2 := sp_1.mp P2
  obtain ⟨P3, h⟩ := snAll h
  replace P3 := sp_1.mp P3
  obtain ⟨P4, h⟩ := snAll h
  replace P4 := sp_2.mp P4
  obtain ⟨P5, h⟩ := snAll h
  replace P5 := sp_0.mp P5
  have L : eTopz ((nthF fs 0)) ((nthF fs 1)) ((nthF fs 2)) ((nthZ zs 0)) ((nthZ zs 1)) ((nthZ zs 2)) := by
    apply M_tpR1 (F0 := nthF fs 0) (F1 := nthF fs 1) (F2 := nthF fs 2) (N0 := nthZ zs 0) (N1 := nthZ zs 1) (N2 := nthZ zs 2) (N3 := nthZ zs 3) (N4 := nthZ zs 4) (N5 := nthZ zs 5) <;> first | assumption | omega
  rcases List.mem_cons.mp hx with hx | hx
  · rw [hx]; refine s_top.mpr ?_; exact L
  · cases hx
def q_tpR2 : qRl := ([(1082, [3, 0, 1, 2, 0, 3, 2], []), (5, [1, 0, 4, 5, 6], []), sp (-111) [(6, 1)], sp 0 [(4, 1)], sp (-1) [(5, 1), (4, (-1))], sp (-1) [(0, 1), (4, (-1))], sp 0 []], [(1082, [3, 0, 1, 2, 0, 1, 2], [])])
theorem q_tpR2_ok : RlOk q_tpR2 := by
  intro fs zs h x hx
  obtain ⟨P0, h⟩ := snAll h
  replace P0 := s_top.mp P0
  obtain ⟨P1, h⟩ := snAll h
  replace P1 := s_ge.mp P1
  obtain ⟨P2, h⟩ := snAll h
  replace P2 := sp_1.mp P2
  obtain ⟨P3, h⟩ := snAll h
  replace P3 := sp_1.mp P3
  obtain ⟨P4, h⟩ := snAll h
  replace P4 := sp_2.mp P4
  obtain ⟨P5, h⟩ := snAll h
  replace P5 := sp_2.mp P5
  obtain ⟨P6, h⟩ := snAll h
  replace P6 := sp_0.mp P6
  have L : eTopz ((nthF fs 0)) ((nthF fs 1)) ((nthF fs 2)) ((nthZ zs 0)) ((nthZ zs 1)) ((nthZ zs 2)) := by
    apply M_tpR2 (F0 := nthF fs 0) (F1 := nthF fs 1) (F2 := nthF fs 2) (N0 := nthZ zs 0) (N1 := nthZ zs 1) (N2 := nthZ zs 2) (N3 := nthZ zs 3) (N4 := nthZ zs 4) (N5 := nthZ zs 5) (N6 := nthZ zs 6) <;> first | assumption | omega
  rcases List.mem_cons.mp hx with hx | hx
  · rw [hx]; refine s_top.mpr ?_; exact L
  · cases hx
def q_nr1 : qRl := ([sp 114 [(1, (-1))], sp 0 [], sp 0 []], [(1083, [1, 0, 0, 1, 2], [])])
theorem q_nr1_ok : RlOk q_nr1 := by
  intro fs zs h x hx
  obtain ⟨P0, h⟩ := snAll h
  replace P0 := sp_1.mp P0
  obtain ⟨P1, h⟩ := snAll h
  replace P1 := sp_0.mp P1
  obtain ⟨P2, h⟩ := snAll h
  replace P2 := sp_0.mp P2
  have L : eNor ((nthF fs 0)) ((nthZ zs 0)) ((nthZ zs 1)) ((nthZ zs 2)) := by
    apply M_nr1 (F0 := nthF fs 0) (N0 := nthZ zs 0) (N1 := nthZ zs 1) (N2 := nthZ zs 2) <;> first | assumption | omega
  rcases List.mem_cons.mp hx with hx | hx
  · rw [hx]; refine s_nor.mpr ?_; exact L
  · cases hx
def q_nr2 : qRl := ([sp (-116) [(1, 1)], sp 0 [], sp 0 []], [(1083, [1, 0, 0, 1, 2], [])])
theorem q_nr2_ok : RlOk q_nr2 := by
  intro fs zs h x hx
  obtain ⟨P0, h⟩ := snAll h
  replace P0 := sp_1.mp P0
  obtain ⟨P1, h⟩ := snAll h
  replace P1 := sp_0.mp P1
  obtain ⟨P2, h⟩ := snAll h
  replace P2 := sp_0.mp P2
  have L : eNor ((nthF fs 0)) ((nthZ zs 0)) ((nthZ zs 1)) ((nthZ zs 2)) := by
    apply M_nr2 (F0 := nthF fs 0) (N0 := nthZ zs 0) (N1 := nthZ zs 1) (N2 := nthZ zs 2) <;> first | assumption | omega
  rcases List.mem_cons.mp hx with hx | hx
  · rw [hx]; refine s_nor.mpr ?_; exact L
  · cases hx
def q_nr3 : qRl := ([sp (-1) [(2, 1)], sp 0 [], sp 0 []], [(1083, [1, 0, 0, 1, 2], [])])
theorem q_nr3_ok : RlOk q_nr3 := by
  intro fs zs h x hx
  obtain ⟨P0, h⟩ := snAll h
  replace P0 := sp_1.mp P0
  obtain ⟨P1, h⟩ := snAll h
  replace P1 := sp_0.mp P1
  obtain ⟨P2, h⟩ := snAll h
  replace P2 := sp_0.mp P2
  have L : eNor ((nthF fs 0)) ((nthZ zs 0)) ((nthZ zs 1)) ((nthZ zs 2)) := by
    apply M_nr3 (F0 := nthF fs 0) (N0 := nthZ zs 0) (N1 := nthZ zs 1) (N2 := nthZ zs 2) <;> first | assumption | omega
  rcases List.mem_cons.mp hx with hx | hx
  · rw [hx]; refine s_nor.mpr ?_; exact L
  · cases hx
def q_nr4 : qRl := ([(5, [1, 0, 3, 4, 5], []), sp 0 [(3, (-1))], sp 0 [(4, 1), (0, (-1))], sp (-110) [(5, 1)], (6, [1, 0, 6, 7, 8], []), sp 0 [(6, (-1))], sp 0 [(7, 1), (0, (-1))], sp 110 [(8, (-1))], sp 0 [], sp 0 []], [(1083, [1, 0, 0, 1, 2], [])])
theorem q_nr4_ok : RlOk q_nr4 := by
  intro fs zs h x hx
  obtain ⟨P0, h⟩ := snAll h
  replace P0 := s_ge.mp P0
  obtain ⟨P1, h⟩ := snAll h
  replace P1 := sp_1.mp P1
  obtain ⟨P2, h⟩ := snAll h
  replace P2 := sp_2.mp P2
  obtain ⟨P3, h⟩ := snAll h
  replace P3 := sp_1.mp P3
  obtain ⟨P4, h⟩ := snAll h
  replace P4 := s_le.mp P4
  obtain ⟨P5, h⟩ := snAll h
  replace P5 := sp_1.mp P5
  obtain ⟨P6, h⟩ := snAll h
  replace P6 := sp_2.mp P6
  obtain ⟨P7, h⟩ := snAll h
  replace P7 := sp_1.mp P7
  obtain ⟨P8, h⟩ := snAll h
  replace P8 := sp_0.mp P8
  obtain ⟨P9, h⟩ := snAll h
  replace P9 := sp_0.mp P9
  have L : eNor ((nthF fs 0)) ((nthZ zs 0)) ((nthZ zs 1)) ((nthZ zs 2)) := by
    apply M_nr4 (F0 := nthF fs 0) (N0 := nthZ zs 0) (N1 := nthZ zs 1) (N2 := nthZ zs 2) (N3 := nthZ zs 3) (N4 := nthZ zs 4) (N5 := nthZ zs 5) (N6 := nthZ zs 6) (N7 := nthZ zs 7) (N8 := nthZ zs 8) <;> first | assumption | omega
  rcases List.mem_cons.mp hx with hx | hx
  · rw [hx]; refine s_nor.mpr ?_; exact L
  · cases hx
def q_nrU : qRl := ([(1083, [1, 0, 0, 3, 4], []), sp (-115) [(3, 1)], sp 115 [(3, (-1))], sp 0 [(4, (-1))], (1082, [3, 0, 1, 2, 0, 1, 2], [])], [sp 0 [(1, 1), (2, (-1))]])
theorem q_nrU_ok : RlOk q_nrU := by
  intro fs zs h x hx
  obtain ⟨P0, h⟩ := snAll h
  replace P0 := s_nor.mp P0
  obtain ⟨P1, h⟩ := snAll h
  replace P1 := sp_1.mp P1
  obtain ⟨P2, h⟩ := snAll h
  replace P2 := sp_1.mp P2
  obtain ⟨P3, h⟩ := snAll h
  replace P3 := sp_1.mp P3
  obtain ⟨P4, h⟩ := snAll h
  replace P4 := s_top.mp P4
  have L : (nthZ zs 2) ≤ (nthZ zs 1) := by
    apply M_nrU (F0 := nthF fs 0) (F1 := nthF fs 1) (F2 := nthF fs 2) (N0 := nthZ zs 0) (N1 := nthZ zs 1) (N2 := nthZ zs 2) (N3 := nthZ zs 3) (N4 := nthZ zs 4) <;> first | assumption | omega
  rcases List.mem_cons.mp hx with hx | hx
  · rw [hx]; refine sp_2.mpr ?_; omega
  · cases hx
def q_nrT : qRl := ([(1083, [1, 0, 0, 3, 4], []), sp (-115) [(3, 1)], sp 115 [(3, (-1))], sp 0 [(4, (-1))], sp 0 [(1, 1), (2, (-1))]], [(1082, [3, 0, 1, 2, 0, 1, 2], [])])
theorem q_nrT_ok : RlOk q_nrT := by
  intro fs zs h x hx
  obtain ⟨P0, h⟩ := snAll h
  replace P0 := s_nor.mp P0
  obtain ⟨P1, h⟩ := snAll h
  replace P1 := sp_1.mp P1
  obtain ⟨P2, h⟩ := snAll h
  replace P2 := sp_1.mp P2
  obtain ⟨P3, h⟩ := snAll h
  replace P3 := sp_1.mp P3
  obtain ⟨P4, h⟩ := snAll h
  replace P4 := sp_2.mp P4
  have L : eTopz ((nthF fs 0)) ((nthF fs 1)) ((nthF fs 2)) ((nthZ zs 0)) ((nthZ zs 1)) ((nthZ zs 2)) := by
    apply M_nrT (F0 := nthF fs 0) (F1 := nthF fs 1) (F2 := nthF fs 2) (N0 := nthZ zs 0) (N1 := nthZ zs 1) (N2 := nthZ zs 2) (N3 := nthZ zs 3) (N4 := nthZ zs 4) <;> first | assumption | omega
  rcases List.mem_cons.mp hx with hx | hx
  · rw [hx]; refine s_top.mpr ?_; exact L
  · cases hx
def q_ti1 : qRl := ([sp 110 [(1, (-1))], sp 0 [], sp 0 []], [(1084, [1, 0, 0, 1, 2], [])])
theorem q_ti1_ok : RlOk q_ti1 := by
  intro fs zs h x hx
  obtain ⟨P0, h⟩ := snAll h
  replace P0 := sp_1.mp P0
  obtain ⟨P1, h⟩ := snAll h
  replace P1 := sp_0.mp P1
  obtain ⟨P2, h⟩ := snAll h
  replace P2 := sp_0.mp P2
  have L : eTif ((nthF fs 0)) ((nthZ zs 0)) ((nthZ zs 1)) ((nthZ zs 2)) := by
    apply M_ti1 (F0 := nthF fs 0) (N0 := nthZ zs 0) (N1 := nthZ zs 1) (N2 := nthZ zs 2) <;> first | assumption | omega
  rcases List.mem_cons.mp hx with hx | hx
  · rw [hx]; refine s_tif.mpr ?_; exact L
  · cases hx
def q_ti2 : qRl := ([sp (-113) [(1, 1)], sp 0 [], sp 0 []], [(1084, [1, 0, 0, 1, 2], [])])
theorem q_ti2_ok : RlOk q_ti2 := by
  intro fs zs h x hx
  obtain ⟨P0, h⟩ := snAll h
  replace P0 := sp_1.mp P0
  obtain ⟨P1, h⟩ := snAll h
  replace P1 := sp_0.mp P1
  obtain ⟨P2, h⟩ := snAll h
  replace P2 := sp_0.mp P2
  have L : eTif ((nthF fs 0)) ((nthZ zs 0)) ((nthZ zs 1)) ((nthZ zs 2)) := by
    apply M_ti2 (F0 := nthF fs 0) (N0 := nthZ zs 0) (N1 := nthZ zs 1) (N2 := nthZ zs 2) <;> first | assumption | omega
  rcases List.mem_cons.mp hx with hx | hx
  · rw [hx]; refine s_tif.mpr ?_; exact L
  · cases hx
def q_ti3 : qRl := ([sp (-1) [(2, 1)], sp 0 [], sp 0 []], [(1084, [1, 0, 0, 1, 2], [])])
theorem q_ti3_ok : RlOk q_ti3 := by
  intro fs zs h x hx
  obtain ⟨P0, h⟩ := snAll h
  replace P0 := sp_1.mp P0
  obtain ⟨P1, h⟩ := snAll h
  replace P1 := sp_0.mp P1
  obtain ⟨P2, h⟩ := snAll h
  replace P2 := sp_0.mp P2
  have L : eTif ((nthF fs 0)) ((nthZ zs 0)) ((nthZ zs 1)) ((nthZ zs 2)) := by
    apply M_ti3 (F0 := nthF fs 0) (N0 := nthZ zs 0) (N1 := nthZ zs 1) (N2 := nthZ zs 2) <;> first | assumption | omega
  rcases List.mem_cons.mp hx with hx | hx
  · rw [hx]; refine s_tif.mpr ?_; exact L
  · cases hx
def q_ti4 : qRl := ([sp 1 [(3, 1), (0, (-1))], sp (-1) [(3, (-1)), (0, 1)], (1, [0, 3, 4], []), sp (-110) [(4, 1)], sp 110 [(4, (-1))], sp 0 [], sp 0 []], [(1084, [1, 0, 0, 1, 2], [])])
theorem q_ti4_ok : RlOk q_ti4 := by
  intro fs zs h x hx
  obtain ⟨P0a, h⟩ := snAll h
  replace P0a := sp_2.mp P0a
  obtain ⟨P0b, h⟩ := snAll h
  replace P0b := sp_2.mp P0b
  obtain ⟨P1, h⟩ := snAll h
  replace P1 := s_rd.mp P1
  obtain ⟨P2, h⟩ := snAll h
  replace P2 := sp_1.mp P2
  obtain ⟨P3, h⟩ := snAll h
  replace P3 := sp_1.mp P3
  obtain ⟨P4, h⟩ := snAll h
  replace P4 := sp_0.mp P4
  obtain ⟨P5, h⟩ := snAll h
  replace P5 := sp_0.mp P5
  have L : eTif ((nthF fs 0)) ((nthZ zs 0)) ((nthZ zs 1)) ((nthZ zs 2)) := by
    apply M_ti4 (F0 := nthF fs 0) (N0 := nthZ zs 0) (N1 := nthZ zs 1) (N2 := nthZ zs 2) (N3 := nthZ zs 3) (N4 := nthZ zs 4) <;> first | assumption | omega
  rcases List.mem_cons.mp hx with hx | hx
  · rw [hx]; refine s_tif.mpr ?_; exact L
  · cases hx
def q_tiU : qRl := ([(1084, [1, 0, 3, 4, 5], []), sp 0 [(5, (-1))], sp (-111) [(4, 1)], sp 112 [(4, (-1))], sp (-1) [(3, 1), (0, (-1))], sp 1 [(0, 1), (3, (-1))], sp 0 [(0, 1)], (1082, [3, 0, 1, 2, 3, 6, 2], []), sp 0 [(1, 1), (6, (-1))]], [(1082, [3, 0, 1, 2, 0, 1, 2], [])])
theorem q_tiU_ok : RlOk q_tiU := by
  intro fs zs h x hx
  obtain ⟨P0, h⟩ := snAll h
  replace P0 := s_tif.mp P0
  obtain ⟨P1, h⟩ := snAll h
  replace P1 := sp_1.mp P1
  obtain ⟨P2, h⟩ := snAll h
  replace P2 := sp_1.mp P2
  obtain ⟨P3, h⟩ := snAll h
  replace P3 := sp_1.mp P3
  obtain ⟨P4, h⟩ := snAll h
  replace P4 := sp_2.mp P4
  obtain ⟨P5, h⟩ := snAll h
  replace P5 := sp_2.mp P5
  obtain ⟨P6, h⟩ := snAll h
  replace P6 := sp_1.mp P6
  obtain ⟨P7, h⟩ := snAll h
  replace P7 := s_top.mp P7
  obtain ⟨P8, h⟩ := snAll h
  replace P8 := sp_2.mp P8
  have L : eTopz ((nthF fs 0)) ((nthF fs 1)) ((nthF fs 2)) ((nthZ zs 0)) ((nthZ zs 1)) ((nthZ zs 2)) := by
    apply M_tiU (F0 := nthF fs 0) (F1 := nthF fs 1) (F2 := nthF fs 2) (N0 := nthZ zs 0) (N1 := nthZ zs 1) (N2 := nthZ zs 2) (N3 := nthZ zs 3) (N4 := nthZ zs 4) (N5 := nthZ zs 5) (N6 := nthZ zs 6) <;> first | assumption | omega
  rcases List.mem_cons.mp hx with hx | hx
  · rw [hx]; refine s_top.mpr ?_; exact L
  · cases hx
def q_nvA : qRl := ([(25, [1, 0, 0, 1, 2], []), sp 0 []], [(36, [1, 0, 0, 1, 2, 3], [])])
theorem q_nvA_ok : RlOk q_nvA := by
  intro fs zs h x hx
  obtain ⟨P0, h⟩ := snAll h
  replace P0 := s_nev.mp P0
  obtain ⟨P1, h⟩ := snAll h
  replace P1 := sp_0.mp P1
  have L : ∀ x : Int, (nthZ zs 0) ≤ x → x < (nthZ zs 1) → ((0 ≤ -1+(-1)*(nthZ zs 2)+(1)*(nthF fs 0) (x)) ∨ (0 ≤ -1+(1)*(nthZ zs 2)+(-1)*(nthF fs 0) (x)) ∨ (0 ≤ 0+(1)*(nthZ zs 3))) := by
    apply M_nvA (F0 := nthF fs 0) (N0 := nthZ zs 0) (N1 := nthZ zs 1) (N2 := nthZ zs 2) (N3 := nthZ zs 3) <;> first | assumption | omega
  rcases List.mem_cons.mp hx with hx | hx
  · rw [hx]; refine s_nev_or.mpr ?_; exact L
  · cases hx
def q_tpS0 : qRl := ([(1082, [3, 0, 1, 2, 3, 4, 2], []), sp (-1) [(3, 1), (0, (-1))], sp 1 [(0, 1), (3, (-1))], sp 0 [(0, 1)], (36, [1, 0, 7, 8, 9, 10], []), sp (-1) [(10, (-1))], sp 0 [(0, 1), (7, (-1))], sp (-1) [(8, 1), (0, (-1))], sp (-110) [(9, 1)], sp 110 [(9, (-1))], (1, [0, 0, 5], []), sp 112 [(5, (-1))], (1, [1, 0, 6], []), sp 0 [(1, 1), (6, (-1))]], [(1082, [3, 0, 1, 2, 0, 1, 2], [])])
theorem q_tpS0_ok : RlOk q_tpS0 := by
  intro fs zs h x hx
  obtain ⟨P0, h⟩ := snAll h
  replace P0 := s_top.mp P0
  obtain ⟨P1, h⟩ := snAll h
  replace P1 := sp_2.mp P1
  obtain ⟨P2, h⟩ := snAll h
  replace P2 := sp_2.mp P2
  obtain ⟨P3, h⟩ := snAll h
  replace P3 := sp_1.mp P3
  obtain ⟨P4, h⟩ := snAll h
  replace P4 := s_nev_or.mp P4
  obtain ⟨P5, h⟩ := snAll h
  replace P5 := sp_1.mp P5
  obtain ⟨P6, h⟩ := snAll h
  replace P6 := sp_2.mp P6
  obtain ⟨P7, h⟩ := snAll h
  replace P7 := sp_2.mp P7
  obtain ⟨P8, h⟩ := snAll h
  replace P8 := sp_1.mp P8
  obtain ⟨P9, h⟩ := snAll h
  replace P9 := sp_1.mp P9
  obtain ⟨P10, h⟩ := snAll h
  replace P10 := s_rd.mp P10
  obtain ⟨P11, h⟩ := snAll h
  replace P11 := sp_1.mp P11
  obtain ⟨P12, h⟩ := snAll h
  replace P12 := s_rd.mp P12
  obtain ⟨P13, h⟩ := snAll h
  replace P13 := sp_2.mp P13
  have L : eTopz ((nthF fs 0)) ((nthF fs 1)) ((nthF fs 2)) ((nthZ zs 0)) ((nthZ zs 1)) ((nthZ zs 2)) := by
    apply M_tpS0 (F0 := nthF fs 0) (F1 := nthF fs 1) (F2 := nthF fs 2) (N0 := nthZ zs 0) (N1 := nthZ zs 1) (N2 := nthZ zs 2) (N3 := nthZ zs 3) (N4 := nthZ zs 4) (N5 := nthZ zs 5) (N6 := nthZ zs 6) (N7 := nthZ zs 7) (N8 := nthZ zs 8) (N9 := nthZ zs 9) (N10 := nthZ zs 10) <;> first | assumption | omega
  rcases List.mem_cons.mp hx with hx | hx
  · rw [hx]; refine s_top.mpr ?_; exact L
  · cases hx
def q_tpT : qRl := ([(1082, [3, 0, 1, 2, 0, 3, 2], []), (36, [1, 0, 4, 5, 6, 7], []), sp (-1) [(7, (-1))], sp (-110) [(6, 1)], sp 110 [(6, (-1))], sp 0 [(4, 1)], sp (-1) [(5, 1), (4, (-1))], sp (-1) [(0, 1), (4, (-1))], sp 0 []], [(1082, [3, 0, 1, 2, 0, 1, 2], [])])
theorem q_tpT_ok : RlOk q_tpT := by
  intro fs zs h x hx
  obtain ⟨P0, h⟩ := snAll h
  replace P0 := s_top.mp P0
  obtain ⟨P1, h⟩ := snAll h
  replace P1 := s_nev_or.mp P1
  obtain ⟨P2, h⟩ := snAll h
  replace P2 := sp_1.mp P2
  obtain ⟨P3, h⟩ := snAll h
  replace P3 := sp_1.mp P3
  obtain ⟨P4, h⟩ := snAll h
  replace P4 := sp_1.mp P4
  obtain ⟨P5, h⟩ := snAll h
  replace P5 := sp_1.mp P5
  obtain ⟨P6, h⟩ := snAll h
  replace P6 := sp_2.mp P6
  obtain ⟨P7, h⟩ := snAll h
  replace P7 := sp_2.mp P7
  obtain ⟨P8, h⟩ := snAll h
  replace P8 := sp_0.mp P8
  have L : eTopz ((nthF fs 0)) ((nthF fs 1)) ((nthF fs 2)) ((nthZ zs 0)) ((nthZ zs 1)) ((nthZ zs 2)) := by
    apply M_tpT (F0 := nthF fs 0) (F1 := nthF fs 1) (F2 := nthF fs 2) (N0 := nthZ zs 0) (N1 := nthZ zs 1) (N2 := nthZ zs 2) (N3 := nthZ zs 3) (N4 := nthZ zs 4) (N5 := nthZ zs 5) (N6 := nthZ zs 6) (N7 := nthZ zs 7) <;> first | assumption | omega
  rcases List.mem_cons.mp hx with hx | hx
  · rw [hx]; refine s_top.mpr ?_; exact L
  · cases hx
def q_ti5 : qRl := ([(19, [1, 0, 3, 4, 5, 6], []), sp (-1) [(6, (-1))], sp (-110) [(5, 1)], (13, [1, 0, 7, 8, 9, 10], []), sp (-1) [(10, (-1))], sp 110 [(9, (-1))], sp (-1) [(0, 1), (3, (-1))], sp 0 [(4, 1), (0, (-1))], sp (-1) [(0, 1), (7, (-1))], sp 0 [(8, 1), (0, (-1))], sp 0 [], sp 0 []], [(1084, [1, 0, 0, 1, 2], [])])
theorem q_ti5_ok : RlOk q_ti5 := by
  intro fs zs h x hx
  obtain ⟨P0, h⟩ := snAll h
  replace P0 := s_ge_or.mp P0
  obtain ⟨P1, h⟩ := snAll h
  replace P1 := sp_1.mp P1
  obtain ⟨P2, h⟩ := snAll h
  replace P2 := sp_1.mp P2
  obtain ⟨P3, h⟩ := snAll h
  replace P3 := s_le_or.mp P3
  obtain ⟨P4, h⟩ := snAll h
  replace P4 := sp_1.mp P4
  obtain ⟨P5, h⟩ := snAll h
  replace P5 := sp_1.mp P5
  obtain ⟨P6, h⟩ := snAll h
  replace P6 := sp_2.mp P6
  obtain ⟨P7, h⟩ := snAll h
  replace P7 := sp_2.mp P7
  obtain ⟨P8, h⟩ := snAll h
  replace P8 := sp_2.mp P8
  obtain ⟨P9, h⟩ := snAll h
  replace P9 := sp_2.mp P9
  obtain ⟨P10, h⟩ := snAll h
  replace P10 := sp_0.mp P10
  obtain ⟨P11, h⟩ := snAll h
  replace P11 := sp_0.mp P11
  have L : eTif ((nthF fs 0)) ((nthZ zs 0)) ((nthZ zs 1)) ((nthZ zs 2)) := by
    apply M_ti5 (F0 := nthF fs 0) (N0 := nthZ zs 0) (N1 := nthZ zs 1) (N2 := nthZ zs 2) (N3 := nthZ zs 3) (N4 := nthZ zs 4) (N5 := nthZ zs 5) (N6 := nthZ zs 6) (N7 := nthZ zs 7) (N8 := nthZ zs 8) (N9 := nthZ zs 9) (N10 := nthZ zs 10) <;> first | assumption | omega
  rcases List.mem_cons.mp hx with hx | hx
  · rw [hx]; refine s_tif.mpr ?_; exact L
  · cases hx
def q_tiN : qRl := ([(1084, [1, 0, 3, 4, 5], []), sp 0 [(5, (-1))], sp (-111) [(4, 1)], sp 112 [(4, (-1))], (36, [1, 0, 7, 8, 9, 10], []), sp (-1) [(10, (-1))], sp (-110) [(9, 1)], sp 110 [(9, (-1))], sp (-1) [(8, 1), (7, (-1))], sp (-1) [(3, 1), (7, (-1))]], [sp (-2) [(3, 1), (7, (-1))]])
theorem q_tiN_ok : RlOk q_tiN := by
  intro fs zs h x hx
  obtain ⟨P0, h⟩ := snAll h
  replace P0 := s_tif.mp P0
  obtain ⟨P1, h⟩ := snAll h
  replace P1 := sp_1.mp P1
  obtain ⟨P2, h⟩ := snAll h
  replace P2 := sp_1.mp P2
  obtain ⟨P3, h⟩ := snAll h
  replace P3 := sp_1.mp P3
  obtain ⟨P4, h⟩ := snAll h
  replace P4 := s_nev_or.mp P4
  obtain ⟨P5, h⟩ := snAll h
  replace P5 := sp_1.mp P5
  obtain ⟨P6, h⟩ := snAll h
  replace P6 := sp_1.mp P6
  obtain ⟨P7, h⟩ := snAll h
  replace P7 := sp_1.mp P7
  obtain ⟨P8, h⟩ := snAll h
  replace P8 := sp_2.mp P8
  obtain ⟨P9, h⟩ := snAll h
  replace P9 := sp_2.mp P9
  have L : (nthZ zs 7) + 2 ≤ (nthZ zs 3) := by
    apply M_tiN (F0 := nthF fs 0) (N0 := nthZ zs 0) (N1 := nthZ zs 1) (N2 := nthZ zs 2) (N3 := nthZ zs 3) (N4 := nthZ zs 4) (N5 := nthZ zs 5) (N6 := nthZ zs 6) (N7 := nthZ zs 7) (N8 := nthZ zs 8) (N9 := nthZ zs 9) (N10 := nthZ zs 10) <;> first | assumption | omega
  rcases List.mem_cons.mp hx with hx | hx
  · rw [hx]; refine sp_2.mpr ?_; omega
  · cases hx
def q_innI : qRl := ([(1, [0, 0, 1], []), (1085, [0, 1, 2], []), sp (-1) [(2, 1)]], [(1086, [1, 0, 0], [])])
theorem q_innI_ok : RlOk q_innI := by
  intro fs zs h x hx
  obtain ⟨P0, h⟩ := snAll h
  replace P0 := s_rd.mp P0
  obtain ⟨P1, h⟩ := snAll h
  replace P1 := s_det_inName.mp P1
  obtain ⟨P2, h⟩ := snAll h
  replace P2 := sp_1.mp P2
  have L : eInn ((nthF fs 0)) ((nthZ zs 0)) := by
    apply M_innI (F0 := nthF fs 0) (N0 := nthZ zs 0) (N1 := nthZ zs 1) (N2 := nthZ zs 2) <;> first | assumption | omega
  rcases List.mem_cons.mp hx with hx | hx
  · rw [hx]; refine s_inn.mpr ?_; exact L
  · cases hx
def q_innE : qRl := ([(1086, [1, 0, 0], []), (1, [0, 1, 3], []), sp 0 [(1, 1), (0, (-1))], (1085, [0, 3, 4], []), sp 0 [(4, (-1))]], [sp (-1) [(1, 1), (0, (-1))]])
theorem q_innE_ok : RlOk q_innE := by
  intro fs zs h x hx
  obtain ⟨P0, h⟩ := snAll h
  replace P0 := s_inn.mp P0
  obtain ⟨P1, h⟩ := snAll h
  replace P1 := s_rd.mp P1
  obtain ⟨P2, h⟩ := snAll h
  replace P2 := sp_2.mp P2
  obtain ⟨P3, h⟩ := snAll h
  replace P3 := s_det_inName.mp P3
  obtain ⟨P4, h⟩ := snAll h
  replace P4 := sp_1.mp P4
  have L : (nthZ zs 0) + 1 ≤ (nthZ zs 1) := by
    apply M_innE (F0 := nthF fs 0) (N0 := nthZ zs 0) (N1 := nthZ zs 1) (N2 := nthZ zs 2) (N3 := nthZ zs 3) (N4 := nthZ zs 4) <;> first | assumption | omega
  rcases List.mem_cons.mp hx with hx | hx
  · rw [hx]; refine sp_2.mpr ?_; omega
  · cases hx
def q_opn0 : qRl := ([sp 0 [(0, 1)], sp 0 [(0, (-1))], sp 0 [(1, 1)], sp 0 [(1, (-1))]], [(1087, [1, 0, 0, 1], [])])
theorem q_opn0_ok : RlOk q_opn0 := by
  intro fs zs h x hx
  obtain ⟨P0, h⟩ := snAll h
  replace P0 := sp_1.mp P0
  obtain ⟨P1, h⟩ := snAll h
  replace P1 := sp_1.mp P1
  obtain ⟨P2, h⟩ := snAll h
  replace P2 := sp_1.mp P2
  obtain ⟨P3, h⟩ := snAll h
  replace P3 := sp_1.mp P3
  have L : eOpn ((nthF fs 0)) ((nthZ zs 0)) ((nthZ zs 1)) := by
    apply M_opn0 (F0 := nthF fs 0) (N0 := nthZ zs 0) (N1 := nthZ zs 1) <;> first | assumption | omega
  rcases List.mem_cons.mp hx with hx | hx
  · rw [hx]; refine s_opn.mpr ?_; exact L
  · cases hx
def q_opnP0 : qRl := ([(2, [4, 0, 6, 7], []), (1087, [1, 0, 2, 3], []), sp 0 [(6, 1), (2, (-1))], sp 0 [(2, 1), (6, (-1))], sp 39 [(7, (-1))], sp (-1) [(0, 1), (2, (-1))], sp 1 [(2, 1), (0, (-1))], sp 0 [(1, 1), (3, (-1))], sp 0 [(3, 1), (1, (-1))]], [(1087, [1, 4, 0, 1], [])])
theorem q_opnP0_ok : RlOk q_opnP0 := by
  intro fs zs h x hx
  obtain ⟨P0, h⟩ := snAll h
  replace P0 := s_wr.mp P0
  obtain ⟨P1, h⟩ := snAll h
  replace P1 := s_opn.mp P1
  obtain ⟨P2, h⟩ := snAll h
  replace P2 := sp_2.mp P2
  obtain ⟨P3, h⟩ := snAll h
  replace P3 := sp_2.mp P3
  obtain ⟨P4, h⟩ := snAll h
  replace P4 := sp_1.mp P4
  obtain ⟨P5, h⟩ := snAll h
  replace P5 := sp_2.mp P5
  obtain ⟨P6, h⟩ := snAll h
  replace P6 := sp_2.mp P6
  obtain ⟨P7, h⟩ := snAll h
  replace P7 := sp_2.mp P7
  obtain ⟨P8, h⟩ := snAll h
  replace P8 := sp_2.mp P8
  have L : eOpn ((nthF fs 4)) ((nthZ zs 0)) ((nthZ zs 1)) := by
    apply M_opnP0 (F0 := nthF fs 0) (F1 := nthF fs 1) (F2 := nthF fs 2) (F3 := nthF fs 3) (F4 := nthF fs 4) (N0 := nthZ zs 0) (N1 := nthZ zs 1) (N2 := nthZ zs 2) (N3 := nthZ zs 3) (N4 := nthZ zs 4) (N5 := nthZ zs 5) (N6 := nthZ zs 6) (N7 := nthZ zs 7) <;> first | assumption | omega
  rcases List.mem_cons.mp hx with hx | hx
  · rw [hx]; refine s_opn.mpr ?_; exact L
  · cases hx
def q_opnQ0 : qRl := ([(1087, [1, 0, 2, 3], []), sp (-1) [(2, 1), (0, (-1))], sp 1 [(0, 1), (2, (-1))], sp 0 [(0, 1)], sp 0 [(1, 1), (3, (-1))], sp 0 [(3, 1), (1, (-1))], (1, [0, 0, 7], []), sp 39 [(7, (-1))]], [(1087, [1, 0, 0, 1], [])])
theorem q_opnQ0_ok : RlOk q_opnQ0 := by
  intro fs zs h x hx
  obtain ⟨P0, h⟩ := snAll h
  replace P0 := s_opn.mp P0
  obtain ⟨P1, h⟩ := snAll h
  replace P1 := sp_2.mp P1
  obtain ⟨P2, h⟩ := snAll h
  replace P2 := sp_2.mp P2
  obtain ⟨P3, h⟩ := snAll h
  replace P3 := sp_1.mp P3
  obtain ⟨P4, h⟩ := snAll h
  replace P4 := sp_2.mp P4
  obtain ⟨P5, h⟩ := snAll h
  replace P5 := sp_2.mp P5
  obtain ⟨P6, h⟩ := snAll h
  replace P6 := s_rd.mp P6
  obtain ⟨P7, h⟩ := snAll h
  replace P7 := sp_1.mp P7
  have L : eOpn ((nthF fs 0)) ((nthZ zs 0)) ((nthZ zs 1)) := by
    apply M_opnQ0 (F0 := nthF fs 0) (N0 := nthZ zs 0) (N1 := nthZ zs 1) (N2 := nthZ zs 2) (N3 := nthZ zs 3) (N4 := nthZ zs 4) (N5 := nthZ zs 5) (N6 := nthZ zs 6) (N7 := nthZ zs 7) <;> first | assumption | omega
  rcases List.mem_cons.mp hx with hx | hx
  · rw [hx]; refine s_opn.mpr ?_; exact L
  · cases hx
def q_opnP1 : qRl := ([(2, [4, 0, 6, 7], []), (1087, [1, 0, 2, 3], []), sp 0 [(6, 1), (2, (-1))], sp 0 [(2, 1), (6, (-1))], sp (-41) [(7, 1)], sp (-1) [(0, 1), (2, (-1))], sp 1 [(2, 1), (0, (-1))], sp 0 [(1, 1), (3, (-1))], sp 0 [(3, 1), (1, (-1))]], [(1087, [1, 4, 0, 1], [])])
theorem q_opnP1_ok : RlOk q_opnP1 := by
  intro fs zs h x hx
  obtain ⟨P0, h⟩ := snAll h
  replace P0 := s_wr.mp P0
  obtain ⟨P1, h⟩ := snAll h
  replace P1 := s_opn.mp P1
  obtain ⟨P2, h⟩ := snAll h
  replace P2 := sp_2.mp P2
  obtain ⟨P3, h⟩ := snAll h
  replace P3 := sp_2.mp P3
  obtain ⟨P4, h⟩ := snAll h
  replace P4 := sp_1.mp P4
  obtain ⟨P5, h⟩ := snAll h
  replace P5 := sp_2.mp P5
  obtain ⟨P6, h⟩ := snAll h
  replace P6 := sp_2.mp P6
  obtain ⟨P7, h⟩ := snAll h
  replace P7 := sp_2.mp P7
  obtain ⟨P8, h⟩ := snAll h
  replace P8 := sp_2.mp P8
  have L : eOpn ((nthF fs 4)) ((nthZ zs 0)) ((nthZ zs 1)) := by
    apply M_opnP1 (F0 := nthF fs 0) (F1 := nthF fs 1) (F2 := nthF fs 2) (F3 := nthF fs 3) (F4 := nthF fs 4) (N0 := nthZ zs 0) (N1 := nthZ zs 1) (N2 := nthZ zs 2) (N3 := nthZ zs 3) (N4 := nthZ zs 4) (N5 := nthZ zs 5) (N6 := nthZ zs 6) (N7 := nthZ zs 7) <;> first | assumption | omega
  rcases List.mem_cons.mp hx with hx | hx
  · rw [hx]; refine s_opn.mpr ?_; exact L
  · cases hx
def q_opnQ1 : qRl := ([(1087, [1, 0, 2, 3], []), sp (-1) [(2, 1), (0, (-1))], sp 1 [(0, 1), (2, (-1))], sp 0 [(0, 1)], sp 0 [(1, 1), (3, (-1))], sp 0 [(3, 1), (1, (-1))], (1, [0, 0, 7], []), sp (-41) [(7, 1)]], [(1087, [1, 0, 0, 1], [])])
theorem q_opnQ1_ok : RlOk q_opnQ1 := by
  intro fs zs h x hx
  obtain ⟨P0, h⟩ := snAll h
  replace P0 := s_opn.mp P0
  obtain ⟨P1, h⟩ := snAll h
  replace P1 := sp_2.mp P1
  obtain ⟨P2, h⟩ := snAll h
  replace P2 := sp_2.mp P2
  obtain ⟨P3, h⟩ := snAll h
  replace P3 := sp_1.mp P3
  obtain ⟨P4, h⟩ := snAll h
  replace P4 := sp_2.mp P4
  obtain ⟨P5, h⟩ := snAll h
  replace P5 := sp_2.mp P5
  obtain ⟨P6, h⟩ := snAll h
  replace P6 := s_rd.mp P6
  obtain ⟨P7, h⟩ := snAll h
  replace P7 := sp_1.mp P7
  have L : eOpn ((nthF fs 0)) ((nthZ zs 0)) ((nthZ zs 1)) := by
    apply M_opnQ1 (F0 := nthF fs 0) (N0 := nthZ zs 0) (N1 := nthZ zs 1) (N2 := nthZ zs 2) (N3 := nthZ zs 3) (N4 := nthZ zs 4) (N5 := nthZ zs 5) (N6 := nthZ zs 6) (N7 := nthZ zs 7) <;> first | assumption | omega
  rcases List.mem_cons.mp hx with hx | hx
  · rw [hx]; refine s_opn.mpr ?_; exact L
  · cases hx
def q_opnPo : qRl := ([(2, [4, 0, 6, 7], []), (1087, [1, 0, 2, 3], []), sp 0 [(6, 1), (2, (-1))], sp 0 [(2, 1), (6, (-1))], sp (-40) [(7, 1)], sp 40 [(7, (-1))], sp (-1) [(0, 1), (2, (-1))], sp 1 [(2, 1), (0, (-1))], sp (-1) [(1, 1), (3, (-1))], sp 1 [(3, 1), (1, (-1))]], [(1087, [1, 4, 0, 1], [])])
theorem q_opnPo_ok : RlOk q_opnPo := by
  intro fs zs h x hx
  obtain ⟨P0, h⟩ := snAll h
  replace P0 := s_wr.mp P0
  obtain ⟨P1, h⟩ := snAll h
  replace P1 := s_opn.mp P1
  obtain ⟨P2, h⟩ := snAll h
  replace P2 := sp_2.mp P2
  obtain ⟨P3, h⟩ := snAll h
  replace P3 := sp_2.mp P3
  obtain ⟨P4, h⟩ := snAll h
  replace P4 := sp_1.mp P4
  obtain ⟨P5, h⟩ := snAll h
  replace P5 := sp_1.mp P5
  obtain ⟨P6, h⟩ := snAll h
  replace P6 := sp_2.mp P6
  obtain ⟨P7, h⟩ := snAll h
  replace P7 := sp_2.mp P7
  obtain ⟨P8, h⟩ := snAll h
  replace P8 := sp_2.mp P8
  obtain ⟨P9, h⟩ := snAll h
  replace P9 := sp_2.mp P9
  have L : eOpn ((nthF fs 4)) ((nthZ zs 0)) ((nthZ zs 1)) := by
    apply M_opnPo (F0 := nthF fs 0) (F1 := nthF fs 1) (F2 := nthF fs 2) (F3 := nthF fs 3) (F4 := nthF fs 4) (N0 := nthZ zs 0) (N1 := nthZ zs 1) (N2 := nthZ zs 2) (N3 := nthZ zs 3) (N4 := nthZ zs 4) (N5 := nthZ zs 5) (N6 := nthZ zs 6) (N7 := nthZ zs 7) <;> first | assumption | omega
  rcases List.mem_cons.mp hx with hx | hx
  · rw [hx]; refine s_opn.mpr ?_; exact L
  · cases hx
def q_opnQo : qRl := ([(1087, [1, 0, 2, 3], []), sp (-1) [(2, 1), (0, (-1))], sp 1 [(0, 1), (2, (-1))], sp 0 [(0, 1)], sp (-1) [(3, 1), (1, (-1))], sp 1 [(1, 1), (3, (-1))], (1, [0, 0, 7], []), sp (-40) [(7, 1)], sp 40 [(7, (-1))]], [(1087, [1, 0, 0, 1], [])])
theorem q_opnQo_ok : RlOk q_opnQo := by
  intro fs zs h x hx
  obtain ⟨P0, h⟩ := snAll h
  replace P0 := s_opn.mp P0
  obtain ⟨P1, h⟩ := snAll h
  replace P1 := sp_2.mp P1
  obtain ⟨P2, h⟩ := snAll h
  replace P2 := sp_2.mp P2
  obtain ⟨P3, h⟩ := snAll h
  replace P3 := sp_1.mp P3
  obtain ⟨P4, h⟩ := snAll h
  replace P4 := sp_2.mp P4
  obtain ⟨P5, h⟩ := snAll h
  replace P5 := sp_2.mp P5
  obtain ⟨P6, h⟩ := snAll h
  replace P6 := s_rd.mp P6
  obtain ⟨P7, h⟩ := snAll h
  replace P7 := sp_1.mp P7
  obtain ⟨P8, h⟩ := snAll h
  replace P8 := sp_1.mp P8
  have L : eOpn ((nthF fs 0)) ((nthZ zs 0)) ((nthZ zs 1)) := by
    apply M_opnQo (F0 := nthF fs 0) (N0 := nthZ zs 0) (N1 := nthZ zs 1) (N2 := nthZ zs 2) (N3 := nthZ zs 3) (N4 := nthZ zs 4) (N5 := nthZ zs 5) (N6 := nthZ zs 6) (N7 := nthZ zs 7) <;> first | assumption | omega
  rcases List.mem_cons.mp hx with hx | hx
  · rw [hx]; refine s_opn.mpr ?_; exact L
  · cases hx
def q_opnE : qRl := ([(1087, [1, 0, 0, 1], []), sp 0 [(0, (-1))]], [sp 0 [(1, (-1))]])
theorem q_opnE_ok : RlOk q_opnE := by
  intro fs zs h x hx
  obtain ⟨P0, h⟩ := snAll h
  replace P0 := s_opn.mp P0
  obtain ⟨P1, h⟩ := snAll h
  replace P1 := sp_1.mp P1
  have L : (nthZ zs 1) ≤ 0 := by
    apply M_opnE (F0 := nthF fs 0) (N0 := nthZ zs 0) (N1 := nthZ zs 1) <;> first | assumption | omega
  rcases List.mem_cons.mp hx with hx | hx
  · rw [hx]; refine sp_1.mpr ?_; omega
  · cases hx
def q_opnS : qRl := ([(2, [4, 0, 6, 7], []), sp 0 [(6, 1)], sp 0 [(6, (-1))], sp (-41) [(7, 1)], sp (-1) [(0, 1)], sp 1 [(0, (-1))], sp 0 [(1, 1)], sp 0 [(1, (-1))]], [(1087, [1, 4, 0, 1], [])])
theorem q_opnS_ok : RlOk q_opnS := by
  intro fs zs h x hx
  obtain ⟨P0, h⟩ := snAll h
  replace P0 := s_wr.mp P0
  obtain ⟨P1, h⟩ := snAll h
  replace P1 := sp_1.mp P1
  obtain ⟨P2, h⟩ := snAll h
  replace P2 := sp_1.mp P2
  obtain ⟨P3, h⟩ := snAll h
  replace P3 := sp_1.mp P3
  obtain ⟨P4, h⟩ := snAll h
  replace P4 := sp_1.mp P4
  obtain ⟨P5, h⟩ := snAll h
  replace P5 := sp_1.mp P5
  obtain ⟨P6, h⟩ := snAll h
  replace P6 := sp_1.mp P6
  obtain ⟨P7, h⟩ := snAll h
  replace P7 := sp_1.mp P7
  have L : eOpn ((nthF fs 4)) ((nthZ zs 0)) ((nthZ zs 1)) := by
    apply M_opnS (F0 := nthF fs 0) (F1 := nthF fs 1) (F2 := nthF fs 2) (F3 := nthF fs 3) (F4 := nthF fs 4) (N0 := nthZ zs 0) (N1 := nthZ zs 1) (N2 := nthZ zs 2) (N3 := nthZ zs 3) (N4 := nthZ zs 4) (N5 := nthZ zs 5) (N6 := nthZ zs 6) (N7 := nthZ zs 7) <;> first | assumption | omega
  rcases List.mem_cons.mp hx with hx | hx
  · rw [hx]; refine s_opn.mpr ?_; exact L
  · cases hx
def q_endF : qRl := ([(32, [1, 0, 0, 1, 2], []), sp 0 [(2, (-1))], sp (-1) [(1, 1), (0, (-1))], (1, [0, 3, 4], []), sp (-1) [(4, 1)], sp 0 [(0, 1), (3, (-1))]], [sp (-1) [(0, 1), (3, (-1))]])
theorem q_endF_ok : RlOk q_endF := by
  intro fs zs h x hx
  obtain ⟨P0, h⟩ := snAll h
  replace P0 := s_endl.mp P0
  obtain ⟨P1, h⟩ := snAll h
  replace P1 := sp_1.mp P1
  obtain ⟨P2, h⟩ := snAll h
  replace P2 := sp_2.mp P2
  obtain ⟨P3, h⟩ := snAll h
  replace P3 := s_rd.mp P3
  obtain ⟨P4, h⟩ := snAll h
  replace P4 := sp_1.mp P4
  obtain ⟨P5, h⟩ := snAll h
  replace P5 := sp_2.mp P5
  have L : (nthZ zs 3) + 1 ≤ (nthZ zs 0) := by
    apply M_endF (F0 := nthF fs 0) (N0 := nthZ zs 0) (N1 := nthZ zs 1) (N2 := nthZ zs 2) (N3 := nthZ zs 3) (N4 := nthZ zs 4) <;> first | assumption | omega
  rcases List.mem_cons.mp hx with hx | hx
  · rw [hx]; refine sp_2.mpr ?_; omega
  · cases hx
def q_sh80 : qRl := ([sp 0 [(0, 1), (1, (-1))], sp 0 [(1, 1), (0, (-1))], sp (-24) [(2, 1)], sp 24 [(2, (-1))]], [(1088, [0, 0, 1, 2], [])])
theorem q_sh80_ok : RlOk q_sh80 := by
  intro fs zs h x hx
  obtain ⟨P0, h⟩ := snAll h
  replace P0 := sp_2.mp P0
  obtain ⟨P1, h⟩ := snAll h
  replace P1 := sp_2.mp P1
  obtain ⟨P2, h⟩ := snAll h
  replace P2 := sp_1.mp P2
  obtain ⟨P3, h⟩ := snAll h
  replace P3 := sp_1.mp P3
  have L : eSh8 ((nthZ zs 0)) ((nthZ zs 1)) ((nthZ zs 2)) := by
    apply M_sh80 (N0 := nthZ zs 0) (N1 := nthZ zs 1) (N2 := nthZ zs 2) <;> first | assumption | omega
  rcases List.mem_cons.mp hx with hx | hx
  · rw [hx]; refine s_sh8.mpr ?_; exact L
  · cases hx
def q_sh81 : qRl := ([(1088, [0, 3, 1, 4], []), sp (-1) [(0, 1), (3, (-1))], sp 1 [(3, 1), (0, (-1))], sp (-8) [(4, 1), (2, (-1))], sp 8 [(2, 1), (4, (-1))]], [(1088, [0, 0, 1, 2], [])])
theorem q_sh81_ok : RlOk q_sh81 := by
  intro fs zs h x hx
  obtain ⟨P0, h⟩ := snAll h
  replace P0 := s_sh8.mp P0
  obtain ⟨P1, h⟩ := snAll h
  replace P1 := sp_2.mp P1
  obtain ⟨P2, h⟩ := snAll h
  replace P2 := sp_2.mp P2
  obtain ⟨P3, h⟩ := snAll h
  replace P3 := sp_2.mp P3
  obtain ⟨P4, h⟩ := snAll h
  replace P4 := sp_2.mp P4
  have L : eSh8 ((nthZ zs 0)) ((nthZ zs 1)) ((nthZ zs 2)) := by
    apply M_sh81 (N0 := nthZ zs 0) (N1 := nthZ zs 1) (N2 := nthZ zs 2) (N3 := nthZ zs 3) (N4 := nthZ zs 4) <;> first | assumption | omega
  rcases List.mem_cons.mp hx with hx | hx
  · rw [hx]; refine s_sh8.mpr ?_; exact L
  · cases hx
def q_sh82 : qRl := ([(1088, [0, 0, 1, 2], []), sp 0 [(2, 1)]], [sp 3 [(1, 1), (0, (-1))]])
theorem q_sh82_ok : RlOk q_sh82 := by
  intro fs zs h x hx
  obtain ⟨P0, h⟩ := snAll h
  replace P0 := s_sh8.mp P0
  obtain ⟨P1, h⟩ := snAll h
  replace P1 := sp_1.mp P1
  have L : (nthZ zs 0) ≤ (nthZ zs 1) + 3 := by
    apply M_sh82 (N0 := nthZ zs 0) (N1 := nthZ zs 1) (N2 := nthZ zs 2) <;> first | assumption | omega
  rcases List.mem_cons.mp hx with hx | hx
  · rw [hx]; refine sp_2.mpr ?_; omega
  · cases hx
def q_o23 : qRl := ([(3, [0, 0, 1, 2, 3], []), sp 0 []], [(4, [0, 0, 1, 2, 3, 4], [])])
theorem q_o23_ok : RlOk q_o23 := by
  intro fs zs h x hx
  obtain ⟨P0, h⟩ := snAll h
  replace P0 := s_or2.mp P0
  obtain ⟨P1, h⟩ := snAll h
  replace P1 := sp_0.mp P1
  have L : ∀ x : Int, (nthZ zs 0) ≤ x → x < (nthZ zs 1) → ((0 ≤ 0+(1)*(nthZ zs 2)) ∨ (0 ≤ 0+(1)*(nthZ zs 3)) ∨ (0 ≤ 0+(1)*(nthZ zs 4))) := by
    apply M_o23 (N0 := nthZ zs 0) (N1 := nthZ zs 1) (N2 := nthZ zs 2) (N3 := nthZ zs 3) (N4 := nthZ zs 4) <;> first | assumption | omega
  rcases List.mem_cons.mp hx with hx | hx
  · rw [hx]; refine s_or3.mpr ?_; exact L
  · cases hx
def q_o34 : qRl := ([(4, [0, 0, 1, 2, 3, 4], []), sp 0 []], [(16, [0, 0, 1, 2, 3, 4, 5], [])])
theorem q_o34_ok : RlOk q_o34 := by
  intro fs zs h x hx
  obtain ⟨P0, h⟩ := snAll h
  replace P0 := s_or3.mp P0
  obtain ⟨P1, h⟩ := snAll h
  replace P1 := sp_0.mp P1
  have L : ∀ x : Int, (nthZ zs 0) ≤ x → x < (nthZ zs 1) → ((0 ≤ 0+(1)*(nthZ zs 2)) ∨ (0 ≤ 0+(1)*(nthZ zs 3)) ∨ (0 ≤ 0+(1)*(nthZ zs 4)) ∨ (0 ≤ 0+(1)*(nthZ zs 5))) := by
    apply M_o34 (N0 := nthZ zs 0) (N1 := nthZ zs 1) (N2 := nthZ zs 2) (N3 := nthZ zs 3) (N4 := nthZ zs 4) (N5 := nthZ zs 5) <;> first | assumption | omega
  rcases List.mem_cons.mp hx with hx | hx
  · rw [hx]; refine s_or4.mpr ?_; exact L
  · cases hx
def q_outO : qRl := ([(26, [1, 0, 0, 1, 2, 3], []), (1, [0, 4, 5], []), sp 0 [(4, 1), (0, (-1))], sp (-1) [(1, 1), (4, (-1))], sp 0 [(6, (-1))], sp 0 [(6, 1)], sp (-1) [(7, 1)], sp 1 [(7, (-1))], sp 0 [(8, 1), (2, (-1)), (5, 1)], sp 0 [(9, 1), (5, (-1)), (3, 1)]], [(3, [0, 6, 7, 8, 9], [])])
theorem q_outO_ok : RlOk q_outO := by
  intro fs zs h x hx
  obtain ⟨P0, h⟩ := snAll h
  replace P0 := s_outr.mp P0
  obtain ⟨P1, h⟩ := snAll h
  replace P1 := s_rd.mp P1
  obtain ⟨P2, h⟩ := snAll h
  replace P2 := sp_2.mp P2
  obtain ⟨P3, h⟩ := snAll h
  replace P3 := sp_2.mp P3
  obtain ⟨P4, h⟩ := snAll h
  replace P4 := sp_1.mp P4
  obtain ⟨P5, h⟩ := snAll h
  replace P5 := sp_1.mp P5
  obtain ⟨P6, h⟩ := snAll h
  replace P6 := sp_1.mp P6
  obtain ⟨P7, h⟩ := snAll h
  replace P7 := sp_1.mp P7
  obtain ⟨P8, h⟩ := snAll h
  replace P8 := sp_3.mp P8
  obtain ⟨P9, h⟩ := snAll h
  replace P9 := sp_3.mp P9
  have L : ∀ x, (nthZ zs 6) ≤ x → x < (nthZ zs 7) → (0 ≤ (nthZ zs 8) ∨ 0 ≤ (nthZ zs 9)) := by
    apply M_outO (F0 := nthF fs 0) (N0 := nthZ zs 0) (N1 := nthZ zs 1) (N2 := nthZ zs 2) (N3 := nthZ zs 3) (N4 := nthZ zs 4) (N5 := nthZ zs 5) (N6 := nthZ zs 6) (N7 := nthZ zs 7) (N8 := nthZ zs 8) (N9 := nthZ zs 9) <;> first | assumption | omega
  rcases List.mem_cons.mp hx with hx | hx
  · rw [hx]; refine s_or2.mpr ?_; exact L
  · cases hx
def q_outW : qRl := ([(2, [1, 0, 4, 5], []), (26, [1, 0, 0, 1, 2, 3], []), (3, [0, 6, 7, 8, 9], []), sp 0 [(6, (-1))], sp (-1) [(7, 1)], sp 0 [(2, 1), (5, (-1)), (8, (-1))], sp 0 [(5, 1), (3, (-1)), (9, (-1))]], [(26, [1, 1, 0, 1, 2, 3], [])])
theorem q_outW_ok : RlOk q_outW := by
  intro fs zs h x hx
  obtain ⟨P0, h⟩ := snAll h
  replace P0 := s_wr.mp P0
  obtain ⟨P1, h⟩ := snAll h
  replace P1 := s_outr.mp P1
  obtain ⟨P2, h⟩ := snAll h
  replace P2 := s_or2.mp P2
  obtain ⟨P3, h⟩ := snAll h
  replace P3 := sp_1.mp P3
  obtain ⟨P4, h⟩ := snAll h
  replace P4 := sp_1.mp P4
  obtain ⟨P5, h⟩ := snAll h
  replace P5 := sp_3.mp P5
  obtain ⟨P6, h⟩ := snAll h
  replace P6 := sp_3.mp P6
  have L : ∀ x : Int, (nthZ zs 0) ≤ x → x < (nthZ zs 1) → ((0 ≤ 0+(1)*(nthZ zs 2)+(-1)*(nthF fs 1) (x)) ∨ (0 ≤ 0+(-1)*(nthZ zs 3)+(1)*(nthF fs 1) (x))) := by
    apply M_outW (F0 := nthF fs 0) (F1 := nthF fs 1) (N0 := nthZ zs 0) (N1 := nthZ zs 1) (N2 := nthZ zs 2) (N3 := nthZ zs 3) (N4 := nthZ zs 4) (N5 := nthZ zs 5) (N6 := nthZ zs 6) (N7 := nthZ zs 7) (N8 := nthZ zs 8) (N9 := nthZ zs 9) <;> first | assumption | omega
  rcases List.mem_cons.mp hx with hx | hx
  · rw [hx]; refine s_outr.mpr ?_; exact L
  · cases hx
def q_outV : qRl := ([(2, [1, 0, 4, 5], []), (26, [1, 0, 0, 1, 2, 3], []), (26, [1, 2, 7, 8, 9, 10], []), (1, [2, 6, 5], []), sp 0 [(6, 1), (7, (-1))], sp (-1) [(8, 1), (6, (-1))], sp 0 [(2, 1), (9, (-1))], sp 0 [(10, 1), (3, (-1))]], [(26, [1, 1, 0, 1, 2, 3], [])])
theorem q_outV_ok : RlOk q_outV := by
  intro fs zs h x hx
  obtain ⟨P0, h⟩ := snAll h
  replace P0 := s_wr.mp P0
  obtain ⟨P1, h⟩ := snAll h
  replace P1 := s_outr.mp P1
  obtain ⟨P2, h⟩ := snAll h
  replace P2 := s_outr.mp P2
  obtain ⟨P3, h⟩ := snAll h
  replace P3 := s_rd.mp P3
  obtain ⟨P4, h⟩ := snAll h
  replace P4 := sp_2.mp P4
  obtain ⟨P5, h⟩ := snAll h
  replace P5 := sp_2.mp P5
  obtain ⟨P6, h⟩ := snAll h
  replace P6 := sp_2.mp P6
  obtain ⟨P7, h⟩ := snAll h
  replace P7 := sp_2.mp P7
  have L : ∀ x : Int, (nthZ zs 0) ≤ x → x < (nthZ zs 1) → ((0 ≤ 0+(1)*(nthZ zs 2)+(-1)*(nthF fs 1) (x)) ∨ (0 ≤ 0+(-1)*(nthZ zs 3)+(1)*(nthF fs 1) (x))) := by
    apply M_outV (F0 := nthF fs 0) (F1 := nthF fs 1) (F2 := nthF fs 2) (N0 := nthZ zs 0) (N1 := nthZ zs 1) (N2 := nthZ zs 2) (N3 := nthZ zs 3) (N4 := nthZ zs 4) (N5 := nthZ zs 5) (N6 := nthZ zs 6) (N7 := nthZ zs 7) (N8 := nthZ zs 8) (N9 := nthZ zs 9) (N10 := nthZ zs 10) <;> first | assumption | omega
  rcases List.mem_cons.mp hx with hx | hx
  · rw [hx]; refine s_outr.mpr ?_; exact L
  · cases hx
