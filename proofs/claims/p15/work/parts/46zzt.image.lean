theorem eKn_up {K : Int → Int} {b : Int → Bool} {n m : Nat} (h : n ≤ m) : eCn K b n ≤ eCn K b m := by
  induction m with
  | zero => rw [show n = 0 by omega]; exact Int.le_refl _
  | succ m ih =>
    by_cases c : n = m + 1
    · rw [c]; exact Int.le_refl _
    · have := ih (by omega)
      show eCn K b n ≤ eCn K b m + if b (K m) then 1 else 0
      split <;> omega
theorem eKn_ge {K : Int → Int} {b : Int → Bool} (n : Nat) : 0 ≤ eCn K b n := eKn_up (n := 0) (Nat.zero_le n)
theorem eKn_s {K : Int → Int} {i : Int} (hi : 0 ≤ i) (h : K i ≤ 4) : eCn K (fun v => decide (v ≤ 4)) (i + 1).toNat = eCn K (fun v => decide (v ≤ 4)) i.toNat + 1 := by
  rw [show (i + 1).toNat = i.toNat + 1 by omega]
  show eCn K _ i.toNat + (if decide (K i.toNat ≤ 4) then 1 else 0) = _
  rw [show (i.toNat : Int) = i by omega, if_pos (by simpa using h)]
/-- one more item, which has no address -/
theorem eImc_sk {A B E O K N I : Int → Int} {u i m : Int} (h : eImc A B E O K N I u i m) (h1 : ∀ v : Int, 0 ≤ v → v < u → I v ≤ i → i < I (v + 1) → (K i = 3 ∨ K i = 4) → E i = 0 → 1 ≤ N (4*v) → False) : eImc A B E O K N I u (i + 1) m := by
  obtain ⟨⟨a, b⟩, c, d, e⟩ := h
  have := eKn_up (K := K) (b := fun v => decide (v ≤ 4)) (n := i.toNat) (m := (i + 1).toNat) (by omega)
  refine ⟨⟨a, by omega⟩, c, fun x p q => ?_, fun v j p q r s t w y z => ?_⟩
  · obtain ⟨v, j, g1, g2, g3, g4, g5, g6⟩ := d x p q
    exact ⟨v, j, g1, g2, g3, g4, by omega, g6⟩
  · by_cases k : j = i
    · subst k; exact (h1 v p q r s w y z).elim
    · exact e v j p q r s (by omega) w y z
theorem eIv {I : Int → Int} {u v w i : Int} (h : ∀ v x : Int, 0 ≤ v → v ≤ x → x ≤ u → I v ≤ I x) (a : 0 ≤ v) (b : v < u) (c : 0 ≤ w) (d : w < u) (p : I v ≤ i) (q : i < I (v + 1)) (r : I w ≤ i) (s : i < I (w + 1)) : v = w := by
  by_cases k : v < w
  · have := h (v + 1) w (by omega) (by omega) (by omega); omega
  · by_cases l : w < v
    · have := h (w + 1) v (by omega) (by omega) (by omega); omega
    · omega
/-- one more item, whose address is written behind the others -/
theorem eImc_add {A A' B E O K N I Z S : Int → Int} {u i m w x : Int} (h : eImc A B E O K N I u i m) (hi : 0 ≤ i) (hA : ∀ y : Int, A' y = if y = m then x else A y)
    (c6 : ∀ v x : Int, 0 ≤ v → v ≤ x → x ≤ u → I v ≤ I x)
    (c7 : ∀ v i : Int, 0 ≤ v → v < u → I v ≤ i → i < I (v + 1) → 0 ≤ E i ∧ E i ≤ 3 ∧ 0 ≤ O i ∧ 0 ≤ Z i ∧ O i + Z i ≤ S (4*v + E i) ∧ (K i = 3 ∨ K i = 4 → 1 ≤ Z i))
    (c8 : ∀ v i j : Int, 0 ≤ v → v < u → I v ≤ i → i < j → j < I (v + 1) → E i = E j → O i + Z i ≤ O j)
    (hw : 0 ≤ w) (hwu : w < u) (h1 : I w ≤ i) (h2 : i < I (w + 1)) (hE : E i = 0) (hK : K i = 3 ∨ K i = 4) (hN : 1 ≤ N (4*w)) (ho : eOdf B N S u) (hx : x = B (4*w) + O i) : eImc A' B E O K N I u (i + 1) (m + 1) := by
  obtain ⟨⟨a, b⟩, c, d, e⟩ := h
  have k := eKn_s (K := K) hi (by omega)
  have g7 := c7 w i hw hwu h1 h2
  have lt : ∀ y : Int, 0 ≤ y → y < m → A y < x := by
    intro y p q
    obtain ⟨v, j, r1, r2, r3, r4, r5, r6, r7, r8, r9⟩ := d y p q
    have gj := c7 v j r1 r2 r3 r4
    have gz := gj.2.2.2.2.2 r6
    by_cases e1 : v = w
    · subst e1
      have := c8 v j i r1 r2 r3 r5 h2 (by omega)
      omega
    · have e2 : v < w := by
        apply Classical.byContradiction
        intro e2
        have := c6 (w + 1) v (by omega) (by omega) (by omega)
        omega
      have := ho v w r1 e2 hwu r8 hN
      rw [r7, Int.add_zero] at gj
      omega
  refine ⟨⟨by omega, by omega⟩, fun y z p q r => ?_, fun y p q => ?_, fun v j p q r s t w2 y z => ?_⟩
  · rw [hA y, hA z, if_neg (by omega)]
    by_cases f : z = m
    · rw [if_pos f]; exact lt y p (by omega)
    · rw [if_neg f]; exact c y z p q (by omega)
  · by_cases f : y = m
    · rw [hA y, if_pos f]; exact ⟨w, i, hw, hwu, h1, h2, by omega, hK, hE, hN, hx⟩
    · rw [hA y, if_neg f]
      obtain ⟨v, j, g1, g2, g3, g4, g5, g6⟩ := d y p (by omega)
      exact ⟨v, j, g1, g2, g3, g4, by omega, g6⟩
  · by_cases f : j = i
    · subst f
      have e1 := eIv c6 p q hw hwu r s h1 h2
      subst e1
      exact ⟨m, by omega, by omega, by rw [hA m, if_pos rfl]; exact hx⟩
    · obtain ⟨y2, g1, g2, g3⟩ := e v j p q r s (by omega) w2 y z
      exact ⟨y2, g1, by omega, by rw [hA y2, if_neg (by omega)]; exact g3⟩
theorem M_cuX0 {F0 F1 F2 F3 F4 : Int → Int} {N0 N1 N2 N3 N4 N5 N6 N7 N8 N9 N10 N11 N12 N13 N14 N15 N16 N17 N18 N19 N20 N21 N22 : Int} (H0 : eCur (F0) (F1) (F2) (F3) (F4) (N0) (N1) (N6) (N3) (N21) (N22)) (H1 : N21 ≤ N4) (H2 : N22 ≤ N5) (H3 : N6 = N2 + -1) (H4 : ∀ x : Int, N9 ≤ x → x < N10 → ((0 ≤ 0+(-1)*N11+(1)*F0 (x)))) (H5 : N9 ≤ N6) (H6 : N6 + 1 ≤ N10) (H7 : ∀ x, N12 ≤ x → x < N13 → (F0 x ≤ N14)) (H8 : N12 ≤ N6) (H9 : N6 + 1 ≤ N13) (H10 : N14 ≤ 2) : eCur (F0) (F1) (F2) (F3) (F4) (N0) (N1) (N2) (N3) (N4) (N5) := by
  rcases H0 with h | h | ⟨a, b, c⟩
  · exact Or.inl (by omega)
  · exact Or.inr (Or.inl (by omega))
  refine Or.inr (Or.inr ⟨fun i p q => ?_, b, fun i p q => ?_⟩)
  · obtain ⟨⟨x1, x2, x3⟩, x4⟩ := a i p q
    exact ⟨⟨x1, by omega, x3⟩, x4⟩
  · by_cases k : i = N6
    · rw [k]; have u := H7 N6 (by omega) (by omega); have v := H4 N6 (by omega) (by omega); omega
    · exact c i p (by omega)
theorem M_cuX1 {F0 F1 F2 F3 F4 : Int → Int} {N0 N1 N2 N3 N4 N5 N6 N7 N8 N9 N10 N11 N12 N13 N14 N15 N16 N17 N18 N19 N20 N21 N22 : Int} (H0 : eCur (F0) (F1) (F2) (F3) (F4) (N0) (N1) (N6) (N3) (N21) (N22)) (H1 : N21 ≤ N4) (H2 : N22 ≤ N5) (H3 : N6 = N2 + -1) (H4 : ∀ x : Int, N9 ≤ x → x < N10 → ((0 ≤ 0+(-1)*N11+(1)*F0 (x)))) (H5 : N9 ≤ N6) (H6 : N6 + 1 ≤ N10) (H7 : ∀ x, N12 ≤ x → x < N13 → (F0 x ≤ N14)) (H8 : N12 ≤ N6) (H9 : N6 + 1 ≤ N13) (H10 : 3 ≤ N11) (H11 : N14 ≤ 3) (H12 : F1 N6 = N8) (H13 : 1 ≤ N8) : eCur (F0) (F1) (F2) (F3) (F4) (N0) (N1) (N2) (N3) (N4) (N5) := by
  rcases H0 with h | h | ⟨a, b, c⟩
  · exact Or.inl (by omega)
  · exact Or.inr (Or.inl (by omega))
  refine Or.inr (Or.inr ⟨fun i p q => ?_, b, fun i p q => ?_⟩)
  · obtain ⟨⟨x1, x2, x3⟩, x4⟩ := a i p q
    exact ⟨⟨x1, by omega, x3⟩, x4⟩
  · by_cases k : i = N6
    · rw [k]; have u := H7 N6 (by omega) (by omega); have v := H4 N6 (by omega) (by omega); omega
    · exact c i p (by omega)
theorem M_cuX2 {F0 F1 F2 F3 F4 : Int → Int} {N0 N1 N2 N3 N4 N5 N6 N7 N8 N9 N10 N11 N12 N13 N14 N15 N16 N17 N18 N19 N20 N21 N22 : Int} (H0 : eCur (F0) (F1) (F2) (F3) (F4) (N0) (N1) (N6) (N3) (N21) (N22)) (H1 : N21 ≤ N4) (H2 : N22 ≤ N5) (H3 : N6 = N2 + -1) (H4 : ∀ x : Int, N9 ≤ x → x < N10 → ((0 ≤ 0+(-1)*N11+(1)*F0 (x)))) (H5 : N9 ≤ N6) (H6 : N6 + 1 ≤ N10) (H7 : ∀ x, N12 ≤ x → x < N13 → (F0 x ≤ N14)) (H8 : N12 ≤ N6) (H9 : N6 + 1 ≤ N13) (H10 : 4 ≤ N11) (H11 : N14 ≤ 4) (H12 : F1 N6 = N8) (H13 : 5 ≤ N8) : eCur (F0) (F1) (F2) (F3) (F4) (N0) (N1) (N2) (N3) (N4) (N5) := by
  rcases H0 with h | h | ⟨a, b, c⟩
  · exact Or.inl (by omega)
  · exact Or.inr (Or.inl (by omega))
  refine Or.inr (Or.inr ⟨fun i p q => ?_, b, fun i p q => ?_⟩)
  · obtain ⟨⟨x1, x2, x3⟩, x4⟩ := a i p q
    exact ⟨⟨x1, by omega, x3⟩, x4⟩
  · by_cases k : i = N6
    · rw [k]; have u := H7 N6 (by omega) (by omega); have v := H4 N6 (by omega) (by omega); omega
    · exact c i p (by omega)
theorem M_cuX3 {F0 F1 F2 F3 F4 : Int → Int} {N0 N1 N2 N3 N4 N5 N6 N7 N8 N9 N10 N11 N12 N13 N14 N15 N16 N17 N18 N19 N20 N21 N22 : Int} (H0 : eCur (F0) (F1) (F2) (F3) (F4) (N0) (N1) (N6) (N3) (N21) (N22)) (H1 : N21 ≤ N4) (H2 : N22 ≤ N5) (H3 : N6 = N2 + -1) (H4 : ∀ x : Int, N9 ≤ x → x < N10 → ((0 ≤ 0+(-1)*N11+(1)*F0 (x)))) (H5 : N9 ≤ N6) (H6 : N6 + 1 ≤ N10) (H7 : ∀ x, N12 ≤ x → x < N13 → (F0 x ≤ N14)) (H8 : N12 ≤ N6) (H9 : N6 + 1 ≤ N13) (H10 : 5 ≤ N11) (H11 : ∀ x : Int, N15 ≤ x → x < N16 → ((0 ≤ 0+(-1)*N17+(1)*F1 (x)))) (H12 : N15 ≤ N6) (H13 : N6 + 1 ≤ N16) (H14 : 0 ≤ N17) (H15 : ∀ x, N18 ≤ x → x < N19 → (F1 x ≤ N20)) (H16 : N18 ≤ N6) (H17 : N6 + 1 ≤ N19) (H18 : N20 ≤ 0) : eCur (F0) (F1) (F2) (F3) (F4) (N0) (N1) (N2) (N3) (N4) (N5) := by
  rcases H0 with h | h | ⟨a, b, c⟩
  · exact Or.inl (by omega)
  · exact Or.inr (Or.inl (by omega))
  refine Or.inr (Or.inr ⟨fun i p q => ?_, b, fun i p q => ?_⟩)
  · obtain ⟨⟨x1, x2, x3⟩, x4⟩ := a i p q
    exact ⟨⟨x1, by omega, x3⟩, x4⟩
  · by_cases k : i = N6
    · rw [k]; have u := H7 N6 (by omega) (by omega); have v := H4 N6 (by omega) (by omega); have s := H11 N6 (by omega) (by omega); have t := H15 N6 (by omega) (by omega); omega
    · exact c i p (by omega)
theorem M_rdK0 {F0 F1 F2 : Int → Int} {N0 N1 N2 N3 N4 N5 N6 N7 N8 N9 N10 N11 N12 N13 N14 N15 N16 N17 N18 N19 N20 N21 N22 N23 : Int} (H0 : ∀ x : Int, N15 ≤ x → x < N16 → ((0 ≤ 0+(-1)*N17+(1)*F0 (x)))) (H1 : N15 ≤ N4) (H2 : N4 + 1 ≤ N16) (H3 : 0 ≤ N17) (H4 : ∀ x, N18 ≤ x → x < N19 → (F0 x ≤ N20)) (H5 : N18 ≤ N4) (H6 : N4 + 1 ≤ N19) (H7 : N20 ≤ 0) (H8 : N0 ≤ N4) (H9 : N4 + 1 ≤ N2) (H10 : 0 ≤ N5) (H11 : 0 ≤ N6) (H12 : ∀ x : Int, N21 ≤ x → x < N22 → ((0 ≤ 0+(-1)*N23+(1)*F1 (x)))) (H13 : N21 ≤ N4) (H14 : N4 + 1 ≤ N22) (H15 : N5 + N6 ≤ N23) (H16 : ∀ x : Int, N10 ≤ x → x < N11 → ((0 ≤ 0+(1)*N12+(-1)*F2 (x)) ∨ (0 ≤ 0+(1)*N13) ∨ (0 ≤ 0+(1)*N14))) (H17 : N13 + 1 ≤ 0) (H18 : N14 + 1 ≤ 0) (H19 : N10 ≤ N1) (H20 : N3 ≤ N11) (H21 : N12 ≤ N4) : eRdy (F0) (F1) (F2) (N0) (N1) (N2) (N3) (N4) (N5) (N6) (N7) (N8) := by
  have z := H12 N4 H13 (by omega)
  have k1 := H0 N4 H1 (by omega)
  have k2 := H4 N4 H5 (by omega)
  exact Or.inr (Or.inr ⟨H8, by omega, H10, by omega, by omega, by omega, fun v a b => by have := H16 v (by omega) (by omega); omega⟩)
theorem M_rdK3 {F0 F1 F2 : Int → Int} {N0 N1 N2 N3 N4 N5 N6 N7 N8 N9 N10 N11 N12 N13 N14 N15 N16 N17 N18 N19 N20 N21 N22 N23 : Int} (H0 : ∀ x : Int, N15 ≤ x → x < N16 → ((0 ≤ 0+(-1)*N17+(1)*F0 (x)))) (H1 : N15 ≤ N4) (H2 : N4 + 1 ≤ N16) (H3 : 3 ≤ N17) (H4 : ∀ x, N18 ≤ x → x < N19 → (F0 x ≤ N20)) (H5 : N18 ≤ N4) (H6 : N4 + 1 ≤ N19) (H7 : N20 ≤ 3) (H8 : N0 ≤ N4) (H9 : N4 + 1 ≤ N2) (H10 : 0 ≤ N5) (H11 : 0 ≤ N6) (H12 : ∀ x : Int, N21 ≤ x → x < N22 → ((0 ≤ 0+(-1)*N23+(1)*F1 (x)))) (H13 : N21 ≤ N4) (H14 : N4 + 1 ≤ N22) (H15 : N5 + N6 ≤ N23) (H16 : ∀ x : Int, N10 ≤ x → x < N11 → ((0 ≤ 0+(1)*N12+(-1)*F2 (x)) ∨ (0 ≤ 0+(1)*N13) ∨ (0 ≤ 0+(1)*N14))) (H17 : N13 + 1 ≤ 0) (H18 : N14 + 1 ≤ 0) (H19 : N10 ≤ N1) (H20 : N3 ≤ N11) (H21 : N12 ≤ N4) : eRdy (F0) (F1) (F2) (N0) (N1) (N2) (N3) (N4) (N5) (N6) (N7) (N8) := by
  have z := H12 N4 H13 (by omega)
  have k1 := H0 N4 H1 (by omega)
  have k2 := H4 N4 H5 (by omega)
  exact Or.inr (Or.inr ⟨H8, by omega, H10, by omega, by omega, by omega, fun v a b => by have := H16 v (by omega) (by omega); omega⟩)
theorem M_rdK4 {F0 F1 F2 : Int → Int} {N0 N1 N2 N3 N4 N5 N6 N7 N8 N9 N10 N11 N12 N13 N14 N15 N16 N17 N18 N19 N20 N21 N22 N23 : Int} (H0 : ∀ x : Int, N15 ≤ x → x < N16 → ((0 ≤ 0+(-1)*N17+(1)*F0 (x)))) (H1 : N15 ≤ N4) (H2 : N4 + 1 ≤ N16) (H3 : 4 ≤ N17) (H4 : ∀ x, N18 ≤ x → x < N19 → (F0 x ≤ N20)) (H5 : N18 ≤ N4) (H6 : N4 + 1 ≤ N19) (H7 : N20 ≤ 4) (H8 : N0 ≤ N4) (H9 : N4 + 1 ≤ N2) (H10 : 0 ≤ N5) (H11 : N6 = 4) (H12 : ∀ x : Int, N21 ≤ x → x < N22 → ((0 ≤ 0+(-1)*N23+(1)*F1 (x)))) (H13 : N21 ≤ N4) (H14 : N4 + 1 ≤ N22) (H15 : N5 + N6 ≤ N23) (H16 : ∀ x : Int, N10 ≤ x → x < N11 → ((0 ≤ 0+(1)*N12+(-1)*F2 (x)) ∨ (0 ≤ 0+(1)*N13) ∨ (0 ≤ 0+(1)*N14))) (H17 : N13 + 1 ≤ 0) (H18 : N14 + 1 ≤ 0) (H19 : N10 ≤ N1) (H20 : N3 ≤ N11) (H21 : N12 + 1 ≤ N4) : eRdy (F0) (F1) (F2) (N0) (N1) (N2) (N3) (N4) (N5) (N6) (N7) (N8) := by
  have z := H12 N4 H13 (by omega)
  have k1 := H0 N4 H1 (by omega)
  have k2 := H4 N4 H5 (by omega)
  exact Or.inr (Or.inr ⟨H8, by omega, H10, by omega, by omega, by omega, fun v a b => by have := H16 v (by omega) (by omega); omega⟩)
theorem M_leY {F0 F1 F2 F3 : Int → Int} {N0 N1 N2 N3 N4 N5 N6 N7 N8 N9 N10 N11 N12 N13 N14 N15 N16 N17 N18 N19 : Int} (H0 : ∀ x : Int, F1 x = if x = N5 then N6 else F0 x) (H1 : N7 = N1 + -1) (H2 : N7 = N5) (H3 : ∀ x : Int, N0 ≤ x → x < N7 → ((0 ≤ 0+(1)*N8+(-1)*F0 (x)) ∨ (0 ≤ 0+(1)*N9) ∨ (0 ≤ 0+(1)*N10))) (H4 : N8 ≤ N2) (H5 : N9 ≤ N3) (H6 : N10 ≤ N4) (H7 : eRdy (F2) (F3) (F0) (N11) (N12) (N13) (N14) (N15) (N16) (N17) (N18) (N19)) (H8 : N15 = N6) (H9 : N13 ≤ N2 + 1) (H10 : N18 ≤ N3) (H11 : N19 ≤ N4) : ∀ x : Int, N0 ≤ x → x < N1 → ((0 ≤ 0+(1)*N2+(-1)*F1 (x)) ∨ (0 ≤ 0+(1)*N3) ∨ (0 ≤ 0+(1)*N4)) := by
  intro x a b
  rw [H0 x]
  by_cases c : x = N5
  · rw [if_pos c]
    rcases H7 with h | h | ⟨h1, h2, -⟩ <;> omega
  · rw [if_neg c]; have := H3 x a (by omega); omega
theorem M_ooX {F0 F1 : Int → Int} {N0 N1 N2 N3 N4 N5 N6 N7 N8 N9 N10 N11 N12 N13 N14 : Int} (H0 : ∀ x : Int, F1 x = if x = N5 then N6 else F0 x) (H1 : N7 = N1 + -1) (H2 : N7 = N5) (H3 : ∀ x : Int, N0 ≤ x → x < N7 → ((0 ≤ 0+(1)*N8+(-1)*F0 (x)) ∨ (0 ≤ 0+(-1)*N9+(1)*F0 (x)) ∨ (0 ≤ 0+(1)*N10))) (H4 : N8 ≤ N2) (H5 : N3 ≤ N9) (H6 : N10 ≤ N4) (H7 : ∀ x, N11 ≤ x → x < N12 → (0 ≤ N13 ∨ 0 ≤ N14)) (H8 : N11 ≤ 0) (H9 : 1 ≤ N12) (H10 : N6 + N13 ≤ N2) (H11 : N3 + N14 ≤ N6) : ∀ x : Int, N0 ≤ x → x < N1 → ((0 ≤ 0+(1)*N2+(-1)*F1 (x)) ∨ (0 ≤ 0+(-1)*N3+(1)*F1 (x)) ∨ (0 ≤ 0+(1)*N4)) := by
  intro x a b
  rw [H0 x]
  by_cases c : x = N5
  · rw [if_pos c]; have := H7 0 (by omega) (by omega); omega
  · rw [if_neg c]; have := H3 x a (by omega); omega
theorem M_ouX {F0 F1 : Int → Int} {N0 N1 N2 N3 N4 N5 N6 N7 N8 N9 N10 N11 N12 N13 N14 : Int} (H0 : ∀ x : Int, F1 x = if x = N5 then N6 else F0 x) (H1 : N7 = N1 + -1) (H2 : N7 = N5) (H3 : ∀ x : Int, N0 ≤ x → x < N7 → ((0 ≤ 0+(1)*N8+(-1)*F0 (x)) ∨ (0 ≤ 0+(-1)*N9+(1)*F0 (x)))) (H4 : N8 ≤ N2) (H5 : N3 ≤ N9) (H6 : ∀ x, N11 ≤ x → x < N12 → (0 ≤ N13 ∨ 0 ≤ N14)) (H7 : N11 ≤ 0) (H8 : 1 ≤ N12) (H9 : N6 + N13 ≤ N2) (H10 : N3 + N14 ≤ N6) : ∀ x : Int, N0 ≤ x → x < N1 → ((0 ≤ 0+(1)*N2+(-1)*F1 (x)) ∨ (0 ≤ 0+(-1)*N3+(1)*F1 (x))) := by
  intro x a b
  rw [H0 x]
  by_cases c : x = N5
  · rw [if_pos c]; have := H6 0 (by omega) (by omega); omega
  · rw [if_neg c]; have := H3 x a (by omega); omega
theorem M_tk1b {F0 F1 F2 F3 F4 F5 F6 : Int → Int} {N0 N1 N2 N3 N4 N5 N6 N7 N8 N9 N10 N11 N12 N13 : Int} (H0 : ∀ x : Int, N8 ≤ x → x < N9 → (46 ≤ F1 (F3 x) ∨ 0 ≤ N10)) (H1 : N8 ≤ N0) (H2 : N0 + 1 ≤ N9) (H3 : N10 + 1 ≤ 0) (H4 : ∀ x : Int, N11 ≤ x → x < N12 → (F1 (F3 x) ≤ 46 ∨ 0 ≤ N13)) (H5 : N11 ≤ N0) (H6 : N0 + 1 ≤ N12) (H7 : N13 + 1 ≤ 0) (H8 : 0 ≤ N1) (H9 : F5 N1 = N6) (H10 : N6 = N2) (H11 : ePlx (F0) (F2) (F6) (N1) (N7)) (H12 : N2 ≤ N7) (H13 : N3 = 0) : eTkp (F0) (F1) (F2) (F3) (F4) (F5) (F6) (N0) (N1) (N2) (N3) := by
  have q := H0 N0 H1 (by omega)
  have r := H4 N0 H5 (by omega)
  exact ⟨Or.inl ⟨by omega, H8, by omega⟩, fun j a b => H11 j a (by omega), fun j a b => by omega⟩
theorem M_s1L {F0 F1 F2 F3 F4 F5 F6 : Int → Int} {N0 N1 N2 N3 N4 N5 N6 : Int} (H0 : eSh1 (F0) (F1) (F2) (F3) (F4) (F5) (F6) (N3) (N4) (N5) (N6)) (H1 : N3 ≤ N0) (H2 : N1 ≤ N5) : ∀ x : Int, N0 ≤ x → x < N1 → ((0 ≤ 4+(-1)*F0 (x)) ∨ (0 ≤ 0+(-1)*F1 (x))) := by
  intro x a b
  have := (H0.2.2 x (by omega) (by omega)).2.1
  omega
theorem M_lpX0 {F0 F1 F2 F3 : Int → Int} {N0 N1 N2 N3 N4 N5 N6 N7 N8 N9 N10 N11 N12 : Int} (H0 : N6 = N1 + -1) (H1 : N0 ≤ N6) (H2 : eLayp (F0) (F1) (F2) (F3) (N0) (N6) (N12) (N3) (N4) (N5)) (H3 : F1 N6 = N8) (H4 : N8 = 0) (H5 : F2 N6 = N9) (H6 : 0 ≤ N9) (H7 : F3 N6 = N7) (H8 : 0 ≤ N7) (H9 : N12 = N7) (H10 : N9 = N2 + -1 * N7) (H11 : ∀ x : Int, N10 ≤ x → x < N11 → ((0 ≤ 4+(-1)*F0 (x)) ∨ (0 ≤ 0+(-1)*F2 (x)))) (H12 : N10 ≤ N6) (H13 : N6 + 1 ≤ N11) : eLayp (F0) (F1) (F2) (F3) (N0) (N1) (N2) (N3) (N4) (N5) := by
  obtain ⟨a, b, c, d⟩ := H2
  have z := H11 N6 H12 (by omega)
  refine ⟨by omega, fun j p q => ?_, fun j k p q r s => ?_, fun h => ?_⟩
  · by_cases e : j = N6
    · rw [e, H3, H4, H5, H7]
      refine ⟨by omega, by omega, H8, H6, ?_⟩
      show N7 + N9 ≤ N2
      omega
    · have f := b j p (by omega)
      refine ⟨f.1, f.2.1, f.2.2.1, f.2.2.2.1, Int.le_trans f.2.2.2.2 ?_⟩
      unfold ePl
      repeat split
      all_goals omega
  · by_cases e : k = N6
    · have f := (b j p (by omega)).2.2.2.2
      rw [e, H3, H4] at s
      rw [s] at f
      have f : F3 j + F2 j ≤ N12 := f
      rw [e, H7]; omega
    · exact c j k p q (by omega) s
  · have f := d (fun j x y => h j x (by omega))
    have g := h N6 H1 (by omega)
    omega
theorem M_lpX1 {F0 F1 F2 F3 : Int → Int} {N0 N1 N2 N3 N4 N5 N6 N7 N8 N9 N10 N11 N12 N13 : Int} (H0 : N6 = N1 + -1) (H1 : N0 ≤ N6) (H2 : eLayp (F0) (F1) (F2) (F3) (N0) (N6) (N2) (N13) (N4) (N5)) (H3 : F1 N6 = N8) (H4 : N8 = 1) (H5 : F2 N6 = N9) (H6 : 0 ≤ N9) (H7 : F3 N6 = N7) (H8 : 0 ≤ N7) (H9 : N13 = N7) (H10 : N9 = N3 + -1 * N7) (H11 : ∀ x : Int, N10 ≤ x → x < N11 → ((0 ≤ 4+(-1)*F0 (x)) ∨ (0 ≤ 0+(-1)*F2 (x)))) (H12 : N10 ≤ N6) (H13 : N6 + 1 ≤ N11) : eLayp (F0) (F1) (F2) (F3) (N0) (N1) (N2) (N3) (N4) (N5) := by
  obtain ⟨a, b, c, d⟩ := H2
  have z := H11 N6 H12 (by omega)
  refine ⟨by omega, fun j p q => ?_, fun j k p q r s => ?_, fun h => ?_⟩
  · by_cases e : j = N6
    · rw [e, H3, H4, H5, H7]
      refine ⟨by omega, by omega, H8, H6, ?_⟩
      show N7 + N9 ≤ N3
      omega
    · have f := b j p (by omega)
      refine ⟨f.1, f.2.1, f.2.2.1, f.2.2.2.1, Int.le_trans f.2.2.2.2 ?_⟩
      unfold ePl
      repeat split
      all_goals omega
  · by_cases e : k = N6
    · have f := (b j p (by omega)).2.2.2.2
      rw [e, H3, H4] at s
      rw [s] at f
      have f : F3 j + F2 j ≤ N13 := f
      rw [e, H7]; omega
    · exact c j k p q (by omega) s
  · have f := d (fun j x y => h j x (by omega))
    have g := h N6 H1 (by omega)
    omega
theorem M_lpX2 {F0 F1 F2 F3 : Int → Int} {N0 N1 N2 N3 N4 N5 N6 N7 N8 N9 N10 N11 N12 N13 N14 : Int} (H0 : N6 = N1 + -1) (H1 : N0 ≤ N6) (H2 : eLayp (F0) (F1) (F2) (F3) (N0) (N6) (N2) (N3) (N14) (N5)) (H3 : F1 N6 = N8) (H4 : N8 = 2) (H5 : F2 N6 = N9) (H6 : 0 ≤ N9) (H7 : F3 N6 = N7) (H8 : 0 ≤ N7) (H9 : N14 = N7) (H10 : N9 = N4 + -1 * N7) (H11 : ∀ x : Int, N10 ≤ x → x < N11 → ((0 ≤ 4+(-1)*F0 (x)) ∨ (0 ≤ 0+(-1)*F2 (x)))) (H12 : N10 ≤ N6) (H13 : N6 + 1 ≤ N11) : eLayp (F0) (F1) (F2) (F3) (N0) (N1) (N2) (N3) (N4) (N5) := by
  obtain ⟨a, b, c, d⟩ := H2
  have z := H11 N6 H12 (by omega)
  refine ⟨by omega, fun j p q => ?_, fun j k p q r s => ?_, fun h => ?_⟩
  · by_cases e : j = N6
    · rw [e, H3, H4, H5, H7]
      refine ⟨by omega, by omega, H8, H6, ?_⟩
      show N7 + N9 ≤ N4
      omega
    · have f := b j p (by omega)
      refine ⟨f.1, f.2.1, f.2.2.1, f.2.2.2.1, Int.le_trans f.2.2.2.2 ?_⟩
      unfold ePl
      repeat split
      all_goals omega
  · by_cases e : k = N6
    · have f := (b j p (by omega)).2.2.2.2
      rw [e, H3, H4] at s
      rw [s] at f
      have f : F3 j + F2 j ≤ N14 := f
      rw [e, H7]; omega
    · exact c j k p q (by omega) s
  · have f := d (fun j x y => h j x (by omega))
    have g := h N6 H1 (by omega)
    omega
theorem M_lpX3 {F0 F1 F2 F3 : Int → Int} {N0 N1 N2 N3 N4 N5 N6 N7 N8 N9 N10 N11 N12 N13 N14 N15 : Int} (H0 : N6 = N1 + -1) (H1 : N0 ≤ N6) (H2 : eLayp (F0) (F1) (F2) (F3) (N0) (N6) (N2) (N3) (N4) (N15)) (H3 : F1 N6 = N8) (H4 : N8 = 3) (H5 : F2 N6 = N9) (H6 : 0 ≤ N9) (H7 : F3 N6 = N7) (H8 : 0 ≤ N7) (H9 : N15 = N7) (H10 : N9 = N5 + -1 * N7) (H11 : ∀ x : Int, N10 ≤ x → x < N11 → ((0 ≤ 4+(-1)*F0 (x)) ∨ (0 ≤ 0+(-1)*F2 (x)))) (H12 : N10 ≤ N6) (H13 : N6 + 1 ≤ N11) : eLayp (F0) (F1) (F2) (F3) (N0) (N1) (N2) (N3) (N4) (N5) := by
  obtain ⟨a, b, c, d⟩ := H2
  have z := H11 N6 H12 (by omega)
  refine ⟨by omega, fun j p q => ?_, fun j k p q r s => ?_, fun h => ?_⟩
  · by_cases e : j = N6
    · rw [e, H3, H4, H5, H7]
      refine ⟨by omega, by omega, H8, H6, ?_⟩
      show N7 + N9 ≤ N5
      omega
    · have f := b j p (by omega)
      refine ⟨f.1, f.2.1, f.2.2.1, f.2.2.2.1, Int.le_trans f.2.2.2.2 ?_⟩
      unfold ePl
      repeat split
      all_goals omega
  · by_cases e : k = N6
    · have f := (b j p (by omega)).2.2.2.2
      rw [e, H3, H4] at s
      rw [s] at f
      have f : F3 j + F2 j ≤ N15 := f
      rw [e, H7]; omega
    · exact c j k p q (by omega) s
  · have f := d (fun j x y => h j x (by omega))
    have g := h N6 H1 (by omega)
    omega
theorem M_lyM {F0 F1 F2 F3 F4 : Int → Int} {N0 N1 N2 N3 N4 N5 N6 N7 N8 N9 N10 : Int} (H0 : eLay (F0) (F1) (F2) (F3) (F4) (N4) (N5) (N6) (N7)) (H1 : N7 ≤ 0) (H2 : ∀ x : Int, N8 ≤ x → x < N9 → ((0 ≤ -5+(1)*F0 (x)) ∨ (0 ≤ 65536+(-1)*F3 (x)+(-1)*F2 (x)) ∨ (0 ≤ -1+(1)*N10))) (H3 : N10 ≤ N3 + 1) (H4 : N8 ≤ N4) (H5 : N5 ≤ N9) (H6 : 4 * N6 ≤ N0) (H7 : N1 ≤ 4 * N6 + 4) (H8 : 65536 ≤ N2) : ∀ x, N0 ≤ x → x < N1 → (F4 x ≤ N2 ∨ 0 ≤ N3) := by
  intro x a b
  by_cases s : 0 ≤ N3
  · exact Or.inr s
  rcases H0 with h | ⟨l1, l2, l3, l4⟩
  · omega
  have q := l3 (fun j x y => by have := H2 j (by omega) (by omega); omega) (x - 4*N6) (by omega) (by omega)
  rw [show 4*N6 + (x - 4*N6) = x by omega] at q
  left; omega
theorem M_cmC {F0 F1 F2 F3 F4 F5 F6 F7 F8 F9 F10 F11 F12 F13 F14 F15 F16 F17 : Int → Int} {N0 N1 N2 N3 N4 N5 N6 N7 N8 N9 N10 N11 N12 N13 N14 N15 N16 N17 N18 N19 N20 N21 N22 N23 N24 N25 N26 N27 N28 N29 N30 N31 N32 N33 N34 N35 N36 N37 N38 N39 N40 N41 N42 N43 N44 N45 N46 : Int} (H0 : ∀ x : Int, F14 x = if x = N5 then N6 else F11 x) (H1 : ∀ x : Int, F15 x = if x = N7 then N8 else F12 x) (H2 : N5 = N3) (H3 : N6 = N0) (H4 : N7 = N3) (H5 : N8 = N1) (H6 : eCmt (F0) (F1) (F2) (F3) (F4) (F5) (F6) (F7) (F8) (F9) (F10) (F11) (F12) (F13) (N10) (N11) (N12) (N13)) (H7 : N13 = N3 + -1) (H8 : N12 ≤ N2) (H9 : 0 ≤ N13) (H10 : N10 ≤ N0) (H11 : N11 ≤ N1) (H12 : eFin (F0) (F2) (F5) (F6) (F7) (F4) (F8) (F10) (N10) (N11) (N0) (N1) (N15)) (H13 : N15 ≤ 0) (H14 : eLay (F0) (F1) (F2) (F3) (F13) (N10) (N0) (N46) (N16)) (H15 : N16 ≤ 0) (H16 : N46 = N13) (H17 : eSpc (F8) (F9) (F16) (F17) (N11) (N1) (N17) (N18)) (H18 : N18 + 1 ≤ 0) (H19 : eSpk (F16) (F17) (F10) (N17) (N19)) (H20 : N19 ≤ 0) (H21 : ∀ x, N20 ≤ x → x < N21 → (F11 x ≤ N22)) (H22 : N20 ≤ N13) (H23 : N13 + 1 ≤ N21) (H24 : N22 ≤ N10) (H25 : ∀ x : Int, N23 ≤ x → x < N24 → ((0 ≤ 0+(-1)*N25+(1)*F11 (x)))) (H26 : N23 ≤ N13) (H27 : N13 + 1 ≤ N24) (H28 : N10 ≤ N25) (H29 : ∀ x, N26 ≤ x → x < N27 → (F12 x ≤ N28)) (H30 : N26 ≤ N13) (H31 : N13 + 1 ≤ N27) (H32 : N28 ≤ N11) (H33 : ∀ x : Int, N29 ≤ x → x < N30 → ((0 ≤ 0+(-1)*N31+(1)*F12 (x)))) (H34 : N29 ≤ N13) (H35 : N13 + 1 ≤ N30) (H36 : N11 ≤ N31) (H37 : ∀ x : Int, N32 ≤ x → x < N33 → ((0 ≤ 0+(1)*N34+(-1)*F8 (x)) ∨ (0 ≤ 0+(-1)*N35+(1)*F8 (x)) ∨ (0 ≤ 0+(1)*N43))) (H38 : N43 + 1 ≤ 0) (H39 : N32 ≤ N11) (H40 : N1 ≤ N33) (H41 : N34 + 1 ≤ N2) (H42 : 1048576 ≤ N35) (H43 : ∀ x : Int, N36 ≤ x → x < N37 → ((0 ≤ 0+(1)*N38+(-1)*F9 (x)) ∨ (0 ≤ 0+(-1)*N39+(1)*F9 (x)) ∨ (0 ≤ 0+(1)*N44))) (H44 : N44 + 1 ≤ 0) (H45 : N36 ≤ N11) (H46 : N1 ≤ N37) (H47 : N38 + 1 ≤ N2) (H48 : 1048576 ≤ N39) (H49 : ∀ x, N40 ≤ x → x < N41 → (F13 x ≤ N42 ∨ 0 ≤ N45)) (H50 : N45 + 1 ≤ 0) (H51 : N40 ≤ 4 * N13) (H52 : 4 * N13 + 4 ≤ N41) (H53 : N42 ≤ 65536) : eCmt (F0) (F1) (F2) (F3) (F4) (F5) (F6) (F7) (F8) (F9) (F10) (F14) (F15) (F13) (N0) (N1) (N2) (N3) := by
  obtain ⟨c1, c2, c3, c4, c5, c6, c7, c8, c9, c10⟩ := H6
  rcases H12 with h | ⟨f1, f2⟩
  · omega
  rcases H14 with h | ⟨l1, l2, -, l4⟩
  · omega
  rcases H17 with h | sp
  · omega
  rcases H19 with h | sk
  · omega
  rw [H16] at l1 l4
  have i1 : F11 N13 = N10 := by have := H21 N13 H22 (by omega); have := H25 N13 H26 (by omega); omega
  have j1 : F12 N13 = N11 := by have := H29 N13 H30 (by omega); have := H33 N13 H34 (by omega); omega
  have eI : ∀ x : Int, x ≤ N13 → F14 x = F11 x := fun x a => by rw [H0 x, if_neg (by omega)]
  have eJ : ∀ x : Int, x ≤ N13 → F15 x = F12 x := fun x a => by rw [H1 x, if_neg (by omega)]
  have eI3 : F14 N3 = N0 := by rw [H0 N3, if_pos (by omega)]; exact H3
  have eJ3 : F15 N3 = N1 := by rw [H1 N3, if_pos (by omega)]; exact H5
  have z0 : F11 0 = 0 ∧ F12 0 = 0 := by
    by_cases a : 1 ≤ N13
    · have := c5.2.2.1 a; omega
    · have b := c5.2.2.2 (by omega)
      rw [show N13 = 0 by omega] at i1 j1
      omega
  have g0 := c5.1
  have g1 := c5.2.1
  refine ⟨fun i a b k z => ?_, fun w a b => ?_, fun w a b => ?_, fun w a b => ?_, ⟨by omega, by omega, fun a => ?_, fun a => by omega⟩, fun v x a b c => ?_, fun v i a b d e => ?_, fun v i j a b d e f k => ?_, fun v w a b d e => ?_, fun j a b => ?_⟩
  · by_cases q : i < N10
    · have := c1 i a q k z
      exact ⟨this.1, by omega, this.2.2⟩
    · rcases (f2 i (by omega) b).1 k with y | y
      · omega
      · exact ⟨by omega, y.2.2.1, y.2.2.2⟩
  · by_cases q : w < N11
    · have := c2 w a q
      exact ⟨this.1, by omega, this.2.2⟩
    · obtain ⟨⟨x1, x2, x3⟩, x4⟩ := f1 w (by omega) b
      refine ⟨by omega, x2, ?_⟩
      rcases x4 with y | y
      · exact Or.inl y.2.2.2
      · exact Or.inr y.2
  · by_cases q : w < N11
    · exact c3 w a q
    · rcases sp w (by omega) b with y | ⟨k, y1, y2, y3, y4⟩
      · exact Or.inl y
      · have := sk k y1 y2
        rw [y3, y4] at this
        exact Or.inr (Or.inr this)
  · by_cases q : w < N11
    · have := c4 w a q
      omega
    · have := H37 w (by omega) (by omega)
      have := H43 w (by omega) (by omega)
      omega
  · rw [eI 0 H9, eJ 0 H9, eI3, eJ3]
    exact ⟨z0.1, z0.2, rfl, rfl⟩
  · by_cases q : x ≤ N13
    · rw [eI v (by omega), eI x q, eJ v (by omega), eJ x q]; exact c6 v x a b q
    · have q2 : x = N3 := by omega
      rw [q2, eI3, eJ3]
      by_cases q3 : v = N3
      · rw [q3, eI3, eJ3]; exact ⟨Int.le_refl _, Int.le_refl _⟩
      · rw [eI v (by omega), eJ v (by omega)]
        have := c6 v N13 a (by omega) (by omega)
        omega
  · by_cases q : v = N13
    · rw [q, eI N13 (by omega), i1] at d
      rw [q, show N13 + 1 = N3 by omega, eI3] at e
      have x := l1 i d e
      have y := f2 i d e
      rw [q]
      exact ⟨x.1, x.2.1, x.2.2.1, x.2.2.2.1, x.2.2.2.2, fun k => by omega⟩
    · rw [eI v (by omega)] at d
      rw [eI (v + 1) (by omega)] at e
      exact c7 v i a (by omega) d e
  · by_cases q : v = N13
    · rw [q, eI N13 (by omega), i1] at d
      rw [q, show N13 + 1 = N3 by omega, eI3] at f
      exact l2 i j d e f k
    · rw [eI v (by omega)] at d
      rw [eI (v + 1) (by omega)] at f
      exact c8 v i j a (by omega) d e f k
  · by_cases q : v = N13
    · rw [q, eJ N13 (by omega), j1] at d
      rw [q, show N13 + 1 = N3 by omega, eJ3] at e
      obtain ⟨⟨x1, x2, x3⟩, x4⟩ := f1 w d e
      rw [q, eI N13 (by omega), i1, show N13 + 1 = N3 by omega, eI3]
      exact ⟨x1, x2⟩
    · rw [eJ v (by omega)] at d
      rw [eJ (v + 1) (by omega)] at e
      rw [eI v (by omega), eI (v + 1) (by omega)]
      exact c9 v w a (by omega) d e
  · by_cases q : j < 4*N13
    · exact c10 j a q
    · have x := l4 (j - 4*N13) (by omega) (by omega)
      rw [show 4*N13 + (j - 4*N13) = j by omega] at x
      have y := H49 j (by omega) (by omega)
      omega
theorem M_iu0 {F0 F1 F2 F3 F4 F5 F6 F7 F8 F9 F10 F11 F12 F13 F14 F15 F16 F17 : Int → Int} {N0 N1 N2 N3 N4 N5 : Int} (H0 : eCmt (F4) (F2) (F8) (F3) (F9) (F10) (F11) (F12) (F13) (F14) (F15) (F6) (F16) (F17) (N3) (N4) (N5) (N0)) (H1 : N1 = 0) (H2 : N2 = 0) : eImu (F0) (F1) (F2) (F3) (F4) (F5) (F6) (N0) (N1) (N2) := by
  subst H1 H2
  obtain ⟨-, -, -, -, c5, c6, -⟩ := H0
  refine ⟨⟨Int.le_refl _, eKn_ge _⟩, fun x y a b => by omega, fun x a b => by omega, fun v j a b r s t => ?_⟩
  have := (c6 0 v (by omega) a (by omega)).1
  omega
theorem M_iuA {F0 F1 F2 F3 F4 F5 F6 : Int → Int} {N0 N1 N2 N3 N4 : Int} (H0 : eImc (F0) (F1) (F2) (F3) (F4) (F5) (F6) (N0) (N3) (N2)) (H1 : F6 N1 = N4) (H2 : N4 = N3) : eImu (F0) (F1) (F2) (F3) (F4) (F5) (F6) (N0) (N1) (N2) := by
  unfold eImu; rw [H1, H2]; exact H0
theorem M_iuB {F0 F1 F2 F3 F4 F5 F6 : Int → Int} {N0 N1 N2 N3 N4 : Int} (H0 : eImu (F0) (F1) (F2) (F3) (F4) (F5) (F6) (N0) (N3) (N2)) (H1 : F6 N3 = N4) (H2 : N4 = N1) : eImc (F0) (F1) (F2) (F3) (F4) (F5) (F6) (N0) (N1) (N2) := by
  unfold eImu at H0; rw [H1, H2] at H0; exact H0
theorem M_imK0 {F0 F1 F2 F3 F4 F5 F6 : Int → Int} {N0 N1 N2 N3 N4 : Int} (H0 : N3 = N1 + -1) (H1 : eImc (F0) (F1) (F2) (F3) (F4) (F5) (F6) (N0) (N3) (N2)) (H2 : 0 ≤ N3) (H3 : F4 N3 = N4) (H4 : N4 ≤ 2) : eImc (F0) (F1) (F2) (F3) (F4) (F5) (F6) (N0) (N1) (N2) := by
  rw [show N1 = N3 + 1 by omega]
  exact eImc_sk H1 (fun v a b c d e f g => by omega)
theorem M_imK1 {F0 F1 F2 F3 F4 F5 F6 : Int → Int} {N0 N1 N2 N3 N4 : Int} (H0 : N3 = N1 + -1) (H1 : eImc (F0) (F1) (F2) (F3) (F4) (F5) (F6) (N0) (N3) (N2)) (H2 : 0 ≤ N3) (H3 : F4 N3 = N4) (H4 : 5 ≤ N4) : eImc (F0) (F1) (F2) (F3) (F4) (F5) (F6) (N0) (N1) (N2) := by
  rw [show N1 = N3 + 1 by omega]
  exact eImc_sk H1 (fun v a b c d e f g => by omega)
theorem M_imS {F0 F1 F2 F3 F4 F5 F6 : Int → Int} {N0 N1 N2 N3 N4 : Int} (H0 : N3 = N1 + -1) (H1 : eImc (F0) (F1) (F2) (F3) (F4) (F5) (F6) (N0) (N3) (N2)) (H2 : 0 ≤ N3) (H3 : F2 N3 = N4) (H4 : 1 ≤ N4) : eImc (F0) (F1) (F2) (F3) (F4) (F5) (F6) (N0) (N1) (N2) := by
  rw [show N1 = N3 + 1 by omega]
  exact eImc_sk H1 (fun v a b c d e f g => by omega)
theorem M_imN {F0 F1 F2 F3 F4 F5 F6 F7 F8 F9 F10 F11 F12 F13 F14 F15 F16 F17 : Int → Int} {N0 N1 N2 N3 N4 N5 N6 N7 N8 N9 N10 N11 N12 N13 N14 N15 N16 N17 N18 N19 N20 N21 N22 N23 N24 N25 N26 N27 N28 N29 N30 N31 N32 N33 N34 N35 N36 N37 N38 N39 N40 N41 N42 : Int} (H0 : N3 = N1 + -1) (H1 : eImc (F0) (F1) (F2) (F3) (F4) (F5) (F6) (N0) (N3) (N2)) (H2 : 0 ≤ N3) (H3 : eCmt (F4) (F2) (F8) (F3) (F9) (F10) (F11) (F12) (F13) (F14) (F15) (F6) (F16) (F17) (N20) (N21) (N22) (N0)) (H4 : cUs (N5) (N6)) (H5 : 0 ≤ N5) (H6 : N5 + 1 ≤ N0) (H7 : ∀ x, N40 ≤ x → x < N41 → (F6 x ≤ N42)) (H8 : N40 ≤ N5) (H9 : N5 + 1 ≤ N41) (H10 : N42 ≤ N3) (H11 : N8 = N5 + 1) (H12 : F6 N8 = N9) (H13 : N3 + 1 ≤ N9) (H14 : F2 N3 = N4) (H15 : N10 = 4 * N5 + N4) (H16 : F5 N10 = N11) (H17 : N11 ≤ 0) : eImc (F0) (F1) (F2) (F3) (F4) (F5) (F6) (N0) (N1) (N2) := by
  rw [show N1 = N3 + 1 by omega]
  obtain ⟨-, -, -, -, -, c6, -⟩ := H3
  refine eImc_sk H1 (fun v a b c d e f g => ?_)
  have q := H7 N5 H8 (by omega)
  have w := eIv (I := F6) (fun v x a b c => (c6 v x a b c).1) a b H5 (show N5 < N0 by omega) c d (by omega) (by rw [← H11, H12]; omega)
  rw [w, show 4*N5 = N10 by omega, H16] at g
  omega
theorem M_imA3 {F0 F1 F2 F3 F4 F5 F6 F7 F8 F9 F10 F11 F12 F13 F14 F15 F16 F17 F18 : Int → Int} {N0 N1 N2 N3 N4 N5 N6 N7 N8 N9 N10 N11 N12 N13 N14 N15 N16 N17 N18 N19 N20 N21 N22 N23 N24 N25 N26 N27 N28 N29 N30 N31 N32 N33 N34 N35 N36 N37 N38 N39 N40 N41 N42 N43 N44 N45 : Int} (H0 : ∀ x : Int, F18 x = if x = N12 then N13 else F0 x) (H1 : N3 = N1 + -1) (H2 : N14 = N2 + -1) (H3 : N14 = N12) (H4 : 0 ≤ N14) (H5 : eImc (F0) (F1) (F2) (F3) (F4) (F5) (F6) (N0) (N3) (N14)) (H6 : 0 ≤ N3) (H7 : eCmt (F4) (F2) (F8) (F3) (F9) (F10) (F11) (F12) (F13) (F14) (F15) (F6) (F16) (F17) (N20) (N21) (N22) (N0)) (H8 : cUs (N5) (N6)) (H9 : 0 ≤ N5) (H10 : N5 + 1 ≤ N0) (H11 : ∀ x, N40 ≤ x → x < N41 → (F6 x ≤ N42)) (H12 : N40 ≤ N5) (H13 : N5 + 1 ≤ N41) (H14 : N42 ≤ N3) (H15 : ∀ x : Int, N43 ≤ x → x < N44 → ((0 ≤ 0+(-1)*N45+(1)*F6 (x)))) (H16 : N43 ≤ N5 + 1) (H17 : N5 + 2 ≤ N44) (H18 : N3 + 1 ≤ N45) (H19 : F2 N3 = N4) (H20 : N4 = 0) (H21 : F4 N3 = N15) (H22 : N15 = 3) (H23 : eNdd (F5) (F2) (N30) (N31)) (H24 : N30 = N5) (H25 : N31 = N3) (H26 : eOdf (F1) (F5) (F17) (N23)) (H27 : N0 ≤ N23) (H28 : eIa (F1) (F2) (F3) (N5) (N25) (N26)) (H29 : N25 = N3) (H30 : N26 = N13 + 4194304) : eImc (F18) (F1) (F2) (F3) (F4) (F5) (F6) (N0) (N1) (N2) := by
  obtain ⟨-, -, -, -, -, c6, c7, c8, -⟩ := H7
  have q := H11 N5 H12 (by omega)
  have r := H15 (N5 + 1) (by omega) (by omega)
  unfold eNdd at H23
  rw [H24, H25, H19, H20, Int.add_zero] at H23
  unfold eIa at H28
  rw [H29, H19, H20, Int.add_zero] at H28
  rw [show N1 = N3 + 1 by omega, show N2 = N14 + 1 by omega]
  exact eImc_add (Z := F8) (S := F17) (w := N5) (x := N13) H5 H6 (fun y => by rw [H0 y, ← H3]) (fun v x a b c => (c6 v x a b c).1) c7 c8 H9 (by omega) (by omega) (by omega) (by omega) (by omega) H23 (fun k l a b c => H26 k l a b (by omega)) (by omega)
theorem M_imA4 {F0 F1 F2 F3 F4 F5 F6 F7 F8 F9 F10 F11 F12 F13 F14 F15 F16 F17 F18 : Int → Int} {N0 N1 N2 N3 N4 N5 N6 N7 N8 N9 N10 N11 N12 N13 N14 N15 N16 N17 N18 N19 N20 N21 N22 N23 N24 N25 N26 N27 N28 N29 N30 N31 N32 N33 N34 N35 N36 N37 N38 N39 N40 N41 N42 N43 N44 N45 : Int} (H0 : ∀ x : Int, F18 x = if x = N12 then N13 else F0 x) (H1 : N3 = N1 + -1) (H2 : N14 = N2 + -1) (H3 : N14 = N12) (H4 : 0 ≤ N14) (H5 : eImc (F0) (F1) (F2) (F3) (F4) (F5) (F6) (N0) (N3) (N14)) (H6 : 0 ≤ N3) (H7 : eCmt (F4) (F2) (F8) (F3) (F9) (F10) (F11) (F12) (F13) (F14) (F15) (F6) (F16) (F17) (N20) (N21) (N22) (N0)) (H8 : cUs (N5) (N6)) (H9 : 0 ≤ N5) (H10 : N5 + 1 ≤ N0) (H11 : ∀ x, N40 ≤ x → x < N41 → (F6 x ≤ N42)) (H12 : N40 ≤ N5) (H13 : N5 + 1 ≤ N41) (H14 : N42 ≤ N3) (H15 : ∀ x : Int, N43 ≤ x → x < N44 → ((0 ≤ 0+(-1)*N45+(1)*F6 (x)))) (H16 : N43 ≤ N5 + 1) (H17 : N5 + 2 ≤ N44) (H18 : N3 + 1 ≤ N45) (H19 : F2 N3 = N4) (H20 : N4 = 0) (H21 : F4 N3 = N15) (H22 : N15 = 4) (H23 : eNdd (F5) (F2) (N30) (N31)) (H24 : N30 = N5) (H25 : N31 = N3) (H26 : eOdf (F1) (F5) (F17) (N23)) (H27 : N0 ≤ N23) (H28 : eIa (F1) (F2) (F3) (N5) (N25) (N26)) (H29 : N25 = N3) (H30 : N26 = N13 + 4194304) : eImc (F18) (F1) (F2) (F3) (F4) (F5) (F6) (N0) (N1) (N2) := by
  obtain ⟨-, -, -, -, -, c6, c7, c8, -⟩ := H7
  have q := H11 N5 H12 (by omega)
  have r := H15 (N5 + 1) (by omega) (by omega)
  unfold eNdd at H23
  rw [H24, H25, H19, H20, Int.add_zero] at H23
  unfold eIa at H28
  rw [H29, H19, H20, Int.add_zero] at H28
  rw [show N1 = N3 + 1 by omega, show N2 = N14 + 1 by omega]
  exact eImc_add (Z := F8) (S := F17) (w := N5) (x := N13) H5 H6 (fun y => by rw [H0 y, ← H3]) (fun v x a b c => (c6 v x a b c).1) c7 c8 H9 (by omega) (by omega) (by omega) (by omega) (by omega) H23 (fun k l a b c => H26 k l a b (by omega)) (by omega)
theorem M_imM {F0 F1 F2 F3 F4 F5 F6 : Int → Int} {N0 N1 N2 N3 N4 : Int} (H0 : eImc (F0) (F1) (F2) (F3) (F4) (F5) (F6) (N2) (N3) (N0)) (H1 : eCsn (F4) (N4) (N1)) (H2 : N3 ≤ N4) : N0 ≤ N1 := by
  unfold eCsn at H1
  have := eKn_up (K := F4) (b := fun v => decide (v ≤ 4)) (n := N3.toNat) (m := N4.toNat) (by omega)
  have := H0.1.2
  omega
theorem M_imH3 {F0 F1 F2 F3 F4 F5 F6 F7 F8 F9 F10 F11 F12 F13 F14 F15 F16 F17 : Int → Int} {N0 N1 N2 N3 N4 N5 N6 N7 N8 N9 N10 N11 N12 N13 N14 N15 N16 N17 N18 N19 N20 N21 N22 N23 N24 N25 N26 N27 N28 N29 N30 N31 N32 N33 N34 N35 N36 N37 N38 N39 N40 : Int} (H0 : eImu (F0) (F1) (F2) (F3) (F4) (F5) (F6) (N0) (N1) (N2)) (H1 : N1 = N0) (H2 : eCmt (F4) (F2) (F8) (F3) (F9) (F10) (F11) (F12) (F13) (F14) (F15) (F6) (F16) (F17) (N20) (N21) (N22) (N0)) (H3 : eWu (F16) (N3) (N4)) (H4 : 0 ≤ N3) (H5 : N3 + 1 ≤ N21) (H6 : 0 ≤ N4) (H7 : N4 + 1 ≤ N0) (H8 : eIsn (F5) (F2) (F10) (F12) (N5) (N6) (N7)) (H9 : N7 ≤ 0) (H10 : N5 = N3) (H11 : N6 = N4) (H12 : eWai (F10) (N40) (N8)) (H13 : N40 = N3) (H14 : F2 N8 = N9) (H15 : N9 = 0) (H16 : F4 N8 = N11) (H17 : N11 = 3) (H18 : eIa (F1) (F2) (F3) (N12) (N13) (N14)) (H19 : N12 = N4) (H20 : N13 = N8) (H21 : eAtx (F0) (N15) (N16) (N17)) (H22 : N15 = N2) (H23 : N16 = N14 + -4194304) : 0 ≤ N17 := by
  obtain ⟨-, -, -, -, c5, c6, -, -, c9, -⟩ := H2
  unfold eImu at H0
  rw [H1] at H0
  unfold eWai at H12
  rw [H13] at H12
  unfold eWu at H3
  have j1 : F16 N4 ≤ N3 := by
    rcases H3.1 with e | e
    · have z := (c5.2.2.1 (by omega)).2.1
      rw [show N4 = 0 by omega, z]; exact H4
    · exact e
  have w := c9 N4 N3 H6 (by omega) j1 H3.2
  rw [H12] at w
  have u := (c6 (N4 + 1) N0 (by omega) (by omega) (Int.le_refl _)).1
  have n : 1 ≤ F5 (4*N4) := by
    rcases H8 with e | ⟨e, -⟩
    · omega
    · rw [H10, H11, H12, H14, H15, Int.add_zero] at e; exact e
  obtain ⟨x, x1, x2, x3⟩ := H0.2.2.2 N4 N8 H6 (by omega) w.1 w.2 (by omega) (by omega) (by omega) n
  unfold eIa at H18
  rw [H19, H20, H14, H15, Int.add_zero] at H18
  exact H21 (by rw [H22]; exact H0.2.1) ⟨x, x1, by omega, by omega⟩
theorem M_imH4 {F0 F1 F2 F3 F4 F5 F6 F7 F8 F9 F10 F11 F12 F13 F14 F15 F16 F17 : Int → Int} {N0 N1 N2 N3 N4 N5 N6 N7 N8 N9 N10 N11 N12 N13 N14 N15 N16 N17 N18 N19 N20 N21 N22 N23 N24 N25 N26 N27 N28 N29 N30 N31 N32 N33 N34 N35 N36 N37 N38 N39 N40 : Int} (H0 : eImu (F0) (F1) (F2) (F3) (F4) (F5) (F6) (N0) (N1) (N2)) (H1 : N1 = N0) (H2 : eCmt (F4) (F2) (F8) (F3) (F9) (F10) (F11) (F12) (F13) (F14) (F15) (F6) (F16) (F17) (N20) (N21) (N22) (N0)) (H3 : eWu (F16) (N3) (N4)) (H4 : 0 ≤ N3) (H5 : N3 + 1 ≤ N21) (H6 : 0 ≤ N4) (H7 : N4 + 1 ≤ N0) (H8 : eIsn (F5) (F2) (F10) (F12) (N5) (N6) (N7)) (H9 : N7 ≤ 0) (H10 : N5 = N3) (H11 : N6 = N4) (H12 : eWai (F10) (N40) (N8)) (H13 : N40 = N3) (H14 : F2 N8 = N9) (H15 : N9 = 0) (H16 : F4 N8 = N11) (H17 : N11 = 4) (H18 : eIa (F1) (F2) (F3) (N12) (N13) (N14)) (H19 : N12 = N4) (H20 : N13 = N8) (H21 : eAtx (F0) (N15) (N16) (N17)) (H22 : N15 = N2) (H23 : N16 = N14 + -4194304) : 0 ≤ N17 := by
  obtain ⟨-, -, -, -, c5, c6, -, -, c9, -⟩ := H2
  unfold eImu at H0
  rw [H1] at H0
  unfold eWai at H12
  rw [H13] at H12
  unfold eWu at H3
  have j1 : F16 N4 ≤ N3 := by
    rcases H3.1 with e | e
    · have z := (c5.2.2.1 (by omega)).2.1
      rw [show N4 = 0 by omega, z]; exact H4
    · exact e
  have w := c9 N4 N3 H6 (by omega) j1 H3.2
  rw [H12] at w
  have u := (c6 (N4 + 1) N0 (by omega) (by omega) (Int.le_refl _)).1
  have n : 1 ≤ F5 (4*N4) := by
    rcases H8 with e | ⟨e, -⟩
    · omega
    · rw [H10, H11, H12, H14, H15, Int.add_zero] at e; exact e
  obtain ⟨x, x1, x2, x3⟩ := H0.2.2.2 N4 N8 H6 (by omega) w.1 w.2 (by omega) (by omega) (by omega) n
  unfold eIa at H18
  rw [H19, H20, H14, H15, Int.add_zero] at H18
  exact H21 (by rw [H22]; exact H0.2.1) ⟨x, x1, by omega, by omega⟩
theorem M_cuF {F0 F1 F2 F3 F4 F5 F6 F7 F8 F9 F10 F11 F12 F13 : Int → Int} {N0 N1 N2 N3 N4 N5 N6 N7 N8 N9 N10 N11 N12 : Int} (H0 : eCmt (F0) (F1) (F2) (F3) (F4) (F5) (F6) (F7) (F8) (F9) (F10) (F11) (F12) (F13) (N10) (N11) (N12) (N3)) (H1 : N4 = N0 + -1) (H2 : F11 N4 = N5) (H3 : 0 ≤ N4) (H4 : N4 + 1 ≤ N3) (H5 : N1 = N0 + 1) (H6 : N2 ≤ N5) : ∀ x : Int, N0 ≤ x → x < N1 → ((0 ≤ 0+(-1)*N2+(1)*F11 (x))) := by
  intro x a b
  have := (H0.2.2.2.2.2.1 N4 x H3 (by omega) (by omega)).1
  omega
theorem M_cuP {F0 F1 F2 F3 F4 F5 F6 F7 F8 F9 F10 F11 F12 F13 F14 F15 : Int → Int} {N0 N1 N2 N3 N4 N5 N6 N7 N8 N9 N10 N11 N12 N13 N14 N15 N16 N17 N18 N19 N20 N21 N22 : Int} (H0 : eCmt (F0) (F1) (F2) (F3) (F4) (F5) (F6) (F7) (F8) (F9) (F10) (F11) (F12) (F13) (N0) (N1) (N2) (N3)) (H1 : cUs (N4) (N5)) (H2 : 0 ≤ N4) (H3 : N4 + 1 ≤ N3) (H4 : eIa (F14) (F1) (F3) (N6) (N7) (N8)) (H5 : N6 = N4) (H6 : ∀ x, N20 ≤ x → x < N21 → (F11 x ≤ N22)) (H7 : N20 ≤ N4) (H8 : N4 + 1 ≤ N21) (H9 : N22 ≤ N7) (H10 : N10 = N4 + 1) (H11 : F11 N10 = N11) (H12 : N7 + 1 ≤ N11) (H13 : ePlm (F14) (F15) (F13) (N12) (N13) (N14) (N15)) (H14 : 4 ≤ N13) (H15 : N3 ≤ N12) (H16 : F1 N7 = N16) (H17 : N17 = 4 * N4 + N16) (H18 : F15 N17 = N18) (H19 : 1 ≤ N18) (H20 : F2 N7 = N19) : (4194304 ≤ N8) ∧ (N8 + N19 ≤ N15 + 4194304) := by
  obtain ⟨-, -, -, -, -, -, c7, -⟩ := H0
  have q := H6 N4 H7 (by omega)
  have g := c7 N4 N7 H2 (by omega) (by omega) (by rw [← H10, H11]; omega)
  rw [H16, ← H17, H20] at g
  have p := H13 N4 N16 H2 (by omega) (by omega) (by omega) (Or.inl (by omega))
  rw [← H17, H18] at p
  unfold eIa at H4
  rw [H5, H16, ← H17] at H4
  omega
theorem M_cuQ {F0 F1 F2 F3 F4 F5 F6 F7 F8 F9 F10 F11 F12 F13 F14 F15 : Int → Int} {N0 N1 N2 N3 N4 N5 N6 N7 N8 N9 N10 N11 N12 N13 N14 N15 N16 N17 N18 N19 : Int} (H0 : eCmt (F0) (F1) (F2) (F3) (F4) (F5) (F6) (F7) (F8) (F9) (F10) (F11) (F12) (F13) (N0) (N1) (N2) (N3)) (H1 : eWu (F12) (N4) (N5)) (H2 : 0 ≤ N4) (H3 : N4 + 1 ≤ N1) (H4 : 0 ≤ N5) (H5 : N5 + 1 ≤ N3) (H6 : eIsn (F15) (F1) (F5) (F7) (N7) (N8) (N9)) (H7 : N9 ≤ 0) (H8 : N7 = N4) (H9 : N8 = N5) (H10 : F5 N4 = N10) (H11 : eIa (F14) (F1) (F3) (N11) (N12) (N13)) (H12 : N11 = N5) (H13 : N12 = N10) (H14 : ePlm (F14) (F15) (F13) (N14) (N15) (N16) (N17)) (H15 : 4 ≤ N15) (H16 : N3 ≤ N14) (H17 : F6 N4 = N18) (H18 : F7 N4 = N19) : (4194304 ≤ N13) ∧ (N13 ≤ N17 + 4194304) ∧ (0 ≤ N18) ∧ (0 ≤ N19) ∧ (N13 + N18 + N19 ≤ N17 + 4194304) := by
  obtain ⟨-, c2, -, -, c5, c6, c7, -, c9, -⟩ := H0
  unfold eWu at H1
  have j1 : F12 N5 ≤ N4 := by
    rcases H1.1 with e | e
    · have z := (c5.2.2.1 (by omega)).2.1
      rw [show N5 = 0 by omega, z]; exact H2
    · exact e
  have w := c9 N5 N4 H4 (by omega) j1 H1.2
  rw [H10] at w
  have g := c7 N5 N10 H4 (by omega) w.1 w.2
  rcases H6 with e | ⟨e1, e2⟩
  · omega
  rw [H8, H9, H10] at e1
  rw [H8, H18] at e2
  have b := c2 N4 H2 (by omega)
  rw [H10, H17, H18] at b
  have p := H14 N5 (F1 N10) H4 (by omega) (by omega) (by omega) (Or.inl (by omega))
  unfold eIa at H11
  rw [H12, H13] at H11
  omega
theorem M_md6 {F0 : Int → Int} {N0 N1 N2 N3 N4 N5 N6 N7 : Int} (H0 : ∀ x, N4 ≤ x → x < N5 → (0 ≤ N6 ∨ 0 ≤ N7)) (H1 : N4 ≤ 0) (H2 : 1 ≤ N5) (H3 : N6 + 4 ≤ N1) (H4 : N7 + 1 ≤ N3) : eMdz (F0) (N0) (N1) (N2) (N3) := by
  rcases H0 0 H1 (by omega) with h | h
  · exact Or.inr (Or.inr (Or.inl (by omega)))
  · exact Or.inr (Or.inl (by omega))
/-! WHAT IS LEFT OF UNITS, SHORT BRANCHES, LAYOUT, IMAGE: the rules (written by wip/p2/grp.py) -/
theorem s_dot_lo {fs : List (Int → Int)} {zs : List Int} {a b i j k : Nat} : SnOk fs zs (22, [2, a, b, i, j, k], []) ↔ ∀ x : Int, nthZ zs i ≤ x → x < nthZ zs j → (46 ≤ nthF fs b (nthF fs a x) ∨ 0 ≤ nthZ zs k) := by
  show fOk ((2, 3), ([(0, 1, 0, [], []), (1, 0, 0, [], [(0, 1)])], [((-46), 0, [], [(1, 1)]), (0, 0, [(2, 1)], [])])) [nthF fs a, nthF fs b] [nthZ zs i, nthZ zs j, nthZ zs k] ↔ _
  have e0 : ∀ x : Int, (0 : Int) + 1 * x + 0 + 0 = x := fun x => by omega
  have e1 : ∀ x y : Int, (0 : Int) + 0 * x + 0 + (1 * y + 0) = y := fun x y => by omega
  have L : ∀ x : Int, fAt ((2, 3), ([(0, 1, 0, [], []), (1, 0, 0, [], [(0, 1)])], [((-46), 0, [], [(1, 1)]), (0, 0, [(2, 1)], [])])) [nthF fs a, nthF fs b] [nthZ zs i, nthZ zs j, nthZ zs k] x ↔ (46 ≤ nthF fs b (nthF fs a x) ∨ 0 ≤ nthZ zs k) := by
    intro x
    constructor
    · rintro ⟨l0, hl, q⟩
      rcases List.mem_cons.mp hl with hl | hl
      · subst hl
        replace q : 0 ≤ ((-46) : Int) + 0 * x + 0 + (1 * nthF fs b (0 + 0 * x + 0 + (1 * nthF fs a (0 + 1 * x + 0 + 0) + 0)) + 0) := q
        rw [e0, e1] at q
        left; omega
      · rcases List.mem_cons.mp hl with hl | hl
        · subst hl
          replace q : 0 ≤ (0 : Int) + 0 * x + (1 * nthZ zs k + 0) + 0 := q
          right; omega
        · cases hl
    · rintro (q | q)
      · refine ⟨_, List.mem_cons_self, ?_⟩
        show 0 ≤ ((-46) : Int) + 0 * x + 0 + (1 * nthF fs b (0 + 0 * x + 0 + (1 * nthF fs a (0 + 1 * x + 0 + 0) + 0)) + 0)
        rw [e0, e1]; omega
      · refine ⟨_, List.mem_cons_of_mem _ List.mem_cons_self, ?_⟩
        show 0 ≤ (0 : Int) + 0 * x + (1 * nthZ zs k + 0) + 0
        omega
  exact ⟨fun h x a b => (L x).mp (h x a b), fun h x a b => (L x).mpr (h x a b)⟩
theorem s_dot_hi {fs : List (Int → Int)} {zs : List Int} {a b i j k : Nat} : SnOk fs zs (23, [2, a, b, i, j, k], []) ↔ ∀ x : Int, nthZ zs i ≤ x → x < nthZ zs j → (nthF fs b (nthF fs a x) ≤ 46 ∨ 0 ≤ nthZ zs k) := by
  show fOk ((2, 3), ([(0, 1, 0, [], []), (1, 0, 0, [], [(0, 1)])], [(46, 0, [], [(1, (-1))]), (0, 0, [(2, 1)], [])])) [nthF fs a, nthF fs b] [nthZ zs i, nthZ zs j, nthZ zs k] ↔ _
  have e0 : ∀ x : Int, (0 : Int) + 1 * x + 0 + 0 = x := fun x => by omega
  have e1 : ∀ x y : Int, (0 : Int) + 0 * x + 0 + (1 * y + 0) = y := fun x y => by omega
  have L : ∀ x : Int, fAt ((2, 3), ([(0, 1, 0, [], []), (1, 0, 0, [], [(0, 1)])], [(46, 0, [], [(1, (-1))]), (0, 0, [(2, 1)], [])])) [nthF fs a, nthF fs b] [nthZ zs i, nthZ zs j, nthZ zs k] x ↔ (nthF fs b (nthF fs a x) ≤ 46 ∨ 0 ≤ nthZ zs k) := by
    intro x
    constructor
    · rintro ⟨l0, hl, q⟩
      rcases List.mem_cons.mp hl with hl | hl
      · subst hl
        replace q : 0 ≤ (46 : Int) + 0 * x + 0 + (-1 * nthF fs b (0 + 0 * x + 0 + (1 * nthF fs a (0 + 1 * x + 0 + 0) + 0)) + 0) := q
        rw [e0, e1] at q
        left; omega
      · rcases List.mem_cons.mp hl with hl | hl
        · subst hl
          replace q : 0 ≤ (0 : Int) + 0 * x + (1 * nthZ zs k + 0) + 0 := q
          right; omega
        · cases hl
    · rintro (q | q)
      · refine ⟨_, List.mem_cons_self, ?_⟩
        show 0 ≤ (46 : Int) + 0 * x + 0 + (-1 * nthF fs b (0 + 0 * x + 0 + (1 * nthF fs a (0 + 1 * x + 0 + 0) + 0)) + 0)
        rw [e0, e1]; omega
      · refine ⟨_, List.mem_cons_of_mem _ List.mem_cons_self, ?_⟩
        show 0 ≤ (0 : Int) + 0 * x + (1 * nthZ zs k + 0) + 0
        omega
  exact ⟨fun h x a b => (L x).mp (h x a b), fun h x a b => (L x).mpr (h x a b)⟩
section
variable {fs : List (Int → Int)} {zs : List Int}
theorem s_imc {a0 a1 a2 a3 a4 a5 a6 i0 i1 i2 : Nat} : SnOk fs zs (1150, [7, a0, a1, a2, a3, a4, a5, a6, i0, i1, i2], []) ↔ eImc (nthF fs a0) (nthF fs a1) (nthF fs a2) (nthF fs a3) (nthF fs a4) (nthF fs a5) (nthF fs a6) (nthZ zs i0) (nthZ zs i1) (nthZ zs i2) := Iff.rfl
theorem s_imu {a0 a1 a2 a3 a4 a5 a6 i0 i1 i2 : Nat} : SnOk fs zs (1156, [7, a0, a1, a2, a3, a4, a5, a6, i0, i1, i2], []) ↔ eImu (nthF fs a0) (nthF fs a1) (nthF fs a2) (nthF fs a3) (nthF fs a4) (nthF fs a5) (nthF fs a6) (nthZ zs i0) (nthZ zs i1) (nthZ zs i2) := Iff.rfl
end
def q_cuX0 : qRl := ([(1120, [5, 0, 1, 2, 3, 4, 0, 1, 6, 3, 21, 22], []), sp 0 [(4, 1), (21, (-1))], sp 0 [(5, 1), (22, (-1))], sp (-1) [(2, 1), (6, (-1))], sp 1 [(6, 1), (2, (-1))], (5, [1, 0, 9, 10, 11], []), sp 0 [(6, 1), (9, (-1))], sp (-1) [(10, 1), (6, (-1))], (6, [1, 0, 12, 13, 14], []), sp 0 [(6, 1), (12, (-1))], sp (-1) [(13, 1), (6, (-1))], sp 2 [(14, (-1))]], [(1120, [5, 0, 1, 2, 3, 4, 0, 1, 2, 3, 4, 5], [])])
theorem q_cuX0_ok : RlOk q_cuX0 := by
  intro fs zs h x hx
  obtain ⟨P0, h⟩ := snAll h
  replace P0 := s_cur.mp P0
  obtain ⟨P1, h⟩ := snAll h
  replace P1 := sp_2.mp P1
  obtain ⟨P2, h⟩ := snAll h
  replace P2 := sp_2.mp P2
  obtain ⟨P3, h⟩ := snAll h
  replace P3 := sp_2.mp P3
  obtain ⟨P4, h⟩ := snAll h
  replace P4 := sp_2.mp P4
  obtain ⟨P5, h⟩ := snAll h
  replace P5 := s_ge.mp P5
  obtain ⟨P6, h⟩ := snAll h
  replace P6 := sp_2.mp P6
  obtain ⟨P7, h⟩ := snAll h
  replace P7 := sp_2.mp P7
  obtain ⟨P8, h⟩ := snAll h
  replace P8 := s_le.mp P8
  obtain ⟨P9, h⟩ := snAll h
  replace P9 := sp_2.mp P9
  obtain ⟨P10, h⟩ := snAll h
  replace P10 := sp_2.mp P10
  obtain ⟨P11, h⟩ := snAll h
  replace P11 := sp_1.mp P11
  have L : eCur ((nthF fs 0)) ((nthF fs 1)) ((nthF fs 2)) ((nthF fs 3)) ((nthF fs 4)) ((nthZ zs 0)) ((nthZ zs 1)) ((nthZ zs 2)) ((nthZ zs 3)) ((nthZ zs 4)) ((nthZ zs 5)) := by
    apply M_cuX0 (F0 := nthF fs 0) (F1 := nthF fs 1) (F2 := nthF fs 2) (F3 := nthF fs 3) (F4 := nthF fs 4) (N0 := nthZ zs 0) (N1 := nthZ zs 1) (N2 := nthZ zs 2) (N3 := nthZ zs 3) (N4 := nthZ zs 4) (N5 := nthZ zs 5) (N6 := nthZ zs 6) (N7 := nthZ zs 7) (N8 := nthZ zs 8) (N9 := nthZ zs 9) (N10 := nthZ zs 10) (N11 := nthZ zs 11) (N12 := nthZ zs 12) (N13 := nthZ zs 13) (N14 := nthZ zs 14) (N15 := nthZ zs 15) (N16 := nthZ zs 16) (N17 := nthZ zs 17) (N18 := nthZ zs 18) (N19 := nthZ zs 19) (N20 := nthZ zs 20) (N21 := nthZ zs 21) (N22 := nthZ zs 22) <;> first | assumption | omega
  rcases List.mem_cons.mp hx with hx | hx
  · rw [hx]; refine s_cur.mpr ?_; exact L
  · cases hx
def q_cuX1 : qRl := ([(1120, [5, 0, 1, 2, 3, 4, 0, 1, 6, 3, 21, 22], []), sp 0 [(4, 1), (21, (-1))], sp 0 [(5, 1), (22, (-1))], sp (-1) [(2, 1), (6, (-1))], sp 1 [(6, 1), (2, (-1))], (5, [1, 0, 9, 10, 11], []), sp 0 [(6, 1), (9, (-1))], sp (-1) [(10, 1), (6, (-1))], (6, [1, 0, 12, 13, 14], []), sp 0 [(6, 1), (12, (-1))], sp (-1) [(13, 1), (6, (-1))], sp (-3) [(11, 1)], sp 3 [(14, (-1))], (1, [1, 6, 8], []), sp (-1) [(8, 1)]], [(1120, [5, 0, 1, 2, 3, 4, 0, 1, 2, 3, 4, 5], [])])
theorem q_cuX1_ok : RlOk q_cuX1 := by
  intro fs zs h x hx
  obtain ⟨P0, h⟩ := snAll h
  replace P0 := s_cur.mp P0
  obtain ⟨P1, h⟩ := snAll h
  replace P1 := sp_2.mp P1
  obtain ⟨P2, h⟩ := snAll h
  replace P2 := sp_2.mp P2
  obtain ⟨P3, h⟩ := snAll h
  replace P3 := sp_2.mp P3
  obtain ⟨P4, h⟩ := snAll h
  replace P4 := sp_2.mp P4
  obtain ⟨P5, h⟩ := snAll h
  replace P5 := s_ge.mp P5
  obtain ⟨P6, h⟩ := snAll h
  replace P6 := sp_2.mp P6
  obtain ⟨P7, h⟩ := snAll h
  replace P7 := sp_2.mp P7
  obtain ⟨P8, h⟩ := snAll h
  replace P8 := s_le.mp P8
  obtain ⟨P9, h⟩ := snAll h
  replace P9 := sp_2.mp P9
  obtain ⟨P10, h⟩ := snAll h
  replace P10 := sp_2.mp P10
  obtain ⟨P11, h⟩ := snAll h
  replace P11 := sp_1.mp P11
  obtain ⟨P12, h⟩ := snAll h
  replace P12 := sp_1.mp P12
  obtain ⟨P13, h⟩ := snAll h
  replace P13 := s_rd.mp P13
  obtain ⟨P14, h⟩ := snAll h
  replace P14 := sp_1.mp P14
  have L : eCur ((nthF fs 0)) ((nthF fs 1)) ((nthF fs 2)) ((nthF fs 3)) ((nthF fs 4)) ((nthZ zs 0)) ((nthZ zs 1)) ((nthZ zs 2)) ((nthZ zs 3)) ((nthZ zs 4)) ((nthZ zs 5)) := by
    apply M_cuX1 (F0 := nthF fs 0) (F1 := nthF fs 1) (F2 := nthF fs 2) (F3 := nthF fs 3) (F4 := nthF fs 4) (N0 := nthZ zs 0) (N1 := nthZ zs 1) (N2 := nthZ zs 2) (N3 := nthZ zs 3) (N4 := nthZ zs 4) (N5 := nthZ zs 5) (N6 := nthZ zs 6) (N7 := nthZ zs 7) (N8 := nthZ zs 8) (N9 := nthZ zs 9) (N10 := nthZ zs 10) (N11 := nthZ zs 11) (N12 := nthZ zs 12) (N13 := nthZ zs 13) (N14 := nthZ zs 14) (N15 := nthZ zs 15) (N16 := nthZ zs 16) (N17 := nthZ zs 17) (N18 := nthZ zs 18) (N19 := nthZ zs 19) (N20 := nthZ zs 20) (N21 := nthZ zs 21) (N22 := nthZ zs 22) <;> first | assumption | omega
  rcases List.mem_cons.mp hx with hx | hx
  · rw [hx]; refine s_cur.mpr ?_; exact L
  · cases hx
def q_cuX2 : qRl := ([(1120, [5, 0, 1, 2, 3, 4, 0, 1, 6, 3, 21, 22], []), sp 0 [(4, 1), (21, (-1))], sp 0 [(5, 1), (22, (-1))], sp (-1) [(2, 1), (6, (-1))], sp 1 [(6, 1), (2, (-1))], (5, [1, 0, 9, 10, 11], []), sp 0 [(6, 1), (9, (-1))], sp (-1) [(10, 1), (6, (-1))], (6, [1, 0, 12, 13, 14], []), sp 0 [(6, 1), (12, (-1))], sp (-1) [(13, 1), (6, (-1))], sp (-4) [(11, 1)], sp 4 [(14, (-1))], (1, [1, 6, 8], []), sp (-5) [(8, 1)]], [(1120, [5, 0, 1, 2, 3, 4, 0, 1, 2, 3, 4, 5], [])])
theorem q_cuX2_ok : RlOk q_cuX2 := by
  intro fs zs h x hx
  obtain ⟨P0, h⟩ := snAll h
  replace P0 := s_cur.mp P0
  obtain ⟨P1, h⟩ := snAll h
  replace P1 := sp_2.mp P1
  obtain ⟨P2, h⟩ := snAll h
  replace P2 := sp_2.mp P2
  obtain ⟨P3, h⟩ := snAll h
  replace P3 := sp_2.mp P3
  obtain ⟨P4, h⟩ := snAll h
  replace P4 := sp_2.mp P4
  obtain ⟨P5, h⟩ := snAll h
  replace P5 := s_ge.mp P5
  obtain ⟨P6, h⟩ := snAll h
  replace P6 := sp_2.mp P6
  obtain ⟨P7, h⟩ := snAll h
  replace P7 := sp_2.mp P7
  obtain ⟨P8, h⟩ := snAll h
  replace P8 := s_le.mp P8
  obtain ⟨P9, h⟩ := snAll h
  replace P9 := sp_2.mp P9
  obtain ⟨P10, h⟩ := snAll h
  replace P10 := sp_2.mp P10
  obtain ⟨P11, h⟩ := snAll h
  replace P11 := sp_1.mp P11
  obtain ⟨P12, h⟩ := snAll h
  replace P12 := sp_1.mp P12
  obtain ⟨P13, h⟩ := snAll h
  replace P13 := s_rd.mp P13
  obtain ⟨P14, h⟩ := snAll h
  replace P14 := sp_1.mp P14
  have L : eCur ((nthF fs 0)) ((nthF fs 1)) ((nthF fs 2)) ((nthF fs 3)) ((nthF fs 4)) ((nthZ zs 0)) ((nthZ zs 1)) ((nthZ zs 2)) ((nthZ zs 3)) ((nthZ zs 4)) ((nthZ zs 5)) := by
    apply M_cuX2 (F0 := nthF fs 0) (F1 := nthF fs 1) (F2 := nthF fs 2) (F3 := nthF fs 3) (F4 := nthF fs 4) (N0 := nthZ zs 0) (N1 := nthZ zs 1) (N2 := nthZ zs 2) (N3 := nthZ zs 3) (N4 := nthZ zs 4) (N5 := nthZ zs 5) (N6 := nthZ zs 6) (N7 := nthZ zs 7) (N8 := nthZ zs 8) (N9 := nthZ zs 9) (N10 := nthZ zs 10) (N11 := nthZ zs 11) (N12 := nthZ zs 12) (N13 := nthZ zs 13) (N14 := nthZ zs 14) (N15 := nthZ zs 15) (N16 := nthZ zs 16) (N17 := nthZ zs 17) (N18 := nthZ zs 18) (N19 := nthZ zs 19) (N20 := nthZ zs 20) (N21 := nthZ zs 21) (N22 := nthZ zs 22) <;> first | assumption | omega
  rcases List.mem_cons.mp hx with hx | hx
  · rw [hx]; refine s_cur.mpr ?_; exact L
  · cases hx
def q_cuX3 : qRl := ([(1120, [5, 0, 1, 2, 3, 4, 0, 1, 6, 3, 21, 22], []), sp 0 [(4, 1), (21, (-1))], sp 0 [(5, 1), (22, (-1))], sp (-1) [(2, 1), (6, (-1))], sp 1 [(6, 1), (2, (-1))], (5, [1, 0, 9, 10, 11], []), sp 0 [(6, 1), (9, (-1))], sp (-1) [(10, 1), (6, (-1))], (6, [1, 0, 12, 13, 14], []), sp 0 [(6, 1), (12, (-1))], sp (-1) [(13, 1), (6, (-1))], sp (-5) [(11, 1)], (5, [1, 1, 15, 16, 17], []), sp 0 [(6, 1), (15, (-1))], sp (-1) [(16, 1), (6, (-1))], sp 0 [(17, 1)], (6, [1, 1, 18, 19, 20], []), sp 0 [(6, 1), (18, (-1))], sp (-1) [(19, 1), (6, (-1))], sp 0 [(20, (-1))]], [(1120, [5, 0, 1, 2, 3, 4, 0, 1, 2, 3, 4, 5], [])])
theorem q_cuX3_ok : RlOk q_cuX3 := by
  intro fs zs h x hx
  obtain ⟨P0, h⟩ := snAll h
  replace P0 := s_cur.mp P0
  obtain ⟨P1, h⟩ := snAll h
  replace P1 := sp_2.mp P1
  obtain ⟨P2, h⟩ := snAll h
  replace P2 := sp_2.mp P2
  obtain ⟨P3, h⟩ := snAll h
  replace P3 := sp_2.mp P3
  obtain ⟨P4, h⟩ := snAll h
  replace P4 := sp_2.mp P4
  obtain ⟨P5, h⟩ := snAll h
  replace P5 := s_ge.mp P5
  obtain ⟨P6, h⟩ := snAll h
  replace P6 := sp_2.mp P6
  obtain ⟨P7, h⟩ := snAll h
  replace P7 := sp_2.mp P7
  obtain ⟨P8, h⟩ := snAll h
  replace P8 := s_le.mp P8
  obtain ⟨P9, h⟩ := snAll h
  replace P9 := sp_2.mp P9
  obtain ⟨P10, h⟩ := snAll h
  replace P10 := sp_2.mp P10
  obtain ⟨P11, h⟩ := snAll h
  replace P11 := sp_1.mp P11
  obtain ⟨P12, h⟩ := snAll h
  replace P12 := s_ge.mp P12
  obtain ⟨P13, h⟩ := snAll h
  replace P13 := sp_2.mp P13
  obtain ⟨P14, h⟩ := snAll h
  replace P14 := sp_2.mp P14
  obtain ⟨P15, h⟩ := snAll h
  replace P15 := sp_1.mp P15
  obtain ⟨P16, h⟩ := snAll h
  replace P16 := s_le.mp P16
  obtain ⟨P17, h⟩ := snAll h
  replace P17 := sp_2.mp P17
  obtain ⟨P18, h⟩ := snAll h
  replace P18 := sp_2.mp P18
  obtain ⟨P19, h⟩ := snAll h
  replace P19 := sp_1.mp P19
  have L : eCur ((nthF fs 0)) ((nthF fs 1)) ((nthF fs 2)) ((nthF fs 3)) ((nthF fs 4)) ((nthZ zs 0)) ((nthZ zs 1)) ((nthZ zs 2)) ((nthZ zs 3)) ((nthZ zs 4)) ((nthZ zs 5)) := by
    apply M_cuX3 (F0 := nthF fs 0) (F1 := nthF fs 1) (F2 := nthF fs 2) (F3 := nthF fs 3) (F4 := nthF fs 4) (N0 := nthZ zs 0) (N1 := nthZ zs 1) (N2 := nthZ zs 2) (N3 := nthZ zs 3) (N4 := nthZ zs 4) (N5 := nthZ zs 5) (N6 := nthZ zs 6) (N7 := nthZ zs 7) (N8 := nthZ zs 8) (N9 := nthZ zs 9) (N10 := nthZ zs 10) (N11 := nthZ zs 11) (N12 := nthZ zs 12) (N13 := nthZ zs 13) (N14 := nthZ zs 14) (N15 := nthZ zs 15) (N16 := nthZ zs 16) (N17 := nthZ zs 17) (N18 := nthZ zs 18) (N19 := nthZ zs 19) (N20 := nthZ zs 20) (N21 := nthZ zs 21) (N22 := nthZ zs 22) <;> first | assumption | omega
  rcases List.mem_cons.mp hx with hx | hx
  · rw [hx]; refine s_cur.mpr ?_; exact L
  · cases hx
def q_rdK0 : qRl := ([(5, [1, 0, 15, 16, 17], []), sp 0 [(4, 1), (15, (-1))], sp (-1) [(16, 1), (4, (-1))], sp 0 [(17, 1)], (6, [1, 0, 18, 19, 20], []), sp 0 [(4, 1), (18, (-1))], sp (-1) [(19, 1), (4, (-1))], sp 0 [(20, (-1))], sp 0 [(4, 1), (0, (-1))], sp (-1) [(2, 1), (4, (-1))], sp 0 [(5, 1)], sp 0 [(6, 1)], (5, [1, 1, 21, 22, 23], []), sp 0 [(4, 1), (21, (-1))], sp (-1) [(22, 1), (4, (-1))], sp 0 [(23, 1), (5, (-1)), (6, (-1))], (72, [1, 2, 10, 11, 12, 13, 14], []), sp (-1) [(13, (-1))], sp (-1) [(14, (-1))], sp 0 [(1, 1), (10, (-1))], sp 0 [(11, 1), (3, (-1))], sp 0 [(4, 1), (12, (-1))], sp 0 [], sp 0 []], [(1121, [3, 0, 1, 2, 0, 1, 2, 3, 4, 5, 6, 7, 8], [])])
theorem q_rdK0_ok : RlOk q_rdK0 := by
  intro fs zs h x hx
  obtain ⟨P0, h⟩ := snAll h
  replace P0 := s_ge.mp P0
  obtain ⟨P1, h⟩ := snAll h
  replace P1 := sp_2.mp P1
  obtain ⟨P2, h⟩ := snAll h
  replace P2 := sp_2.mp P2
  obtain ⟨P3, h⟩ := snAll h
  replace P3 := sp_1.mp P3
  obtain ⟨P4, h⟩ := snAll h
  replace P4 := s_le.mp P4
  obtain ⟨P5, h⟩ := snAll h
  replace P5 := sp_2.mp P5
  obtain ⟨P6, h⟩ := snAll h
  replace P6 := sp_2.mp P6
  obtain ⟨P7, h⟩ := snAll h
  replace P7 := sp_1.mp P7
  obtain ⟨P8, h⟩ := snAll h
  replace P8 := sp_2.mp P8
  obtain ⟨P9, h⟩ := snAll h
  replace P9 := sp_2.mp P9
  obtain ⟨P10, h⟩ := snAll h
  replace P10 := sp_1.mp P10
  obtain ⟨P11, h⟩ := snAll h
  replace P11 := sp_1.mp P11
  obtain ⟨P12, h⟩ := snAll h
  replace P12 := s_ge.mp P12
  obtain ⟨P13, h⟩ := snAll h
  replace P13 := sp_2.mp P13
  obtain ⟨P14, h⟩ := snAll h
  replace P14 := sp_2.mp P14
  obtain ⟨P15, h⟩ := snAll h
  replace P15 := sp_3.mp P15
  obtain ⟨P16, h⟩ := snAll h
  replace P16 := s_leoo.mp P16
  obtain ⟨P17, h⟩ := snAll h
  replace P17 := sp_1.mp P17
  obtain ⟨P18, h⟩ := snAll h
  replace P18 := sp_1.mp P18
  obtain ⟨P19, h⟩ := snAll h
  replace P19 := sp_2.mp P19
  obtain ⟨P20, h⟩ := snAll h
  replace P20 := sp_2.mp P20
  obtain ⟨P21, h⟩ := snAll h
  replace P21 := sp_2.mp P21
  obtain ⟨P22, h⟩ := snAll h
  replace P22 := sp_0.mp P22
  obtain ⟨P23, h⟩ := snAll h
  replace P23 := sp_0.mp P23
  have L : eRdy ((nthF fs 0)) ((nthF fs 1)) ((nthF fs 2)) ((nthZ zs 0)) ((nthZ zs 1)) ((nthZ zs 2)) ((nthZ zs 3)) ((nthZ zs 4)) ((nthZ zs 5)) ((nthZ zs 6)) ((nthZ zs 7)) ((nthZ zs 8)) := by
    apply M_rdK0 (F0 := nthF fs 0) (F1 := nthF fs 1) (F2 := nthF fs 2) (N0 := nthZ zs 0) (N1 := nthZ zs 1) (N2 := nthZ zs 2) (N3 := nthZ zs 3) (N4 := nthZ zs 4) (N5 := nthZ zs 5) (N6 := nthZ zs 6) (N7 := nthZ zs 7) (N8 := nthZ zs 8) (N9 := nthZ zs 9) (N10 := nthZ zs 10) (N11 := nthZ zs 11) (N12 := nthZ zs 12) (N13 := nthZ zs 13) (N14 := nthZ zs 14) (N15 := nthZ zs 15) (N16 := nthZ zs 16) (N17 := nthZ zs 17) (N18 := nthZ zs 18) (N19 := nthZ zs 19) (N20 := nthZ zs 20) (N21 := nthZ zs 21) (N22 := nthZ zs 22) (N23 := nthZ zs 23) <;> first | assumption | omega
  rcases List.mem_cons.mp hx with hx | hx
  · rw [hx]; refine s_rdy.mpr ?_; exact L
  · cases hx
def q_rdK3 : qRl := ([(5, [1, 0, 15, 16, 17], []), sp 0 [(4, 1), (15, (-1))], sp (-1) [(16, 1), (4, (-1))], sp (-3) [(17, 1)], (6, [1, 0, 18, 19, 20], []), sp 0 [(4, 1), (18, (-1))], sp (-1) [(19, 1), (4, (-1))], sp 3 [(20, (-1))], sp 0 [(4, 1), (0, (-1))], sp (-1) [(2, 1), (4, (-1))], sp 0 [(5, 1)], sp 0 [(6, 1)], (5, [1, 1, 21, 22, 23], []), sp 0 [(4, 1), (21, (-1))], sp (-1) [(22, 1), (4, (-1))], sp 0 [(23, 1), (5, (-1)), (6, (-1))], (72, [1, 2, 10, 11, 12, 13, 14], []), sp (-1) [(13, (-1))], sp (-1) [(14, (-1))], sp 0 [(1, 1), (10, (-1))], sp 0 [(11, 1), (3, (-1))], sp 0 [(4, 1), (12, (-1))], sp 0 [], sp 0 []], [(1121, [3, 0, 1, 2, 0, 1, 2, 3, 4, 5, 6, 7, 8], [])])
theorem q_rdK3_ok : RlOk q_rdK3 := by
  intro fs zs h x hx
  obtain ⟨P0, h⟩ := snAll h
  replace P0 := s_ge.mp P0
  obtain ⟨P1, h⟩ := snAll h
  replace P1 := sp_2.mp P1
  obtain ⟨P2, h⟩ := snAll h
  replace P2 := sp_2.mp P2
  obtain ⟨P3, h⟩ := snAll h
  replace P3 := sp_1.mp P3
  obtain ⟨P4, h⟩ := snAll h
  replace P4 := s_le.mp P4
  obtain ⟨P5, h⟩ := snAll h
  replace P5 := sp_2.mp P5
  obtain ⟨P6, h⟩ := snAll h
  replace P6 := sp_2.mp P6
  obtain ⟨P7, h⟩ := snAll h
  replace P7 := sp_1.mp P7
  obtain ⟨P8, h⟩ := snAll h
  replace P8 := sp_2.mp P8
  obtain ⟨P9, h⟩ := snAll h
  replace P9 := sp_2.mp P9
  obtain ⟨P10, h⟩ := snAll h
  replace P10 := sp_1.mp P10
  obtain ⟨P11, h⟩ := snAll h
  replace P11 := sp_1.mp P11
  obtain ⟨P12, h⟩ := snAll h
  replace P12 := s_ge.mp P12
  obtain ⟨P13, h⟩ := snAll h
  replace P13 := sp_2.mp P13
  obtain ⟨P14, h⟩ := snAll h
  replace P14 := sp_2.mp P14
  obtain ⟨P15, h⟩ := snAll h
  replace P15 := sp_3.mp P15
  obtain ⟨P16, h⟩ := snAll h
  replace P16 := s_leoo.mp P16
  obtain ⟨P17, h⟩ := snAll h
  replace P17 := sp_1.mp P17
  obtain ⟨P18, h⟩ := snAll h
  replace P18 := sp_1.mp P18
  obtain ⟨P19, h⟩ := snAll h
  replace P19 := sp_2.mp P19
  obtain ⟨P20, h⟩ := snAll h
  replace P20 := sp_2.mp P20
  obtain ⟨P21, h⟩ := snAll h
  replace P21 := sp_2.mp P21
  obtain ⟨P22, h⟩ := snAll h
  replace P22 := sp_0.mp P22
  obtain ⟨P23, h⟩ := snAll h
  replace P23 := sp_0.mp P23
  have L : eRdy ((nthF fs 0)) ((nthF fs 1)) ((nthF fs 2)) ((nthZ zs 0)) ((nthZ zs 1)) ((nthZ zs 2)) ((nthZ zs 3)) ((nthZ zs 4)) ((nthZ zs 5)) ((nthZ zs 6)) ((nthZ zs 7)) ((nthZ zs 8)) := by
    apply M_rdK3 (F0 := nthF fs 0) (F1 := nthF fs 1) (F2 := nthF fs 2) (N0 := nthZ zs 0) (N1 := nthZ zs 1) (N2 := nthZ zs 2) (N3 := nthZ zs 3) (N4 := nthZ zs 4) (N5 := nthZ zs 5) (N6 := nthZ zs 6) (N7 := nthZ zs 7) (N8 := nthZ zs 8) (N9 := nthZ zs 9) (N10 := nthZ zs 10) (N11 := nthZ zs 11) (N12 := nthZ zs 12) (N13 := nthZ zs 13) (N14 := nthZ zs 14) (N15 := nthZ zs 15) (N16 := nthZ zs 16) (N17 := nthZ zs 17) (N18 := nthZ zs 18) (N19 := nthZ zs 19) (N20 := nthZ zs 20) (N21 := nthZ zs 21) (N22 := nthZ zs 22) (N23 := nthZ zs 23) <;> first | assumption | omega
  rcases List.mem_cons.mp hx with hx | hx
  · rw [hx]; refine s_rdy.mpr ?_; exact L
  · cases hx
def q_rdK4 : qRl := ([(5, [1, 0, 15, 16, 17], []), sp 0 [(4, 1), (15, (-1))], sp (-1) [(16, 1), (4, (-1))], sp (-4) [(17, 1)], (6, [1, 0, 18, 19, 20], []), sp 0 [(4, 1), (18, (-1))], sp (-1) [(19, 1), (4, (-1))], sp 4 [(20, (-1))], sp 0 [(4, 1), (0, (-1))], sp (-1) [(2, 1), (4, (-1))], sp 0 [(5, 1)], sp (-4) [(6, 1)], sp 4 [(6, (-1))], (5, [1, 1, 21, 22, 23], []), sp 0 [(4, 1), (21, (-1))], sp (-1) [(22, 1), (4, (-1))], sp 0 [(23, 1), (5, (-1)), (6, (-1))], (72, [1, 2, 10, 11, 12, 13, 14], []), sp (-1) [(13, (-1))], sp (-1) [(14, (-1))], sp 0 [(1, 1), (10, (-1))], sp 0 [(11, 1), (3, (-1))], sp (-1) [(4, 1), (12, (-1))], sp 0 [], sp 0 []], [(1121, [3, 0, 1, 2, 0, 1, 2, 3, 4, 5, 6, 7, 8], [])])
theorem q_rdK4_ok : RlOk q_rdK4 := by
  intro fs zs h x hx
  obtain ⟨P0, h⟩ := snAll h
  replace P0 := s_ge.mp P0
  obtain ⟨P1, h⟩ := snAll h
  replace P1 := sp_2.mp P1
  obtain ⟨P2, h⟩ := snAll h
  replace P2 := sp_2.mp P2
  obtain ⟨P3, h⟩ := snAll h
  replace P3 := sp_1.mp P3
  obtain ⟨P4, h⟩ := snAll h
  replace P4 := s_le.mp P4
  obtain ⟨P5, h⟩ := snAll h
  replace P5 := sp_2.mp P5
  obtain ⟨P6, h⟩ := snAll h
  replace P6 := sp_2.mp P6
  obtain ⟨P7, h⟩ := snAll h
  replace P7 := sp_1.mp P7
  obtain ⟨P8, h⟩ := snAll h
  replace P8 := sp_2.mp P8
  obtain ⟨P9, h⟩ := snAll h
  replace P9 := sp_2.mp P9
  obtain ⟨P10, h⟩ := snAll h
  replace P10 := sp_1.mp P10
  obtain ⟨P11, h⟩ := snAll h
  replace P11 := sp_1.mp P11
  obtain ⟨P12, h⟩ := snAll h
  replace P12 := sp_1.mp P12
  obtain ⟨P13, h⟩ := snAll h
  replace P13 := s_ge.mp P13
  obtain ⟨P14, h⟩ := snAll h
  replace P14 := sp_2.mp P14
  obtain ⟨P15, h⟩ := snAll h
  replace P15 := sp_2.mp P15
  obtain ⟨P16, h⟩ := snAll h
  replace P16 := sp_3.mp P16
  obtain ⟨P17, h⟩ := snAll h
  replace P17 := s_leoo.mp P17
  obtain ⟨P18, h⟩ := snAll h
  replace P18 := sp_1.mp P18
  obtain ⟨P19, h⟩ := snAll h
  replace P19 := sp_1.mp P19
  obtain ⟨P20, h⟩ := snAll h
  replace P20 := sp_2.mp P20
  obtain ⟨P21, h⟩ := snAll h
  replace P21 := sp_2.mp P21
  obtain ⟨P22, h⟩ := snAll h
  replace P22 := sp_2.mp P22
  obtain ⟨P23, h⟩ := snAll h
  replace P23 := sp_0.mp P23
  obtain ⟨P24, h⟩ := snAll h
  replace P24 := sp_0.mp P24
  have L : eRdy ((nthF fs 0)) ((nthF fs 1)) ((nthF fs 2)) ((nthZ zs 0)) ((nthZ zs 1)) ((nthZ zs 2)) ((nthZ zs 3)) ((nthZ zs 4)) ((nthZ zs 5)) ((nthZ zs 6)) ((nthZ zs 7)) ((nthZ zs 8)) := by
    apply M_rdK4 (F0 := nthF fs 0) (F1 := nthF fs 1) (F2 := nthF fs 2) (N0 := nthZ zs 0) (N1 := nthZ zs 1) (N2 := nthZ zs 2) (N3 := nthZ zs 3) (N4 := nthZ zs 4) (N5 := nthZ zs 5) (N6 := nthZ zs 6) (N7 := nthZ zs 7) (N8 := nthZ zs 8) (N9 := nthZ zs 9) (N10 := nthZ zs 10) (N11 := nthZ zs 11) (N12 := nthZ zs 12) (N13 := nthZ zs 13) (N14 := nthZ zs 14) (N15 := nthZ zs 15) (N16 := nthZ zs 16) (N17 := nthZ zs 17) (N18 := nthZ zs 18) (N19 := nthZ zs 19) (N20 := nthZ zs 20) (N21 := nthZ zs 21) (N22 := nthZ zs 22) (N23 := nthZ zs 23) <;> first | assumption | omega
  rcases List.mem_cons.mp hx with hx | hx
  · rw [hx]; refine s_rdy.mpr ?_; exact L
  · cases hx
def q_leY : qRl := ([(2, [1, 0, 5, 6], []), sp 1 [(7, 1), (1, (-1))], sp (-1) [(7, (-1)), (1, 1)], sp 0 [(5, 1), (7, (-1))], sp 0 [(7, 1), (5, (-1))], (72, [1, 0, 0, 7, 8, 9, 10], []), sp 0 [(2, 1), (8, (-1))], sp 0 [(3, 1), (9, (-1))], sp 0 [(4, 1), (10, (-1))], (1121, [3, 2, 3, 0, 11, 12, 13, 14, 15, 16, 17, 18, 19], []), sp 0 [(15, 1), (6, (-1))], sp 0 [(6, 1), (15, (-1))], sp 1 [(2, 1), (13, (-1))], sp 0 [(3, 1), (18, (-1))], sp 0 [(4, 1), (19, (-1))]], [(72, [1, 1, 0, 1, 2, 3, 4], [])])
theorem q_leY_ok : RlOk q_leY := by
  intro fs zs h x hx
  obtain ⟨P0, h⟩ := snAll h
  replace P0 := s_wr.mp P0
  obtain ⟨P1a, h⟩ := snAll h
  replace P1a := sp_2.mp P1a
  obtain ⟨P1b, h⟩ := snAll h
  replace P1b := sp_2.mp P1b
  obtain ⟨P2, h⟩ := snAll h
  replace P2 := sp_2.mp P2
  obtain ⟨P3, h⟩ := snAll h
  replace P3 := sp_2.mp P3
  obtain ⟨P4, h⟩ := snAll h
  replace P4 := s_leoo.mp P4
  obtain ⟨P5, h⟩ := snAll h
  replace P5 := sp_2.mp P5
  obtain ⟨P6, h⟩ := snAll h
  replace P6 := sp_2.mp P6
  obtain ⟨P7, h⟩ := snAll h
  replace P7 := sp_2.mp P7
  obtain ⟨P8, h⟩ := snAll h
  replace P8 := s_rdy.mp P8
  obtain ⟨P9, h⟩ := snAll h
  replace P9 := sp_2.mp P9
  obtain ⟨P10, h⟩ := snAll h
  replace P10 := sp_2.mp P10
  obtain ⟨P11, h⟩ := snAll h
  replace P11 := sp_2.mp P11
  obtain ⟨P12, h⟩ := snAll h
  replace P12 := sp_2.mp P12
  obtain ⟨P13, h⟩ := snAll h
  replace P13 := sp_2.mp P13
  have L : ∀ x : Int, (nthZ zs 0) ≤ x → x < (nthZ zs 1) → ((0 ≤ 0+(1)*(nthZ zs 2)+(-1)*(nthF fs 1) (x)) ∨ (0 ≤ 0+(1)*(nthZ zs 3)) ∨ (0 ≤ 0+(1)*(nthZ zs 4))) := by
    apply M_leY (F0 := nthF fs 0) (F1 := nthF fs 1) (F2 := nthF fs 2) (F3 := nthF fs 3) (N0 := nthZ zs 0) (N1 := nthZ zs 1) (N2 := nthZ zs 2) (N3 := nthZ zs 3) (N4 := nthZ zs 4) (N5 := nthZ zs 5) (N6 := nthZ zs 6) (N7 := nthZ zs 7) (N8 := nthZ zs 8) (N9 := nthZ zs 9) (N10 := nthZ zs 10) (N11 := nthZ zs 11) (N12 := nthZ zs 12) (N13 := nthZ zs 13) (N14 := nthZ zs 14) (N15 := nthZ zs 15) (N16 := nthZ zs 16) (N17 := nthZ zs 17) (N18 := nthZ zs 18) (N19 := nthZ zs 19) <;> first | assumption | omega
  rcases List.mem_cons.mp hx with hx | hx
  · rw [hx]; refine s_leoo.mpr ?_; exact L
  · cases hx
def q_ooX : qRl := ([(2, [1, 0, 5, 6], []), sp 1 [(7, 1), (1, (-1))], sp (-1) [(7, (-1)), (1, 1)], sp 0 [(5, 1), (7, (-1))], sp 0 [(7, 1), (5, (-1))], (73, [1, 0, 0, 7, 8, 9, 10], []), sp 0 [(2, 1), (8, (-1))], sp 0 [(9, 1), (3, (-1))], sp 0 [(4, 1), (10, (-1))], (3, [0, 11, 12, 13, 14], []), sp 0 [(11, (-1))], sp (-1) [(12, 1)], sp 0 [(2, 1), (6, (-1)), (13, (-1))], sp 0 [(6, 1), (3, (-1)), (14, (-1))]], [(73, [1, 1, 0, 1, 2, 3, 4], [])])
theorem q_ooX_ok : RlOk q_ooX := by
  intro fs zs h x hx
  obtain ⟨P0, h⟩ := snAll h
  replace P0 := s_wr.mp P0
  obtain ⟨P1a, h⟩ := snAll h
  replace P1a := sp_2.mp P1a
  obtain ⟨P1b, h⟩ := snAll h
  replace P1b := sp_2.mp P1b
  obtain ⟨P2, h⟩ := snAll h
  replace P2 := sp_2.mp P2
  obtain ⟨P3, h⟩ := snAll h
  replace P3 := sp_2.mp P3
  obtain ⟨P4, h⟩ := snAll h
  replace P4 := s_outo.mp P4
  obtain ⟨P5, h⟩ := snAll h
  replace P5 := sp_2.mp P5
  obtain ⟨P6, h⟩ := snAll h
  replace P6 := sp_2.mp P6
  obtain ⟨P7, h⟩ := snAll h
  replace P7 := sp_2.mp P7
  obtain ⟨P8, h⟩ := snAll h
  replace P8 := s_or2.mp P8
  obtain ⟨P9, h⟩ := snAll h
  replace P9 := sp_1.mp P9
  obtain ⟨P10, h⟩ := snAll h
  replace P10 := sp_1.mp P10
  obtain ⟨P11, h⟩ := snAll h
  replace P11 := sp_3.mp P11
  obtain ⟨P12, h⟩ := snAll h
  replace P12 := sp_3.mp P12
  have L : ∀ x : Int, (nthZ zs 0) ≤ x → x < (nthZ zs 1) → ((0 ≤ 0+(1)*(nthZ zs 2)+(-1)*(nthF fs 1) (x)) ∨ (0 ≤ 0+(-1)*(nthZ zs 3)+(1)*(nthF fs 1) (x)) ∨ (0 ≤ 0+(1)*(nthZ zs 4))) := by
    apply M_ooX (F0 := nthF fs 0) (F1 := nthF fs 1) (N0 := nthZ zs 0) (N1 := nthZ zs 1) (N2 := nthZ zs 2) (N3 := nthZ zs 3) (N4 := nthZ zs 4) (N5 := nthZ zs 5) (N6 := nthZ zs 6) (N7 := nthZ zs 7) (N8 := nthZ zs 8) (N9 := nthZ zs 9) (N10 := nthZ zs 10) (N11 := nthZ zs 11) (N12 := nthZ zs 12) (N13 := nthZ zs 13) (N14 := nthZ zs 14) <;> first | assumption | omega
  rcases List.mem_cons.mp hx with hx | hx
  · rw [hx]; refine s_outo.mpr ?_; exact L
  · cases hx
def q_ouX : qRl := ([(2, [1, 0, 5, 6], []), sp 1 [(7, 1), (1, (-1))], sp (-1) [(7, (-1)), (1, 1)], sp 0 [(5, 1), (7, (-1))], sp 0 [(7, 1), (5, (-1))], (26, [1, 0, 0, 7, 8, 9], []), sp 0 [(2, 1), (8, (-1))], sp 0 [(9, 1), (3, (-1))], (3, [0, 11, 12, 13, 14], []), sp 0 [(11, (-1))], sp (-1) [(12, 1)], sp 0 [(2, 1), (6, (-1)), (13, (-1))], sp 0 [(6, 1), (3, (-1)), (14, (-1))]], [(26, [1, 1, 0, 1, 2, 3], [])])
theorem q_ouX_ok : RlOk q_ouX := by
  intro fs zs h x hx
  obtain ⟨P0, h⟩ := snAll h
  replace P0 := s_wr.mp P0
  obtain ⟨P1a, h⟩ := snAll h
  replace P1a := sp_2.mp P1a
  obtain ⟨P1b, h⟩ := snAll h
  replace P1b := sp_2.mp P1b
  obtain ⟨P2, h⟩ := snAll h
  replace P2 := sp_2.mp P2
  obtain ⟨P3, h⟩ := snAll h
  replace P3 := sp_2.mp P3
  obtain ⟨P4, h⟩ := snAll h
  replace P4 := s_outr.mp P4
  obtain ⟨P5, h⟩ := snAll h
  replace P5 := sp_2.mp P5
  obtain ⟨P6, h⟩ := snAll h
  replace P6 := sp_2.mp P6
  obtain ⟨P7, h⟩ := snAll h
  replace P7 := s_or2.mp P7
  obtain ⟨P8, h⟩ := snAll h
  replace P8 := sp_1.mp P8
  obtain ⟨P9, h⟩ := snAll h
  replace P9 := sp_1.mp P9
  obtain ⟨P10, h⟩ := snAll h
  replace P10 := sp_3.mp P10
  obtain ⟨P11, h⟩ := snAll h
  replace P11 := sp_3.mp P11
  have L : ∀ x : Int, (nthZ zs 0) ≤ x → x < (nthZ zs 1) → ((0 ≤ 0+(1)*(nthZ zs 2)+(-1)*(nthF fs 1) (x)) ∨ (0 ≤ 0+(-1)*(nthZ zs 3)+(1)*(nthF fs 1) (x))) := by
    apply M_ouX (F0 := nthF fs 0) (F1 := nthF fs 1) (N0 := nthZ zs 0) (N1 := nthZ zs 1) (N2 := nthZ zs 2) (N3 := nthZ zs 3) (N4 := nthZ zs 4) (N5 := nthZ zs 5) (N6 := nthZ zs 6) (N7 := nthZ zs 7) (N8 := nthZ zs 8) (N9 := nthZ zs 9) (N10 := nthZ zs 10) (N11 := nthZ zs 11) (N12 := nthZ zs 12) (N13 := nthZ zs 13) (N14 := nthZ zs 14) <;> first | assumption | omega
  rcases List.mem_cons.mp hx with hx | hx
  · rw [hx]; refine s_outr.mpr ?_; exact L
  · cases hx
def q_tk1b : qRl := ([(22, [2, 3, 1, 8, 9, 10], []), sp 0 [(0, 1), (8, (-1))], sp (-1) [(9, 1), (0, (-1))], sp (-1) [(10, (-1))], (23, [2, 3, 1, 11, 12, 13], []), sp 0 [(0, 1), (11, (-1))], sp (-1) [(12, 1), (0, (-1))], sp (-1) [(13, (-1))], sp 0 [(1, 1)], (1, [5, 1, 6], []), sp 0 [(2, 1), (6, (-1))], sp 0 [(6, 1), (2, (-1))], (1127, [3, 0, 2, 6, 1, 7], []), sp 0 [(7, 1), (2, (-1))], sp 0 [(3, 1)], sp 0 [(3, (-1))]], [(1126, [7, 0, 1, 2, 3, 4, 5, 6, 0, 1, 2, 3], [])])
theorem q_tk1b_ok : RlOk q_tk1b := by
  intro fs zs h x hx
  obtain ⟨P0, h⟩ := snAll h
  replace P0 := s_dot_lo.mp P0
  obtain ⟨P1, h⟩ := snAll h
  replace P1 := sp_2.mp P1
  obtain ⟨P2, h⟩ := snAll h
  replace P2 := sp_2.mp P2
  obtain ⟨P3, h⟩ := snAll h
  replace P3 := sp_1.mp P3
  obtain ⟨P4, h⟩ := snAll h
  replace P4 := s_dot_hi.mp P4
  obtain ⟨P5, h⟩ := snAll h
  replace P5 := sp_2.mp P5
  obtain ⟨P6, h⟩ := snAll h
  replace P6 := sp_2.mp P6
  obtain ⟨P7, h⟩ := snAll h
  replace P7 := sp_1.mp P7
  obtain ⟨P8, h⟩ := snAll h
  replace P8 := sp_1.mp P8
  obtain ⟨P9, h⟩ := snAll h
  replace P9 := s_rd.mp P9
  obtain ⟨P10, h⟩ := snAll h
  replace P10 := sp_2.mp P10
  obtain ⟨P11, h⟩ := snAll h
  replace P11 := sp_2.mp P11
  obtain ⟨P12, h⟩ := snAll h
  replace P12 := s_plx.mp P12
  obtain ⟨P13, h⟩ := snAll h
  replace P13 := sp_2.mp P13
  obtain ⟨P14, h⟩ := snAll h
  replace P14 := sp_1.mp P14
  obtain ⟨P15, h⟩ := snAll h
  replace P15 := sp_1.mp P15
  have L : eTkp ((nthF fs 0)) ((nthF fs 1)) ((nthF fs 2)) ((nthF fs 3)) ((nthF fs 4)) ((nthF fs 5)) ((nthF fs 6)) ((nthZ zs 0)) ((nthZ zs 1)) ((nthZ zs 2)) ((nthZ zs 3)) := by
    apply M_tk1b (F0 := nthF fs 0) (F1 := nthF fs 1) (F2 := nthF fs 2) (F3 := nthF fs 3) (F4 := nthF fs 4) (F5 := nthF fs 5) (F6 := nthF fs 6) (N0 := nthZ zs 0) (N1 := nthZ zs 1) (N2 := nthZ zs 2) (N3 := nthZ zs 3) (N4 := nthZ zs 4) (N5 := nthZ zs 5) (N6 := nthZ zs 6) (N7 := nthZ zs 7) (N8 := nthZ zs 8) (N9 := nthZ zs 9) (N10 := nthZ zs 10) (N11 := nthZ zs 11) (N12 := nthZ zs 12) (N13 := nthZ zs 13) <;> first | assumption | omega
  rcases List.mem_cons.mp hx with hx | hx
  · rw [hx]; refine s_tkp.mpr ?_; exact L
  · cases hx
def q_s1L : qRl := ([(1139, [7, 0, 1, 2, 3, 4, 5, 6, 3, 4, 5, 6], []), sp 0 [(0, 1), (3, (-1))], sp 0 [(5, 1), (1, (-1))]], [(70, [2, 0, 1, 0, 1], [])])
theorem q_s1L_ok : RlOk q_s1L := by
  intro fs zs h x hx
  obtain ⟨P0, h⟩ := snAll h
  replace P0 := s_sh1.mp P0
  obtain ⟨P1, h⟩ := snAll h
  replace P1 := sp_2.mp P1
  obtain ⟨P2, h⟩ := snAll h
  replace P2 := sp_2.mp P2
  have L : ∀ x : Int, (nthZ zs 0) ≤ x → x < (nthZ zs 1) → ((0 ≤ 4+(-1)*(nthF fs 0) (x)) ∨ (0 ≤ 0+(-1)*(nthF fs 1) (x))) := by
    apply M_s1L (F0 := nthF fs 0) (F1 := nthF fs 1) (F2 := nthF fs 2) (F3 := nthF fs 3) (F4 := nthF fs 4) (F5 := nthF fs 5) (F6 := nthF fs 6) (N0 := nthZ zs 0) (N1 := nthZ zs 1) (N2 := nthZ zs 2) (N3 := nthZ zs 3) (N4 := nthZ zs 4) (N5 := nthZ zs 5) (N6 := nthZ zs 6) <;> first | assumption | omega
  rcases List.mem_cons.mp hx with hx | hx
  · rw [hx]; refine s_lz0.mpr ?_; exact L
  · cases hx
def q_lpX0 : qRl := ([sp 1 [(6, 1), (1, (-1))], sp (-1) [(6, (-1)), (1, 1)], sp 0 [(6, 1), (0, (-1))], (1142, [4, 0, 1, 2, 3, 0, 6, 12, 3, 4, 5], []), (1, [1, 6, 8], []), sp 0 [(8, 1)], sp 0 [(8, (-1))], (1, [2, 6, 9], []), sp 0 [(9, 1)], (1, [3, 6, 7], []), sp 0 [(7, 1)], sp 0 [(7, 1), (12, (-1))], sp 0 [(12, 1), (7, (-1))], sp 0 [(2, 1), (7, (-1)), (9, (-1))], sp 0 [(7, 1), (9, 1), (2, (-1))], (70, [2, 0, 2, 10, 11], []), sp 0 [(6, 1), (10, (-1))], sp (-1) [(11, 1), (6, (-1))]], [(1142, [4, 0, 1, 2, 3, 0, 1, 2, 3, 4, 5], [])])
theorem q_lpX0_ok : RlOk q_lpX0 := by
  intro fs zs h x hx
  obtain ⟨P0a, h⟩ := snAll h
  replace P0a := sp_2.mp P0a
  obtain ⟨P0b, h⟩ := snAll h
  replace P0b := sp_2.mp P0b
  obtain ⟨P1, h⟩ := snAll h
  replace P1 := sp_2.mp P1
  obtain ⟨P2, h⟩ := snAll h
  replace P2 := s_layp.mp P2
  obtain ⟨P3, h⟩ := snAll h
  replace P3 := s_rd.mp P3
  obtain ⟨P4, h⟩ := snAll h
  replace P4 := sp_1.mp P4
  obtain ⟨P5, h⟩ := snAll h
  replace P5 := sp_1.mp P5
  obtain ⟨P6, h⟩ := snAll h
  replace P6 := s_rd.mp P6
  obtain ⟨P7, h⟩ := snAll h
  replace P7 := sp_1.mp P7
  obtain ⟨P8, h⟩ := snAll h
  replace P8 := s_rd.mp P8
  obtain ⟨P9, h⟩ := snAll h
  replace P9 := sp_1.mp P9
  obtain ⟨P10, h⟩ := snAll h
  replace P10 := sp_2.mp P10
  obtain ⟨P11, h⟩ := snAll h
  replace P11 := sp_2.mp P11
  obtain ⟨P12, h⟩ := snAll h
  replace P12 := sp_3.mp P12
  obtain ⟨P13, h⟩ := snAll h
  replace P13 := sp_3.mp P13
  obtain ⟨P14, h⟩ := snAll h
  replace P14 := s_lz0.mp P14
  obtain ⟨P15, h⟩ := snAll h
  replace P15 := sp_2.mp P15
  obtain ⟨P16, h⟩ := snAll h
  replace P16 := sp_2.mp P16
  have L : eLayp ((nthF fs 0)) ((nthF fs 1)) ((nthF fs 2)) ((nthF fs 3)) ((nthZ zs 0)) ((nthZ zs 1)) ((nthZ zs 2)) ((nthZ zs 3)) ((nthZ zs 4)) ((nthZ zs 5)) := by
    apply M_lpX0 (F0 := nthF fs 0) (F1 := nthF fs 1) (F2 := nthF fs 2) (F3 := nthF fs 3) (N0 := nthZ zs 0) (N1 := nthZ zs 1) (N2 := nthZ zs 2) (N3 := nthZ zs 3) (N4 := nthZ zs 4) (N5 := nthZ zs 5) (N6 := nthZ zs 6) (N7 := nthZ zs 7) (N8 := nthZ zs 8) (N9 := nthZ zs 9) (N10 := nthZ zs 10) (N11 := nthZ zs 11) (N12 := nthZ zs 12) <;> first | assumption | omega
  rcases List.mem_cons.mp hx with hx | hx
  · rw [hx]; refine s_layp.mpr ?_; exact L
  · cases hx
def q_lpX1 : qRl := ([sp 1 [(6, 1), (1, (-1))], sp (-1) [(6, (-1)), (1, 1)], sp 0 [(6, 1), (0, (-1))], (1142, [4, 0, 1, 2, 3, 0, 6, 2, 13, 4, 5], []), (1, [1, 6, 8], []), sp (-1) [(8, 1)], sp 1 [(8, (-1))], (1, [2, 6, 9], []), sp 0 [(9, 1)], (1, [3, 6, 7], []), sp 0 [(7, 1)], sp 0 [(7, 1), (13, (-1))], sp 0 [(13, 1), (7, (-1))], sp 0 [(3, 1), (7, (-1)), (9, (-1))], sp 0 [(7, 1), (9, 1), (3, (-1))], (70, [2, 0, 2, 10, 11], []), sp 0 [(6, 1), (10, (-1))], sp (-1) [(11, 1), (6, (-1))]], [(1142, [4, 0, 1, 2, 3, 0, 1, 2, 3, 4, 5], [])])
theorem q_lpX1_ok : RlOk q_lpX1 := by
  intro fs zs h x hx
  obtain ⟨P0a, h⟩ := snAll h
  replace P0a := sp_2.mp P0a
  obtain ⟨P0b, h⟩ := snAll h
  replace P0b := sp_2.mp P0b
  obtain ⟨P1, h⟩ := snAll h
  replace P1 := sp_2.mp P1
  obtain ⟨P2, h⟩ := snAll h
  replace P2 := s_layp.mp P2
  obtain ⟨P3, h⟩ := snAll h
  replace P3 := s_rd.mp P3
  obtain ⟨P4, h⟩ := snAll h
  replace P4 := sp_1.mp P4
  obtain ⟨P5, h⟩ := snAll h
  replace P5 := sp_1.mp P5
  obtain ⟨P6, h⟩ := snAll h
  replace P6 := s_rd.mp P6
  obtain ⟨P7, h⟩ := snAll h
  replace P7 := sp_1.mp P7
  obtain ⟨P8, h⟩ := snAll h
  replace P8 := s_rd.mp P8
  obtain ⟨P9, h⟩ := snAll h
  replace P9 := sp_1.mp P9
  obtain ⟨P10, h⟩ := snAll h
  replace P10 := sp_2.mp P10
  obtain ⟨P11, h⟩ := snAll h
  replace P11 := sp_2.mp P11
  obtain ⟨P12, h⟩ := snAll h
  replace P12 := sp_3.mp P12
  obtain ⟨P13, h⟩ := snAll h
  replace P13 := sp_3.mp P13
  obtain ⟨P14, h⟩ := snAll h
  replace P14 := s_lz0.mp P14
  obtain ⟨P15, h⟩ := snAll h
  replace P15 := sp_2.mp P15
  obtain ⟨P16, h⟩ := snAll h
  replace P16 := sp_2.mp P16
  have L : eLayp ((nthF fs 0)) ((nthF fs 1)) ((nthF fs 2)) ((nthF fs 3)) ((nthZ zs 0)) ((nthZ zs 1)) ((nthZ zs 2)) ((nthZ zs 3)) ((nthZ zs 4)) ((nthZ zs 5)) := by
    apply M_lpX1 (F0 := nthF fs 0) (F1 := nthF fs 1) (F2 := nthF fs 2) (F3 := nthF fs 3) (N0 := nthZ zs 0) (N1 := nthZ zs 1) (N2 := nthZ zs 2) (N3 := nthZ zs 3) (N4 := nthZ zs 4) (N5 := nthZ zs 5) (N6 := nthZ zs 6) (N7 := nthZ zs 7) (N8 := nthZ zs 8) (N9 := nthZ zs 9) (N10 := nthZ zs 10) (N11 := nthZ zs 11) (N12 := nthZ zs 12) (N13 := nthZ zs 13) <;> first | assumption | omega
  rcases List.mem_cons.mp hx with hx | hx
  · rw [hx]; refine s_layp.mpr ?_; exact L
  · cases hx
def q_lpX2 : qRl := ([sp 1 [(6, 1), (1, (-1))], sp (-1) [(6, (-1)), (1, 1)], sp 0 [(6, 1), (0, (-1))], (1142, [4, 0, 1, 2, 3, 0, 6, 2, 3, 14, 5], []), (1, [1, 6, 8], []), sp (-2) [(8, 1)], sp 2 [(8, (-1))], (1, [2, 6, 9], []), sp 0 [(9, 1)], (1, [3, 6, 7], []), sp 0 [(7, 1)], sp 0 [(7, 1), (14, (-1))], sp 0 [(14, 1), (7, (-1))], sp 0 [(4, 1), (7, (-1)), (9, (-1))], sp 0 [(7, 1), (9, 1), (4, (-1))], (70, [2, 0, 2, 10, 11], []), sp 0 [(6, 1), (10, (-1))], sp (-1) [(11, 1), (6, (-1))]], [(1142, [4, 0, 1, 2, 3, 0, 1, 2, 3, 4, 5], [])])
theorem q_lpX2_ok : RlOk q_lpX2 := by
  intro fs zs h x hx
  obtain ⟨P0a, h⟩ := snAll h
  replace P0a := sp_2.mp P0a
  obtain ⟨P0b, h⟩ := snAll h
  replace P0b := sp_2.mp P0b
  obtain ⟨P1, h⟩ := snAll h
  replace P1 := sp_2.mp P1
  obtain ⟨P2, h⟩ := snAll h
  replace P2 := s_layp.mp P2
  obtain ⟨P3, h⟩ := snAll h
  replace P3 := s_rd.mp P3
  obtain ⟨P4, h⟩ := snAll h
  replace P4 := sp_1.mp P4
  obtain ⟨P5, h⟩ := snAll h
  replace P5 := sp_1.mp P5
  obtain ⟨P6, h⟩ := snAll h
  replace P6 := s_rd.mp P6
  obtain ⟨P7, h⟩ := snAll h
  replace P7 := sp_1.mp P7
  obtain ⟨P8, h⟩ := snAll h
  replace P8 := s_rd.mp P8
  obtain ⟨P9, h⟩ := snAll h
  replace P9 := sp_1.mp P9
  obtain ⟨P10, h⟩ := snAll h
  replace P10 := sp_2.mp P10
  obtain ⟨P11, h⟩ := snAll h
  replace P11 := sp_2.mp P11
  obtain ⟨P12, h⟩ := snAll h
  replace P12 := sp_3.mp P12
  obtain ⟨P13, h⟩ := snAll h
  replace P13 := sp_3.mp P13
  obtain ⟨P14, h⟩ := snAll h
  replace P14 := s_lz0.mp P14
  obtain ⟨P15, h⟩ := snAll h
  replace P15 := sp_2.mp P15
  obtain ⟨P16, h⟩ := snAll h
  replace P16 := sp_2.mp P16
  have L : eLayp ((nthF fs 0)) ((nthF fs 1)) ((nthF fs 2)) ((nthF fs 3)) ((nthZ zs 0)) ((nthZ zs 1)) ((nthZ zs 2)) ((nthZ zs 3)) ((nthZ zs 4)) ((nthZ zs 5)) := by
    apply M_lpX2 (F0 := nthF fs 0) (F1 := nthF fs 1) (F2 := nthF fs 2) (F3 := nthF fs 3) (N0 := nthZ zs 0) (N1 := nthZ zs 1) (N2 := nthZ zs 2) (N3 := nthZ zs 3) (N4 := nthZ zs 4) (N5 := nthZ zs 5) (N6 := nthZ zs 6) (N7 := nthZ zs 7) (N8 := nthZ zs 8) (N9 := nthZ zs 9) (N10 := nthZ zs 10) (N11 := nthZ zs 11) (N12 := nthZ zs 12) (N13 := nthZ zs 13) (N14 := nthZ zs 14) <;> first | assumption | omega
  rcases List.mem_cons.mp hx with hx | hx
  · rw [hx]; refine s_layp.mpr ?_; exact L
  · cases hx
def q_lpX3 : qRl := ([sp 1 [(6, 1), (1, (-1))], sp (-1) [(6, (-1)), (1, 1)], sp 0 [(6, 1), (0, (-1))], (1142, [4, 0, 1, 2, 3, 0, 6, 2, 3, 4, 15], []), (1, [1, 6, 8], []), sp (-3) [(8, 1)], sp 3 [(8, (-1))], (1, [2, 6, 9], []), sp 0 [(9, 1)], (1, [3, 6, 7], []), sp 0 [(7, 1)], sp 0 [(7, 1), (15, (-1))], sp 0 [(15, 1), (7, (-1))], sp 0 [(5, 1), (7, (-1)), (9, (-1))], sp 0 [(7, 1), (9, 1), (5, (-1))], (70, [2, 0, 2, 10, 11], []), sp 0 [(6, 1), (10, (-1))], sp (-1) [(11, 1), (6, (-1))]], [(1142, [4, 0, 1, 2, 3, 0, 1, 2, 3, 4, 5], [])])
theorem q_lpX3_ok : RlOk q_lpX3 := by
  intro fs zs h x hx
  obtain ⟨P0a, h⟩ := snAll h
  replace P0a := sp_2.mp P0a
  obtain ⟨P0b, h⟩ := snAll h
  replace P0b := sp_2.mp P0b
  obtain ⟨P1, h⟩ := snAll h
  replace P1 := sp_2.mp P1
  obtain ⟨P2, h⟩ := snAll h
  replace P2 := s_layp.mp P2
  obtain ⟨P3, h⟩ := snAll h
  replace P3 := s_rd.mp P3
  obtain ⟨P4, h⟩ := snAll h
  replace P4 := sp_1.mp P4
  obtain ⟨P5, h⟩ := snAll h
  replace P5 := sp_1.mp P5
  obtain ⟨P6, h⟩ := snAll h
  replace P6 := s_rd.mp P6
  obtain ⟨P7, h⟩ := snAll h
  replace P7 := sp_1.mp P7
  obtain ⟨P8, h⟩ := snAll h
  replace P8 := s_rd.mp P8
  obtain ⟨P9, h⟩ := snAll h
  replace P9 := sp_1.mp P9
  obtain ⟨P10, h⟩ := snAll h
  replace P10 := sp_2.mp P10
  obtain ⟨P11, h⟩ := snAll h
  replace P11 := sp_2.mp P11
  obtain ⟨P12, h⟩ := snAll h
  replace P12 := sp_3.mp P12
  obtain ⟨P13, h⟩ := snAll h
  replace P13 := sp_3.mp P13
  obtain ⟨P14, h⟩ := snAll h
  replace P14 := s_lz0.mp P14
  obtain ⟨P15, h⟩ := snAll h
  replace P15 := sp_2.mp P15
  obtain ⟨P16, h⟩ := snAll h
  replace P16 := sp_2.mp P16
  have L : eLayp ((nthF fs 0)) ((nthF fs 1)) ((nthF fs 2)) ((nthF fs 3)) ((nthZ zs 0)) ((nthZ zs 1)) ((nthZ zs 2)) ((nthZ zs 3)) ((nthZ zs 4)) ((nthZ zs 5)) := by
    apply M_lpX3 (F0 := nthF fs 0) (F1 := nthF fs 1) (F2 := nthF fs 2) (F3 := nthF fs 3) (N0 := nthZ zs 0) (N1 := nthZ zs 1) (N2 := nthZ zs 2) (N3 := nthZ zs 3) (N4 := nthZ zs 4) (N5 := nthZ zs 5) (N6 := nthZ zs 6) (N7 := nthZ zs 7) (N8 := nthZ zs 8) (N9 := nthZ zs 9) (N10 := nthZ zs 10) (N11 := nthZ zs 11) (N12 := nthZ zs 12) (N13 := nthZ zs 13) (N14 := nthZ zs 14) (N15 := nthZ zs 15) <;> first | assumption | omega
  rcases List.mem_cons.mp hx with hx | hx
  · rw [hx]; refine s_layp.mpr ?_; exact L
  · cases hx
def q_lyM : qRl := ([(1143, [5, 0, 1, 2, 3, 4, 4, 5, 6, 7], []), sp 0 [(7, (-1))], (71, [3, 0, 3, 2, 8, 9, 10], []), sp 1 [(3, 1), (10, (-1))], sp 0 [(4, 1), (8, (-1))], sp 0 [(9, 1), (5, (-1))], sp 0 [(0, 1), (6, (-4))], sp 4 [(6, 4), (1, (-1))], sp (-65536) [(2, 1)]], [(13, [1, 4, 0, 1, 2, 3], [])])
theorem q_lyM_ok : RlOk q_lyM := by
  intro fs zs h x hx
  obtain ⟨P0, h⟩ := snAll h
  replace P0 := s_lay.mp P0
  obtain ⟨P1, h⟩ := snAll h
  replace P1 := sp_1.mp P1
  obtain ⟨P2, h⟩ := snAll h
  replace P2 := s_nov.mp P2
  obtain ⟨P3, h⟩ := snAll h
  replace P3 := sp_2.mp P3
  obtain ⟨P4, h⟩ := snAll h
  replace P4 := sp_2.mp P4
  obtain ⟨P5, h⟩ := snAll h
  replace P5 := sp_2.mp P5
  obtain ⟨P6, h⟩ := snAll h
  replace P6 := sp_2.mp P6
  obtain ⟨P7, h⟩ := snAll h
  replace P7 := sp_2.mp P7
  obtain ⟨P8, h⟩ := snAll h
  replace P8 := sp_1.mp P8
  have L : ∀ x, (nthZ zs 0) ≤ x → x < (nthZ zs 1) → ((nthF fs 4) x ≤ (nthZ zs 2) ∨ 0 ≤ (nthZ zs 3)) := by
    apply M_lyM (F0 := nthF fs 0) (F1 := nthF fs 1) (F2 := nthF fs 2) (F3 := nthF fs 3) (F4 := nthF fs 4) (N0 := nthZ zs 0) (N1 := nthZ zs 1) (N2 := nthZ zs 2) (N3 := nthZ zs 3) (N4 := nthZ zs 4) (N5 := nthZ zs 5) (N6 := nthZ zs 6) (N7 := nthZ zs 7) (N8 := nthZ zs 8) (N9 := nthZ zs 9) (N10 := nthZ zs 10) <;> first | assumption | omega
  rcases List.mem_cons.mp hx with hx | hx
  · rw [hx]; refine s_le_or.mpr ?_; exact L
  · cases hx
def q_cmC : qRl := ([(2, [14, 11, 5, 6], []), (2, [15, 12, 7, 8], []), sp 0 [(5, 1), (3, (-1))], sp 0 [(3, 1), (5, (-1))], sp 0 [(6, 1), (0, (-1))], sp 0 [(0, 1), (6, (-1))], sp 0 [(7, 1), (3, (-1))], sp 0 [(3, 1), (7, (-1))], sp 0 [(8, 1), (1, (-1))], sp 0 [(1, 1), (8, (-1))], (1119, [14, 0, 1, 2, 3, 4, 5, 6, 7, 8, 9, 10, 11, 12, 13, 10, 11, 12, 13], []), sp (-1) [(3, 1), (13, (-1))], sp 1 [(13, 1), (3, (-1))], sp 0 [(2, 1), (12, (-1))], sp 0 [(13, 1)], sp 0 [(0, 1), (10, (-1))], sp 0 [(1, 1), (11, (-1))], (1141, [8, 0, 2, 5, 6, 7, 4, 8, 10, 10, 11, 0, 1, 15], []), sp 0 [(15, (-1))], (1143, [5, 0, 1, 2, 3, 13, 10, 0, 46, 16], []), sp 0 [(16, (-1))], sp 0 [(46, 1), (13, (-1))], sp 0 [(13, 1), (46, (-1))], (1122, [4, 8, 9, 16, 17, 11, 1, 17, 18], []), sp (-1) [(18, (-1))], (1138, [3, 16, 17, 10, 17, 19], []), sp 0 [(19, (-1))], (6, [1, 11, 20, 21, 22], []), sp 0 [(13, 1), (20, (-1))], sp (-1) [(21, 1), (13, (-1))], sp 0 [(10, 1), (22, (-1))], (5, [1, 11, 23, 24, 25], []), sp 0 [(13, 1), (23, (-1))], sp (-1) [(24, 1), (13, (-1))], sp 0 [(25, 1), (10, (-1))], (6, [1, 12, 26, 27, 28], []), sp 0 [(13, 1), (26, (-1))], sp (-1) [(27, 1), (13, (-1))], sp 0 [(11, 1), (28, (-1))], (5, [1, 12, 29, 30, 31], []), sp 0 [(13, 1), (29, (-1))], sp (-1) [(30, 1), (13, (-1))], sp 0 [(31, 1), (11, (-1))], (73, [1, 8, 32, 33, 34, 35, 43], []), sp (-1) [(43, (-1))], sp 0 [(11, 1), (32, (-1))], sp 0 [(33, 1), (1, (-1))], sp (-1) [(2, 1), (34, (-1))], sp (-1048576) [(35, 1)], (73, [1, 9, 36, 37, 38, 39, 44], []), sp (-1) [(44, (-1))], sp 0 [(11, 1), (36, (-1))], sp 0 [(37, 1), (1, (-1))], sp (-1) [(2, 1), (38, (-1))], sp (-1048576) [(39, 1)], (13, [1, 13, 40, 41, 42, 45], []), sp (-1) [(45, (-1))], sp 0 [(13, 4), (40, (-1))], sp (-4) [(41, 1), (13, (-4))], sp 65536 [(42, (-1))]], [(1119, [14, 0, 1, 2, 3, 4, 5, 6, 7, 8, 9, 10, 14, 15, 13, 0, 1, 2, 3], [])])
theorem q_cmC_ok : RlOk q_cmC := by
  intro fs zs h x hx
  obtain ⟨P0, h⟩ := snAll h
  replace P0 := s_wr.mp P0
  obtain ⟨P1, h⟩ := snAll h
  replace P1 := s_wr.mp P1
  obtain ⟨P2, h⟩ := snAll h
  replace P2 := sp_2.mp P2
  obtain ⟨P3, h⟩ := snAll h
  replace P3 := sp_2.mp P3
  obtain ⟨P4, h⟩ := snAll h
  replace P4 := sp_2.mp P4
  obtain ⟨P5, h⟩ := snAll h
  replace P5 := sp_2.mp P5
  obtain ⟨P6, h⟩ := snAll h
  replace P6 := sp_2.mp P6
  obtain ⟨P7, h⟩ := snAll h
  replace P7 := sp_2.mp P7
  obtain ⟨P8, h⟩ := snAll h
  replace P8 := sp_2.mp P8
  obtain ⟨P9, h⟩ := snAll h
  replace P9 := sp_2.mp P9
  obtain ⟨P10, h⟩ := snAll h
  replace P10 := s_cmt.mp P10
  obtain ⟨P11, h⟩ := snAll h
  replace P11 := sp_2.mp P11
  obtain ⟨P12, h⟩ := snAll h
  replace P12 := sp_2.mp P12
  obtain ⟨P13, h⟩ := snAll h
  replace P13 := sp_2.mp P13
  obtain ⟨P14, h⟩ := snAll h
  replace P14 := sp_1.mp P14
  obtain ⟨P15, h⟩ := snAll h
  replace P15 := sp_2.mp P15
  obtain ⟨P16, h⟩ := snAll h
  replace P16 := sp_2.mp P16
  obtain ⟨P17, h⟩ := snAll h
  replace P17 := s_fin.mp P17
  obtain ⟨P18, h⟩ := snAll h
  replace P18 := sp_1.mp P18
  obtain ⟨P19, h⟩ := snAll h
  replace P19 := s_lay.mp P19
  obtain ⟨P20, h⟩ := snAll h
  replace P20 := sp_1.mp P20
  obtain ⟨P21, h⟩ := snAll h
  replace P21 := sp_2.mp P21
  obtain ⟨P22, h⟩ := snAll h
  replace P22 := sp_2.mp P22
  obtain ⟨P23, h⟩ := snAll h
  replace P23 := s_spc.mp P23
  obtain ⟨P24, h⟩ := snAll h
  replace P24 := sp_1.mp P24
  obtain ⟨P25, h⟩ := snAll h
  replace P25 := s_spk.mp P25
  obtain ⟨P26, h⟩ := snAll h
  replace P26 := sp_1.mp P26
  obtain ⟨P27, h⟩ := snAll h
  replace P27 := s_le.mp P27
  obtain ⟨P28, h⟩ := snAll h
  replace P28 := sp_2.mp P28
  obtain ⟨P29, h⟩ := snAll h
  replace P29 := sp_2.mp P29
  obtain ⟨P30, h⟩ := snAll h
  replace P30 := sp_2.mp P30
  obtain ⟨P31, h⟩ := snAll h
  replace P31 := s_ge.mp P31
  obtain ⟨P32, h⟩ := snAll h
  replace P32 := sp_2.mp P32
  obtain ⟨P33, h⟩ := snAll h
  replace P33 := sp_2.mp P33
  obtain ⟨P34, h⟩ := snAll h
  replace P34 := sp_2.mp P34
  obtain ⟨P35, h⟩ := snAll h
  replace P35 := s_le.mp P35
  obtain ⟨P36, h⟩ := snAll h
  replace P36 := sp_2.mp P36
  obtain ⟨P37, h⟩ := snAll h
  replace P37 := sp_2.mp P37
  obtain ⟨P38, h⟩ := snAll h
  replace P38 := sp_2.mp P38
  obtain ⟨P39, h⟩ := snAll h
  replace P39 := s_ge.mp P39
  obtain ⟨P40, h⟩ := snAll h
  replace P40 := sp_2.mp P40
  obtain ⟨P41, h⟩ := snAll h
  replace P41 := sp_2.mp P41
  obtain ⟨P42, h⟩ := snAll h
  replace P42 := sp_2.mp P42
  obtain ⟨P43, h⟩ := snAll h
  replace P43 := s_outo.mp P43
  obtain ⟨P44, h⟩ := snAll h
  replace P44 := sp_1.mp P44
  obtain ⟨P45, h⟩ := snAll h
  replace P45 := sp_2.mp P45
  obtain ⟨P46, h⟩ := snAll h
  replace P46 := sp_2.mp P46
  obtain ⟨P47, h⟩ := snAll h
  replace P47 := sp_2.mp P47
  obtain ⟨P48, h⟩ := snAll h
  replace P48 := sp_1.mp P48
  obtain ⟨P49, h⟩ := snAll h
  replace P49 := s_outo.mp P49
  obtain ⟨P50, h⟩ := snAll h
  replace P50 := sp_1.mp P50
  obtain ⟨P51, h⟩ := snAll h
  replace P51 := sp_2.mp P51
  obtain ⟨P52, h⟩ := snAll h
  replace P52 := sp_2.mp P52
  obtain ⟨P53, h⟩ := snAll h
  replace P53 := sp_2.mp P53
  obtain ⟨P54, h⟩ := snAll h
  replace P54 := sp_1.mp P54
  obtain ⟨P55, h⟩ := snAll h
  replace P55 := s_le_or.mp P55
  obtain ⟨P56, h⟩ := snAll h
  replace P56 := sp_1.mp P56
  obtain ⟨P57, h⟩ := snAll h
  replace P57 := sp_2.mp P57
  obtain ⟨P58, h⟩ := snAll h
  replace P58 := sp_2.mp P58
  obtain ⟨P59, h⟩ := snAll h
  replace P59 := sp_1.mp P59
  have L : eCmt ((nthF fs 0)) ((nthF fs 1)) ((nthF fs 2)) ((nthF fs 3)) ((nthF fs 4)) ((nthF fs 5)) ((nthF fs 6)) ((nthF fs 7)) ((nthF fs 8)) ((nthF fs 9)) ((nthF fs 10)) ((nthF fs 14)) ((nthF fs 15)) ((nthF fs 13)) ((nthZ zs 0)) ((nthZ zs 1)) ((nthZ zs 2)) ((nthZ zs 3)) := by
    apply M_cmC (F0 := nthF fs 0) (F1 := nthF fs 1) (F2 := nthF fs 2) (F3 := nthF fs 3) (F4 := nthF fs 4) (F5 := nthF fs 5) (F6 := nthF fs 6) (F7 := nthF fs 7) (F8 := nthF fs 8) (F9 := nthF fs 9) (F10 := nthF fs 10) (F11 := nthF fs 11) (F12 := nthF fs 12) (F13 := nthF fs 13) (F14 := nthF fs 14) (F15 := nthF fs 15) (F16 := nthF fs 16) (F17 := nthF fs 17) (N0 := nthZ zs 0) (N1 := nthZ zs 1) (N2 := nthZ zs 2) (N3 := nthZ zs 3) (N4 := nthZ zs 4) (N5 := nthZ zs 5) (N6 := nthZ zs 6) (N7 := nthZ zs 7) (N8 := nthZ zs 8) (N9 := nthZ zs 9) (N10 := nthZ zs 10) (N11 := nthZ zs 11) (N12 := nthZ zs 12) (N13 := nthZ zs 13) (N14 := nthZ zs 14) (N15 := nthZ zs 15) (N16 := nthZ zs 16) (N17 := nthZ zs 17) (N18 := nthZ zs 18) (N19 := nthZ zs 19) (N20 := nthZ zs 20) (N21 := nthZ zs 21) (N22 := nthZ zs 22) (N23 := nthZ zs 23) (N24 := nthZ zs 24) (N25 := nthZ zs 25) (N26 := nthZ zs 26) (N27 := nthZ zs 27) (N28 := nthZ zs 28) (N29 := nthZ zs 29) (N30 := nthZ zs 30) (N31 := nthZ zs 31) (N32 := nthZ zs 32) (N33 := nthZ zs 33) (N34 := nthZ zs 34) (N35 := nthZ zs 35) (N36 := nthZ zs 36) (N37 := nthZ zs 37) (N38 := nthZ zs 38) (N39 := nthZ zs 39) (N40 := nthZ zs 40) (N41 := nthZ zs 41) (N42 := nthZ zs 42) (N43 := nthZ zs 43) (N44 := nthZ zs 44) (N45 := nthZ zs 45) (N46 := nthZ zs 46) <;> first | assumption | omega
  rcases List.mem_cons.mp hx with hx | hx
  · rw [hx]; refine s_cmt.mpr ?_; exact L
  · cases hx
def q_iu0 : qRl := ([(1119, [14, 4, 2, 8, 3, 9, 10, 11, 12, 13, 14, 15, 6, 16, 17, 3, 4, 5, 0], []), sp 0 [(1, 1)], sp 0 [(1, (-1))], sp 0 [(2, 1)], sp 0 [(2, (-1))]], [(1156, [7, 0, 1, 2, 3, 4, 5, 6, 0, 1, 2], [])])
theorem q_iu0_ok : RlOk q_iu0 := by
  intro fs zs h x hx
  obtain ⟨P0, h⟩ := snAll h
  replace P0 := s_cmt.mp P0
  obtain ⟨P1, h⟩ := snAll h
  replace P1 := sp_1.mp P1
  obtain ⟨P2, h⟩ := snAll h
  replace P2 := sp_1.mp P2
  obtain ⟨P3, h⟩ := snAll h
  replace P3 := sp_1.mp P3
  obtain ⟨P4, h⟩ := snAll h
  replace P4 := sp_1.mp P4
  have L : eImu ((nthF fs 0)) ((nthF fs 1)) ((nthF fs 2)) ((nthF fs 3)) ((nthF fs 4)) ((nthF fs 5)) ((nthF fs 6)) ((nthZ zs 0)) ((nthZ zs 1)) ((nthZ zs 2)) := by
    apply M_iu0 (F0 := nthF fs 0) (F1 := nthF fs 1) (F2 := nthF fs 2) (F3 := nthF fs 3) (F4 := nthF fs 4) (F5 := nthF fs 5) (F6 := nthF fs 6) (F7 := nthF fs 7) (F8 := nthF fs 8) (F9 := nthF fs 9) (F10 := nthF fs 10) (F11 := nthF fs 11) (F12 := nthF fs 12) (F13 := nthF fs 13) (F14 := nthF fs 14) (F15 := nthF fs 15) (F16 := nthF fs 16) (F17 := nthF fs 17) (N0 := nthZ zs 0) (N1 := nthZ zs 1) (N2 := nthZ zs 2) (N3 := nthZ zs 3) (N4 := nthZ zs 4) (N5 := nthZ zs 5) <;> first | assumption | omega
  rcases List.mem_cons.mp hx with hx | hx
  · rw [hx]; refine s_imu.mpr ?_; exact L
  · cases hx
def q_iuA : qRl := ([(1150, [7, 0, 1, 2, 3, 4, 5, 6, 0, 3, 2], []), (1, [6, 1, 4], []), sp 0 [(4, 1), (3, (-1))], sp 0 [(3, 1), (4, (-1))]], [(1156, [7, 0, 1, 2, 3, 4, 5, 6, 0, 1, 2], [])])
theorem q_iuA_ok : RlOk q_iuA := by
  intro fs zs h x hx
  obtain ⟨P0, h⟩ := snAll h
  replace P0 := s_imc.mp P0
  obtain ⟨P1, h⟩ := snAll h
  replace P1 := s_rd.mp P1
  obtain ⟨P2, h⟩ := snAll h
  replace P2 := sp_2.mp P2
  obtain ⟨P3, h⟩ := snAll h
  replace P3 := sp_2.mp P3
  have L : eImu ((nthF fs 0)) ((nthF fs 1)) ((nthF fs 2)) ((nthF fs 3)) ((nthF fs 4)) ((nthF fs 5)) ((nthF fs 6)) ((nthZ zs 0)) ((nthZ zs 1)) ((nthZ zs 2)) := by
    apply M_iuA (F0 := nthF fs 0) (F1 := nthF fs 1) (F2 := nthF fs 2) (F3 := nthF fs 3) (F4 := nthF fs 4) (F5 := nthF fs 5) (F6 := nthF fs 6) (N0 := nthZ zs 0) (N1 := nthZ zs 1) (N2 := nthZ zs 2) (N3 := nthZ zs 3) (N4 := nthZ zs 4) <;> first | assumption | omega
  rcases List.mem_cons.mp hx with hx | hx
  · rw [hx]; refine s_imu.mpr ?_; exact L
  · cases hx
def q_iuB : qRl := ([(1156, [7, 0, 1, 2, 3, 4, 5, 6, 0, 3, 2], []), (1, [6, 3, 4], []), sp 0 [(4, 1), (1, (-1))], sp 0 [(1, 1), (4, (-1))]], [(1150, [7, 0, 1, 2, 3, 4, 5, 6, 0, 1, 2], [])])
theorem q_iuB_ok : RlOk q_iuB := by
  intro fs zs h x hx
  obtain ⟨P0, h⟩ := snAll h
  replace P0 := s_imu.mp P0
  obtain ⟨P1, h⟩ := snAll h
  replace P1 := s_rd.mp P1
  obtain ⟨P2, h⟩ := snAll h
  replace P2 := sp_2.mp P2
  obtain ⟨P3, h⟩ := snAll h
  replace P3 := sp_2.mp P3
  have L : eImc ((nthF fs 0)) ((nthF fs 1)) ((nthF fs 2)) ((nthF fs 3)) ((nthF fs 4)) ((nthF fs 5)) ((nthF fs 6)) ((nthZ zs 0)) ((nthZ zs 1)) ((nthZ zs 2)) := by
    apply M_iuB (F0 := nthF fs 0) (F1 := nthF fs 1) (F2 := nthF fs 2) (F3 := nthF fs 3) (F4 := nthF fs 4) (F5 := nthF fs 5) (F6 := nthF fs 6) (N0 := nthZ zs 0) (N1 := nthZ zs 1) (N2 := nthZ zs 2) (N3 := nthZ zs 3) (N4 := nthZ zs 4) <;> first | assumption | omega
  rcases List.mem_cons.mp hx with hx | hx
  · rw [hx]; refine s_imc.mpr ?_; exact L
  · cases hx
def q_imK0 : qRl := ([sp 1 [(3, 1), (1, (-1))], sp (-1) [(3, (-1)), (1, 1)], (1150, [7, 0, 1, 2, 3, 4, 5, 6, 0, 3, 2], []), sp 0 [(3, 1)], (1, [4, 3, 4], []), sp 2 [(4, (-1))]], [(1150, [7, 0, 1, 2, 3, 4, 5, 6, 0, 1, 2], [])])
theorem q_imK0_ok : RlOk q_imK0 := by
  intro fs zs h x hx
  obtain ⟨P0a, h⟩ := snAll h
  replace P0a := sp_2.mp P0a
  obtain ⟨P0b, h⟩ := snAll h
  replace P0b := sp_2.mp P0b
  obtain ⟨P1, h⟩ := snAll h
  replace P1 := s_imc.mp P1
  obtain ⟨P2, h⟩ := snAll h
  replace P2 := sp_1.mp P2
  obtain ⟨P3, h⟩ := snAll h
  replace P3 := s_rd.mp P3
  obtain ⟨P4, h⟩ := snAll h
  replace P4 := sp_1.mp P4
  have L : eImc ((nthF fs 0)) ((nthF fs 1)) ((nthF fs 2)) ((nthF fs 3)) ((nthF fs 4)) ((nthF fs 5)) ((nthF fs 6)) ((nthZ zs 0)) ((nthZ zs 1)) ((nthZ zs 2)) := by
    apply M_imK0 (F0 := nthF fs 0) (F1 := nthF fs 1) (F2 := nthF fs 2) (F3 := nthF fs 3) (F4 := nthF fs 4) (F5 := nthF fs 5) (F6 := nthF fs 6) (N0 := nthZ zs 0) (N1 := nthZ zs 1) (N2 := nthZ zs 2) (N3 := nthZ zs 3) (N4 := nthZ zs 4) <;> first | assumption | omega
  rcases List.mem_cons.mp hx with hx | hx
  · rw [hx]; refine s_imc.mpr ?_; exact L
  · cases hx
def q_imK1 : qRl := ([sp 1 [(3, 1), (1, (-1))], sp (-1) [(3, (-1)), (1, 1)], (1150, [7, 0, 1, 2, 3, 4, 5, 6, 0, 3, 2], []), sp 0 [(3, 1)], (1, [4, 3, 4], []), sp (-5) [(4, 1)]], [(1150, [7, 0, 1, 2, 3, 4, 5, 6, 0, 1, 2], [])])
theorem q_imK1_ok : RlOk q_imK1 := by
  intro fs zs h x hx
  obtain ⟨P0a, h⟩ := snAll h
  replace P0a := sp_2.mp P0a
  obtain ⟨P0b, h⟩ := snAll h
  replace P0b := sp_2.mp P0b
  obtain ⟨P1, h⟩ := snAll h
  replace P1 := s_imc.mp P1
  obtain ⟨P2, h⟩ := snAll h
  replace P2 := sp_1.mp P2
  obtain ⟨P3, h⟩ := snAll h
  replace P3 := s_rd.mp P3
  obtain ⟨P4, h⟩ := snAll h
  replace P4 := sp_1.mp P4
  have L : eImc ((nthF fs 0)) ((nthF fs 1)) ((nthF fs 2)) ((nthF fs 3)) ((nthF fs 4)) ((nthF fs 5)) ((nthF fs 6)) ((nthZ zs 0)) ((nthZ zs 1)) ((nthZ zs 2)) := by
    apply M_imK1 (F0 := nthF fs 0) (F1 := nthF fs 1) (F2 := nthF fs 2) (F3 := nthF fs 3) (F4 := nthF fs 4) (F5 := nthF fs 5) (F6 := nthF fs 6) (N0 := nthZ zs 0) (N1 := nthZ zs 1) (N2 := nthZ zs 2) (N3 := nthZ zs 3) (N4 := nthZ zs 4) <;> first | assumption | omega
  rcases List.mem_cons.mp hx with hx | hx
  · rw [hx]; refine s_imc.mpr ?_; exact L
  · cases hx
def q_imS : qRl := ([sp 1 [(3, 1), (1, (-1))], sp (-1) [(3, (-1)), (1, 1)], (1150, [7, 0, 1, 2, 3, 4, 5, 6, 0, 3, 2], []), sp 0 [(3, 1)], (1, [2, 3, 4], []), sp (-1) [(4, 1)]], [(1150, [7, 0, 1, 2, 3, 4, 5, 6, 0, 1, 2], [])])
theorem q_imS_ok : RlOk q_imS := by
  intro fs zs h x hx
  obtain ⟨P0a, h⟩ := snAll h
  replace P0a := sp_2.mp P0a
  obtain ⟨P0b, h⟩ := snAll h
  replace P0b := sp_2.mp P0b
  obtain ⟨P1, h⟩ := snAll h
  replace P1 := s_imc.mp P1
  obtain ⟨P2, h⟩ := snAll h
  replace P2 := sp_1.mp P2
  obtain ⟨P3, h⟩ := snAll h
  replace P3 := s_rd.mp P3
  obtain ⟨P4, h⟩ := snAll h
  replace P4 := sp_1.mp P4
  have L : eImc ((nthF fs 0)) ((nthF fs 1)) ((nthF fs 2)) ((nthF fs 3)) ((nthF fs 4)) ((nthF fs 5)) ((nthF fs 6)) ((nthZ zs 0)) ((nthZ zs 1)) ((nthZ zs 2)) := by
    apply M_imS (F0 := nthF fs 0) (F1 := nthF fs 1) (F2 := nthF fs 2) (F3 := nthF fs 3) (F4 := nthF fs 4) (F5 := nthF fs 5) (F6 := nthF fs 6) (N0 := nthZ zs 0) (N1 := nthZ zs 1) (N2 := nthZ zs 2) (N3 := nthZ zs 3) (N4 := nthZ zs 4) <;> first | assumption | omega
  rcases List.mem_cons.mp hx with hx | hx
  · rw [hx]; refine s_imc.mpr ?_; exact L
  · cases hx
def q_imN : qRl := ([sp 1 [(3, 1), (1, (-1))], sp (-1) [(3, (-1)), (1, 1)], (1150, [7, 0, 1, 2, 3, 4, 5, 6, 0, 3, 2], []), sp 0 [(3, 1)], (1119, [14, 4, 2, 8, 3, 9, 10, 11, 12, 13, 14, 15, 6, 16, 17, 20, 21, 22, 0], []), (1091, [0, 5, 6], []), sp 0 [(5, 1)], sp (-1) [(0, 1), (5, (-1))], (6, [1, 6, 40, 41, 42], []), sp 0 [(5, 1), (40, (-1))], sp (-1) [(41, 1), (5, (-1))], sp 0 [(3, 1), (42, (-1))], sp (-1) [(8, 1), (5, (-1))], sp 1 [(8, (-1)), (5, 1)], (1, [6, 8, 9], []), sp (-1) [(9, 1), (3, (-1))], (1, [2, 3, 4], []), sp 0 [(10, 1), (5, (-4)), (4, (-1))], sp 0 [(10, (-1)), (5, 4), (4, 1)], (1, [5, 10, 11], []), sp 0 [(11, (-1))]], [(1150, [7, 0, 1, 2, 3, 4, 5, 6, 0, 1, 2], [])])
theorem q_imN_ok : RlOk q_imN := by
  intro fs zs h x hx
  obtain ⟨P0a, h⟩ := snAll h
  replace P0a := sp_2.mp P0a
  obtain ⟨P0b, h⟩ := snAll h
  replace P0b := sp_2.mp P0b
  obtain ⟨P1, h⟩ := snAll h
  replace P1 := s_imc.mp P1
  obtain ⟨P2, h⟩ := snAll h
  replace P2 := sp_1.mp P2
  obtain ⟨P3, h⟩ := snAll h
  replace P3 := s_cmt.mp P3
  obtain ⟨P4, h⟩ := snAll h
  replace P4 := s_us.mp P4
  obtain ⟨P5, h⟩ := snAll h
  replace P5 := sp_1.mp P5
  obtain ⟨P6, h⟩ := snAll h
  replace P6 := sp_2.mp P6
  obtain ⟨P7, h⟩ := snAll h
  replace P7 := s_le.mp P7
  obtain ⟨P8, h⟩ := snAll h
  replace P8 := sp_2.mp P8
  obtain ⟨P9, h⟩ := snAll h
  replace P9 := sp_2.mp P9
  obtain ⟨P10, h⟩ := snAll h
  replace P10 := sp_2.mp P10
  obtain ⟨P11a, h⟩ := snAll h
  replace P11a := sp_2.mp P11a
  obtain ⟨P11b, h⟩ := snAll h
  replace P11b := sp_2.mp P11b
  obtain ⟨P12, h⟩ := snAll h
  replace P12 := s_rd.mp P12
  obtain ⟨P13, h⟩ := snAll h
  replace P13 := sp_2.mp P13
  obtain ⟨P14, h⟩ := snAll h
  replace P14 := s_rd.mp P14
  obtain ⟨P15a, h⟩ := snAll h
  replace P15a := sp_3.mp P15a
  obtain ⟨P15b, h⟩ := snAll h
  replace P15b := sp_3.mp P15b
  obtain ⟨P16, h⟩ := snAll h
  replace P16 := s_rd.mp P16
  obtain ⟨P17, h⟩ := snAll h
  replace P17 := sp_1.mp P17
  have L : eImc ((nthF fs 0)) ((nthF fs 1)) ((nthF fs 2)) ((nthF fs 3)) ((nthF fs 4)) ((nthF fs 5)) ((nthF fs 6)) ((nthZ zs 0)) ((nthZ zs 1)) ((nthZ zs 2)) := by
    apply M_imN (F0 := nthF fs 0) (F1 := nthF fs 1) (F2 := nthF fs 2) (F3 := nthF fs 3) (F4 := nthF fs 4) (F5 := nthF fs 5) (F6 := nthF fs 6) (F7 := nthF fs 7) (F8 := nthF fs 8) (F9 := nthF fs 9) (F10 := nthF fs 10) (F11 := nthF fs 11) (F12 := nthF fs 12) (F13 := nthF fs 13) (F14 := nthF fs 14) (F15 := nthF fs 15) (F16 := nthF fs 16) (F17 := nthF fs 17) (N0 := nthZ zs 0) (N1 := nthZ zs 1) (N2 := nthZ zs 2) (N3 := nthZ zs 3) (N4 := nthZ zs 4) (N5 := nthZ zs 5) (N6 := nthZ zs 6) (N7 := nthZ zs 7) (N8 := nthZ zs 8) (N9 := nthZ zs 9) (N10 := nthZ zs 10) (N11 := nthZ zs 11) (N12 := nthZ zs 12) (N13 := nthZ zs 13) (N14 := nthZ zs 14) (N15 := nthZ zs 15) (N16 := nthZ zs 16) (N17 := nthZ zs 17) (N18 := nthZ zs 18) (N19 := nthZ zs 19) (N20 := nthZ zs 20) (N21 := nthZ zs 21) (N22 := nthZ zs 22) (N23 := nthZ zs 23) (N24 := nthZ zs 24) (N25 := nthZ zs 25) (N26 := nthZ zs 26) (N27 := nthZ zs 27) (N28 := nthZ zs 28) (N29 := nthZ zs 29) (N30 := nthZ zs 30) (N31 := nthZ zs 31) (N32 := nthZ zs 32) (N33 := nthZ zs 33) (N34 := nthZ zs 34) (N35 := nthZ zs 35) (N36 := nthZ zs 36) (N37 := nthZ zs 37) (N38 := nthZ zs 38) (N39 := nthZ zs 39) (N40 := nthZ zs 40) (N41 := nthZ zs 41) (N42 := nthZ zs 42) <;> first | assumption | omega
  rcases List.mem_cons.mp hx with hx | hx
  · rw [hx]; refine s_imc.mpr ?_; exact L
  · cases hx
def q_imA3 : qRl := ([(2, [18, 0, 12, 13], []), sp 1 [(3, 1), (1, (-1))], sp (-1) [(3, (-1)), (1, 1)], sp 1 [(14, 1), (2, (-1))], sp (-1) [(14, (-1)), (2, 1)], sp 0 [(12, 1), (14, (-1))], sp 0 [(14, 1), (12, (-1))], sp 0 [(14, 1)], (1150, [7, 0, 1, 2, 3, 4, 5, 6, 0, 3, 14], []), sp 0 [(3, 1)], (1119, [14, 4, 2, 8, 3, 9, 10, 11, 12, 13, 14, 15, 6, 16, 17, 20, 21, 22, 0], []), (1091, [0, 5, 6], []), sp 0 [(5, 1)], sp (-1) [(0, 1), (5, (-1))], (6, [1, 6, 40, 41, 42], []), sp 0 [(5, 1), (40, (-1))], sp (-1) [(41, 1), (5, (-1))], sp 0 [(3, 1), (42, (-1))], (5, [1, 6, 43, 44, 45], []), sp 1 [(5, 1), (43, (-1))], sp (-2) [(44, 1), (5, (-1))], sp (-1) [(45, 1), (3, (-1))], (1, [2, 3, 4], []), sp 0 [(4, 1)], sp 0 [(4, (-1))], (1, [4, 3, 15], []), sp (-3) [(15, 1)], sp 3 [(15, (-1))], (1154, [2, 5, 2, 30, 31], []), sp 0 [(30, 1), (5, (-1))], sp 0 [(5, 1), (30, (-1))], sp 0 [(31, 1), (3, (-1))], sp 0 [(3, 1), (31, (-1))], (1152, [3, 1, 5, 17, 23], []), sp 0 [(23, 1), (0, (-1))], (1146, [3, 1, 2, 3, 5, 25, 26], []), sp 0 [(25, 1), (3, (-1))], sp 0 [(3, 1), (25, (-1))], sp (-4194304) [(26, 1), (13, (-1))], sp 4194304 [(13, 1), (26, (-1))]], [(1150, [7, 18, 1, 2, 3, 4, 5, 6, 0, 1, 2], [])])
theorem q_imA3_ok : RlOk q_imA3 := by
  intro fs zs h x hx
  obtain ⟨P0, h⟩ := snAll h
  replace P0 := s_wr.mp P0
  obtain ⟨P1a, h⟩ := snAll h
  replace P1a := sp_2.mp P1a
  obtain ⟨P1b, h⟩ := snAll h
  replace P1b := sp_2.mp P1b
  obtain ⟨P2a, h⟩ := snAll h
  replace P2a := sp_2.mp P2a
  obtain ⟨P2b, h⟩ := snAll h
  replace P2b := sp_2.mp P2b
  obtain ⟨P3, h⟩ := snAll h
  replace P3 := sp_2.mp P3
  obtain ⟨P4, h⟩ := snAll h
  replace P4 := sp_2.mp P4
  obtain ⟨P5, h⟩ := snAll h
  replace P5 := sp_1.mp P5
  obtain ⟨P6, h⟩ := snAll h
  replace P6 := s_imc.mp P6
  obtain ⟨P7, h⟩ := snAll h
  replace P7 := sp_1.mp P7
  obtain ⟨P8, h⟩ := snAll h
  replace P8 := s_cmt.mp P8
  obtain ⟨P9, h⟩ := snAll h
  replace P9 := s_us.mp P9
  obtain ⟨P10, h⟩ := snAll h
  replace P10 := sp_1.mp P10
  obtain ⟨P11, h⟩ := snAll h
  replace P11 := sp_2.mp P11
  obtain ⟨P12, h⟩ := snAll h
  replace P12 := s_le.mp P12
  obtain ⟨P13, h⟩ := snAll h
  replace P13 := sp_2.mp P13
  obtain ⟨P14, h⟩ := snAll h
  replace P14 := sp_2.mp P14
  obtain ⟨P15, h⟩ := snAll h
  replace P15 := sp_2.mp P15
  obtain ⟨P16, h⟩ := snAll h
  replace P16 := s_ge.mp P16
  obtain ⟨P17, h⟩ := snAll h
  replace P17 := sp_2.mp P17
  obtain ⟨P18, h⟩ := snAll h
  replace P18 := sp_2.mp P18
  obtain ⟨P19, h⟩ := snAll h
  replace P19 := sp_2.mp P19
  obtain ⟨P20, h⟩ := snAll h
  replace P20 := s_rd.mp P20
  obtain ⟨P21, h⟩ := snAll h
  replace P21 := sp_1.mp P21
  obtain ⟨P22, h⟩ := snAll h
  replace P22 := sp_1.mp P22
  obtain ⟨P23, h⟩ := snAll h
  replace P23 := s_rd.mp P23
  obtain ⟨P24, h⟩ := snAll h
  replace P24 := sp_1.mp P24
  obtain ⟨P25, h⟩ := snAll h
  replace P25 := sp_1.mp P25
  obtain ⟨P26, h⟩ := snAll h
  replace P26 := s_ndd.mp P26
  obtain ⟨P27, h⟩ := snAll h
  replace P27 := sp_2.mp P27
  obtain ⟨P28, h⟩ := snAll h
  replace P28 := sp_2.mp P28
  obtain ⟨P29, h⟩ := snAll h
  replace P29 := sp_2.mp P29
  obtain ⟨P30, h⟩ := snAll h
  replace P30 := sp_2.mp P30
  obtain ⟨P31, h⟩ := snAll h
  replace P31 := s_odf.mp P31
  obtain ⟨P32, h⟩ := snAll h
  replace P32 := sp_2.mp P32
  obtain ⟨P33, h⟩ := snAll h
  replace P33 := s_ia.mp P33
  obtain ⟨P34, h⟩ := snAll h
  replace P34 := sp_2.mp P34
  obtain ⟨P35, h⟩ := snAll h
  replace P35 := sp_2.mp P35
  obtain ⟨P36, h⟩ := snAll h
  replace P36 := sp_2.mp P36
  obtain ⟨P37, h⟩ := snAll h
  replace P37 := sp_2.mp P37
  have L : eImc ((nthF fs 18)) ((nthF fs 1)) ((nthF fs 2)) ((nthF fs 3)) ((nthF fs 4)) ((nthF fs 5)) ((nthF fs 6)) ((nthZ zs 0)) ((nthZ zs 1)) ((nthZ zs 2)) := by
    apply M_imA3 (F0 := nthF fs 0) (F1 := nthF fs 1) (F2 := nthF fs 2) (F3 := nthF fs 3) (F4 := nthF fs 4) (F5 := nthF fs 5) (F6 := nthF fs 6) (F7 := nthF fs 7) (F8 := nthF fs 8) (F9 := nthF fs 9) (F10 := nthF fs 10) (F11 := nthF fs 11) (F12 := nthF fs 12) (F13 := nthF fs 13) (F14 := nthF fs 14) (F15 := nthF fs 15) (F16 := nthF fs 16) (F17 := nthF fs 17) (F18 := nthF fs 18) (N0 := nthZ zs 0) (N1 := nthZ zs 1) (N2 := nthZ zs 2) (N3 := nthZ zs 3) (N4 := nthZ zs 4) (N5 := nthZ zs 5) (N6 := nthZ zs 6) (N7 := nthZ zs 7) (N8 := nthZ zs 8) (N9 := nthZ zs 9) (N10 := nthZ zs 10) (N11 := nthZ zs 11) (N12 := nthZ zs 12) (N13 := nthZ zs 13) (N14 := nthZ zs 14) (N15 := nthZ zs 15) (N16 := nthZ zs 16) (N17 := nthZ zs 17) (N18 := nthZ zs 18) (N19 := nthZ zs 19) (N20 := nthZ zs 20) (N21 := nthZ zs 21) (N22 := nthZ zs 22) (N23 := nthZ zs 23) (N24 := nthZ zs 24) (N25 := nthZ zs 25) (N26 := nthZ zs 26) (N27 := nthZ zs 27) (N28 := nthZ zs 28) (N29 := nthZ zs 29) (N30 := nthZ zs 30) (N31 := nthZ zs 31) (N32 := nthZ zs 32) (N33 := nthZ zs 33) (N34 := nthZ zs 34) (N35 := nthZ zs 35) (N36 := nthZ zs 36) (N37 := nthZ zs 37) (N38 := nthZ zs 38) (N39 := nthZ zs 39) (N40 := nthZ zs 40) (N41 := nthZ zs 41) (N42 := nthZ zs 42) (N43 := nthZ zs 43) (N44 := nthZ zs 44) (N45 := nthZ zs 45) <;> first | assumption | omega
  rcases List.mem_cons.mp hx with hx | hx
  · rw [hx]; refine s_imc.mpr ?_; exact L
  · cases hx
def q_imA4 : qRl := ([(2, [18, 0, 12, 13], []), sp 1 [(3, 1), (1, (-1))], sp (-1) [(3, (-1)), (1, 1)], sp 1 [(14, 1), (2, (-1))], sp (-1) [(14, (-1)), (2, 1)], sp 0 [(12, 1), (14, (-1))], sp 0 [(14, 1), (12, (-1))], sp 0 [(14, 1)], (1150, [7, 0, 1, 2, 3, 4, 5, 6, 0, 3, 14], []), sp 0 [(3, 1)], (1119, [14, 4, 2, 8, 3, 9, 10, 11, 12, 13, 14, 15, 6, 16, 17, 20, 21, 22, 0], []), (1091, [0, 5, 6], []), sp 0 [(5, 1)], sp (-1) [(0, 1), (5, (-1))], (6, [1, 6, 40, 41, 42], []), sp 0 [(5, 1), (40, (-1))], sp (-1) [(41, 1), (5, (-1))], sp 0 [(3, 1), (42, (-1))], (5, [1, 6, 43, 44, 45], []), sp 1 [(5, 1), (43, (-1))], sp (-2) [(44, 1), (5, (-1))], sp (-1) [(45, 1), (3, (-1))], (1, [2, 3, 4], []), sp 0 [(4, 1)], sp 0 [(4, (-1))], (1, [4, 3, 15], []), sp (-4) [(15, 1)], sp 4 [(15, (-1))], (1154, [2, 5, 2, 30, 31], []), sp 0 [(30, 1), (5, (-1))], sp 0 [(5, 1), (30, (-1))], sp 0 [(31, 1), (3, (-1))], sp 0 [(3, 1), (31, (-1))], (1152, [3, 1, 5, 17, 23], []), sp 0 [(23, 1), (0, (-1))], (1146, [3, 1, 2, 3, 5, 25, 26], []), sp 0 [(25, 1), (3, (-1))], sp 0 [(3, 1), (25, (-1))], sp (-4194304) [(26, 1), (13, (-1))], sp 4194304 [(13, 1), (26, (-1))]], [(1150, [7, 18, 1, 2, 3, 4, 5, 6, 0, 1, 2], [])])
theorem q_imA4_ok : RlOk q_imA4 := by
  intro fs zs h x hx
  obtain ⟨P0, h⟩ := snAll h
  replace P0 := s_wr.mp P0
  obtain ⟨P1a, h⟩ := snAll h
  replace P1a := sp_2.mp P1a
  obtain ⟨P1b, h⟩ := snAll h
  replace P1b := sp_2.mp P1b
  obtain ⟨P2a, h⟩ := snAll h
  replace P2a := sp_2.mp P2a
  obtain ⟨P2b, h⟩ := snAll h
  replace P2b := sp_2.mp P2b
  obtain ⟨P3, h⟩ := snAll h
  replace P3 := sp_2.mp P3
  obtain ⟨P4, h⟩ := snAll h
  replace P4 := sp_2.mp P4
  obtain ⟨P5, h⟩ := snAll h
  replace P5 := sp_1.mp P5
  obtain ⟨P6, h⟩ := snAll h
  replace P6 := s_imc.mp P6
  obtain ⟨P7, h⟩ := snAll h
  replace P7 := sp_1.mp P7
  obtain ⟨P8, h⟩ := snAll h
  replace P8 := s_cmt.mp P8
  obtain ⟨P9, h⟩ := snAll h
  replace P9 := s_us.mp P9
  obtain ⟨P10, h⟩ := snAll h
  replace P10 := sp_1.mp P10
  obtain ⟨P11, h⟩ := snAll h
  replace P11 := sp_2.mp P11
  obtain ⟨P12, h⟩ := snAll h
  replace P12 := s_le.mp P12
  obtain ⟨P13, h⟩ := snAll h
  replace P13 := sp_2.mp P13
  obtain ⟨P14, h⟩ := snAll h
  replace P14 := sp_2.mp P14
  obtain ⟨P15, h⟩ := snAll h
  replace P15 := sp_2.mp P15
  obtain ⟨P16, h⟩ := snAll h
  replace P16 := s_ge.mp P16
  obtain ⟨P17, h⟩ := snAll h
  replace P17 := sp_2.mp P17
  obtain ⟨P18, h⟩ := snAll h
  replace P18 := sp_2.mp P18
  obtain ⟨P19, h⟩ := snAll h
  replace P19 := sp_2.mp P19
  obtain ⟨P20, h⟩ := snAll h
  replace P20 := s_rd.mp P20
  obtain ⟨P21, h⟩ := snAll h
  replace P21 := sp_1.mp P21
  obtain ⟨P22, h⟩ := snAll h
  replace P22 := sp_1.mp P22
  obtain ⟨P23, h⟩ := snAll h
  replace P23 := s_rd.mp P23
  obtain ⟨P24, h⟩ := snAll h
  replace P24 := sp_1.mp P24
  obtain ⟨P25, h⟩ := snAll h
  replace P25 := sp_1.mp P25
  obtain ⟨P26, h⟩ := snAll h
  replace P26 := s_ndd.mp P26
  obtain ⟨P27, h⟩ := snAll h
  replace P27 := sp_2.mp P27
  obtain ⟨P28, h⟩ := snAll h
  replace P28 := sp_2.mp P28
  obtain ⟨P29, h⟩ := snAll h
  replace P29 := sp_2.mp P29
  obtain ⟨P30, h⟩ := snAll h
  replace P30 := sp_2.mp P30
  obtain ⟨P31, h⟩ := snAll h
  replace P31 := s_odf.mp P31
  obtain ⟨P32, h⟩ := snAll h
  replace P32 := sp_2.mp P32
  obtain ⟨P33, h⟩ := snAll h
  replace P33 := s_ia.mp P33
  obtain ⟨P34, h⟩ := snAll h
  replace P34 := sp_2.mp P34
  obtain ⟨P35, h⟩ := snAll h
  replace P35 := sp_2.mp P35
  obtain ⟨P36, h⟩ := snAll h
  replace P36 := sp_2.mp P36
  obtain ⟨P37, h⟩ := snAll h
  replace P37 := sp_2.mp P37
  have L : eImc ((nthF fs 18)) ((nthF fs 1)) ((nthF fs 2)) ((nthF fs 3)) ((nthF fs 4)) ((nthF fs 5)) ((nthF fs 6)) ((nthZ zs 0)) ((nthZ zs 1)) ((nthZ zs 2)) := by
    apply M_imA4 (F0 := nthF fs 0) (F1 := nthF fs 1) (F2 := nthF fs 2) (F3 := nthF fs 3) (F4 := nthF fs 4) (F5 := nthF fs 5) (F6 := nthF fs 6) (F7 := nthF fs 7) (F8 := nthF fs 8) (F9 := nthF fs 9) (F10 := nthF fs 10) (F11 := nthF fs 11) (F12 := nthF fs 12) (F13 := nthF fs 13) (F14 := nthF fs 14) (F15 := nthF fs 15) (F16 := nthF fs 16) (F17 := nthF fs 17) (F18 := nthF fs 18) (N0 := nthZ zs 0) (N1 := nthZ zs 1) (N2 := nthZ zs 2) (N3 := nthZ zs 3) (N4 := nthZ zs 4) (N5 := nthZ zs 5) (N6 := nthZ zs 6) (N7 := nthZ zs 7) (N8 := nthZ zs 8) (N9 := nthZ zs 9) (N10 := nthZ zs 10) (N11 := nthZ zs 11) (N12 := nthZ zs 12) (N13 := nthZ zs 13) (N14 := nthZ zs 14) (N15 := nthZ zs 15) (N16 := nthZ zs 16) (N17 := nthZ zs 17) (N18 := nthZ zs 18) (N19 := nthZ zs 19) (N20 := nthZ zs 20) (N21 := nthZ zs 21) (N22 := nthZ zs 22) (N23 := nthZ zs 23) (N24 := nthZ zs 24) (N25 := nthZ zs 25) (N26 := nthZ zs 26) (N27 := nthZ zs 27) (N28 := nthZ zs 28) (N29 := nthZ zs 29) (N30 := nthZ zs 30) (N31 := nthZ zs 31) (N32 := nthZ zs 32) (N33 := nthZ zs 33) (N34 := nthZ zs 34) (N35 := nthZ zs 35) (N36 := nthZ zs 36) (N37 := nthZ zs 37) (N38 := nthZ zs 38) (N39 := nthZ zs 39) (N40 := nthZ zs 40) (N41 := nthZ zs 41) (N42 := nthZ zs 42) (N43 := nthZ zs 43) (N44 := nthZ zs 44) (N45 := nthZ zs 45) <;> first | assumption | omega
  rcases List.mem_cons.mp hx with hx | hx
  · rw [hx]; refine s_imc.mpr ?_; exact L
  · cases hx
def q_imM : qRl := ([(1150, [7, 0, 1, 2, 3, 4, 5, 6, 2, 3, 0], []), (1124, [1, 4, 4, 1], []), sp 0 [(4, 1), (3, (-1))]], [sp 0 [(1, 1), (0, (-1))]])
theorem q_imM_ok : RlOk q_imM := by
  intro fs zs h x hx
  obtain ⟨P0, h⟩ := snAll h
  replace P0 := s_imc.mp P0
  obtain ⟨P1, h⟩ := snAll h
  replace P1 := s_csn.mp P1
  obtain ⟨P2, h⟩ := snAll h
  replace P2 := sp_2.mp P2
  have L : (nthZ zs 0) ≤ (nthZ zs 1) := by
    apply M_imM (F0 := nthF fs 0) (F1 := nthF fs 1) (F2 := nthF fs 2) (F3 := nthF fs 3) (F4 := nthF fs 4) (F5 := nthF fs 5) (F6 := nthF fs 6) (N0 := nthZ zs 0) (N1 := nthZ zs 1) (N2 := nthZ zs 2) (N3 := nthZ zs 3) (N4 := nthZ zs 4) <;> first | assumption | omega
  rcases List.mem_cons.mp hx with hx | hx
  · rw [hx]; refine sp_2.mpr ?_; omega
  · cases hx
def q_imH3 : qRl := ([(1156, [7, 0, 1, 2, 3, 4, 5, 6, 0, 1, 2], []), sp 0 [(1, 1), (0, (-1))], sp 0 [(0, 1), (1, (-1))], (1119, [14, 4, 2, 8, 3, 9, 10, 11, 12, 13, 14, 15, 6, 16, 17, 20, 21, 22, 0], []), (1147, [1, 16, 3, 4, 30], []), sp 0 [(3, 1)], sp (-1) [(21, 1), (3, (-1))], sp 0 [(4, 1)], sp (-1) [(0, 1), (4, (-1))], (1157, [4, 5, 2, 10, 12, 5, 6, 7], []), sp 0 [(7, (-1))], sp 0 [(5, 1), (3, (-1))], sp 0 [(3, 1), (5, (-1))], sp 0 [(6, 1), (4, (-1))], sp 0 [(4, 1), (6, (-1))], (1153, [1, 10, 40, 8], []), sp 0 [(40, 1), (3, (-1))], sp 0 [(3, 1), (40, (-1))], (1, [2, 8, 9], []), sp 0 [(9, 1)], sp 0 [(9, (-1))], (1, [4, 8, 11], []), sp (-3) [(11, 1)], sp 3 [(11, (-1))], (1146, [3, 1, 2, 3, 12, 13, 14], []), sp 0 [(12, 1), (4, (-1))], sp 0 [(4, 1), (12, (-1))], sp 0 [(13, 1), (8, (-1))], sp 0 [(8, 1), (13, (-1))], (1148, [1, 0, 15, 16, 17], []), sp 0 [(15, 1), (2, (-1))], sp 0 [(2, 1), (15, (-1))], sp 4194304 [(16, 1), (14, (-1))], sp (-4194304) [(14, 1), (16, (-1))]], [sp 0 [(17, 1)]])
theorem q_imH3_ok : RlOk q_imH3 := by
  intro fs zs h x hx
  obtain ⟨P0, h⟩ := snAll h
  replace P0 := s_imu.mp P0
  obtain ⟨P1, h⟩ := snAll h
  replace P1 := sp_2.mp P1
  obtain ⟨P2, h⟩ := snAll h
  replace P2 := sp_2.mp P2
  obtain ⟨P3, h⟩ := snAll h
  replace P3 := s_cmt.mp P3
  obtain ⟨P4, h⟩ := snAll h
  replace P4 := s_wu.mp P4
  obtain ⟨P5, h⟩ := snAll h
  replace P5 := sp_1.mp P5
  obtain ⟨P6, h⟩ := snAll h
  replace P6 := sp_2.mp P6
  obtain ⟨P7, h⟩ := snAll h
  replace P7 := sp_1.mp P7
  obtain ⟨P8, h⟩ := snAll h
  replace P8 := sp_2.mp P8
  obtain ⟨P9, h⟩ := snAll h
  replace P9 := s_isn.mp P9
  obtain ⟨P10, h⟩ := snAll h
  replace P10 := sp_1.mp P10
  obtain ⟨P11, h⟩ := snAll h
  replace P11 := sp_2.mp P11
  obtain ⟨P12, h⟩ := snAll h
  replace P12 := sp_2.mp P12
  obtain ⟨P13, h⟩ := snAll h
  replace P13 := sp_2.mp P13
  obtain ⟨P14, h⟩ := snAll h
  replace P14 := sp_2.mp P14
  obtain ⟨P15, h⟩ := snAll h
  replace P15 := s_wai.mp P15
  obtain ⟨P16, h⟩ := snAll h
  replace P16 := sp_2.mp P16
  obtain ⟨P17, h⟩ := snAll h
  replace P17 := sp_2.mp P17
  obtain ⟨P18, h⟩ := snAll h
  replace P18 := s_rd.mp P18
  obtain ⟨P19, h⟩ := snAll h
  replace P19 := sp_1.mp P19
  obtain ⟨P20, h⟩ := snAll h
  replace P20 := sp_1.mp P20
  obtain ⟨P21, h⟩ := snAll h
  replace P21 := s_rd.mp P21
  obtain ⟨P22, h⟩ := snAll h
  replace P22 := sp_1.mp P22
  obtain ⟨P23, h⟩ := snAll h
  replace P23 := sp_1.mp P23
  obtain ⟨P24, h⟩ := snAll h
  replace P24 := s_ia.mp P24
  obtain ⟨P25, h⟩ := snAll h
  replace P25 := sp_2.mp P25
  obtain ⟨P26, h⟩ := snAll h
  replace P26 := sp_2.mp P26
  obtain ⟨P27, h⟩ := snAll h
  replace P27 := sp_2.mp P27
  obtain ⟨P28, h⟩ := snAll h
  replace P28 := sp_2.mp P28
  obtain ⟨P29, h⟩ := snAll h
  replace P29 := s_atx.mp P29
  obtain ⟨P30, h⟩ := snAll h
  replace P30 := sp_2.mp P30
  obtain ⟨P31, h⟩ := snAll h
  replace P31 := sp_2.mp P31
  obtain ⟨P32, h⟩ := snAll h
  replace P32 := sp_2.mp P32
  obtain ⟨P33, h⟩ := snAll h
  replace P33 := sp_2.mp P33
  have L : 0 ≤ (nthZ zs 17) := by
    apply M_imH3 (F0 := nthF fs 0) (F1 := nthF fs 1) (F2 := nthF fs 2) (F3 := nthF fs 3) (F4 := nthF fs 4) (F5 := nthF fs 5) (F6 := nthF fs 6) (F7 := nthF fs 7) (F8 := nthF fs 8) (F9 := nthF fs 9) (F10 := nthF fs 10) (F11 := nthF fs 11) (F12 := nthF fs 12) (F13 := nthF fs 13) (F14 := nthF fs 14) (F15 := nthF fs 15) (F16 := nthF fs 16) (F17 := nthF fs 17) (N0 := nthZ zs 0) (N1 := nthZ zs 1) (N2 := nthZ zs 2) (N3 := nthZ zs 3) (N4 := nthZ zs 4) (N5 := nthZ zs 5) (N6 := nthZ zs 6) (N7 := nthZ zs 7) (N8 := nthZ zs 8) (N9 := nthZ zs 9) (N10 := nthZ zs 10) (N11 := nthZ zs 11) (N12 := nthZ zs 12) (N13 := nthZ zs 13) (N14 := nthZ zs 14) (N15 := nthZ zs 15) (N16 := nthZ zs 16) (N17 := nthZ zs 17) (N18 := nthZ zs 18) (N19 := nthZ zs 19) (N20 := nthZ zs 20) (N21 := nthZ zs 21) (N22 := nthZ zs 22) (N23 := nthZ zs 23) (N24 := nthZ zs 24) (N25 := nthZ zs 25) (N26 := nthZ zs 26) (N27 := nthZ zs 27) (N28 := nthZ zs 28) (N29 := nthZ zs 29) (N30 := nthZ zs 30) (N31 := nthZ zs 31) (N32 := nthZ zs 32) (N33 := nthZ zs 33) (N34 := nthZ zs 34) (N35 := nthZ zs 35) (N36 := nthZ zs 36) (N37 := nthZ zs 37) (N38 := nthZ zs 38) (N39 := nthZ zs 39) (N40 := nthZ zs 40) <;> first | assumption | omega
  rcases List.mem_cons.mp hx with hx | hx
  · rw [hx]; refine sp_1.mpr ?_; omega
  · cases hx
def q_imH4 : qRl := ([(1156, [7, 0, 1, 2, 3, 4, 5, 6, 0, 1, 2], []), sp 0 [(1, 1), (0, (-1))], sp 0 [(0, 1), (1, (-1))], (1119, [14, 4, 2, 8, 3, 9, 10, 11, 12, 13, 14, 15, 6, 16, 17, 20, 21, 22, 0], []), (1147, [1, 16, 3, 4, 30], []), sp 0 [(3, 1)], sp (-1) [(21, 1), (3, (-1))], sp 0 [(4, 1)], sp (-1) [(0, 1), (4, (-1))], (1157, [4, 5, 2, 10, 12, 5, 6, 7], []), sp 0 [(7, (-1))], sp 0 [(5, 1), (3, (-1))], sp 0 [(3, 1), (5, (-1))], sp 0 [(6, 1), (4, (-1))], sp 0 [(4, 1), (6, (-1))], (1153, [1, 10, 40, 8], []), sp 0 [(40, 1), (3, (-1))], sp 0 [(3, 1), (40, (-1))], (1, [2, 8, 9], []), sp 0 [(9, 1)], sp 0 [(9, (-1))], (1, [4, 8, 11], []), sp (-4) [(11, 1)], sp 4 [(11, (-1))], (1146, [3, 1, 2, 3, 12, 13, 14], []), sp 0 [(12, 1), (4, (-1))], sp 0 [(4, 1), (12, (-1))], sp 0 [(13, 1), (8, (-1))], sp 0 [(8, 1), (13, (-1))], (1148, [1, 0, 15, 16, 17], []), sp 0 [(15, 1), (2, (-1))], sp 0 [(2, 1), (15, (-1))], sp 4194304 [(16, 1), (14, (-1))], sp (-4194304) [(14, 1), (16, (-1))]], [sp 0 [(17, 1)]])
theorem q_imH4_ok : RlOk q_imH4 := by
  intro fs zs h x hx
  obtain ⟨P0, h⟩ := snAll h
  replace P0 := s_imu.mp P0
  obtain ⟨P1, h⟩ := snAll h
  replace P1 := sp_2.mp P1
  obtain ⟨P2, h⟩ := snAll h
  replace P2 := sp_2.mp P2
  obtain ⟨P3, h⟩ := snAll h
  replace P3 := s_cmt.mp P3
  obtain ⟨P4, h⟩ := snAll h
  replace P4 := s_wu.mp P4
  obtain ⟨P5, h⟩ := snAll h
  replace P5 := sp_1.mp P5
  obtain ⟨P6, h⟩ := snAll h
  replace P6 := sp_2.mp P6
  obtain ⟨P7, h⟩ := snAll h
  replace P7 := sp_1.mp P7
  obtain ⟨P8, h⟩ := snAll h
  replace P8 := sp_2.mp P8
  obtain ⟨P9, h⟩ := snAll h
  replace P9 := s_isn.mp P9
  obtain ⟨P10, h⟩ := snAll h
  replace P10 := sp_1.mp P10
  obtain ⟨P11, h⟩ := snAll h
  replace P11 := sp_2.mp P11
  obtain ⟨P12, h⟩ := snAll h
  replace P12 := sp_2.mp P12
  obtain ⟨P13, h⟩ := snAll h
  replace P13 := sp_2.mp P13
  obtain ⟨P14, h⟩ := snAll h
  replace P14 := sp_2.mp P14
  obtain ⟨P15, h⟩ := snAll h
  replace P15 := s_wai.mp P15
  obtain ⟨P16, h⟩ := snAll h
  replace P16 := sp_2.mp P16
  obtain ⟨P17, h⟩ := snAll h
  replace P17 := sp_2.mp P17
  obtain ⟨P18, h⟩ := snAll h
  replace P18 := s_rd.mp P18
  obtain ⟨P19, h⟩ := snAll h
  replace P19 := sp_1.mp P19
  obtain ⟨P20, h⟩ := snAll h
  replace P20 := sp_1.mp P20
  obtain ⟨P21, h⟩ := snAll h
  replace P21 := s_rd.mp P21
  obtain ⟨P22, h⟩ := snAll h
  replace P22 := sp_1.mp P22
  obtain ⟨P23, h⟩ := snAll h
  replace P23 := sp_1.mp P23
  obtain ⟨P24, h⟩ := snAll h
  replace P24 := s_ia.mp P24
  obtain ⟨P25, h⟩ := snAll h
  replace P25 := sp_2.mp P25
  obtain ⟨P26, h⟩ := snAll h
  replace P26 := sp_2.mp P26
  obtain ⟨P27, h⟩ := snAll h
  replace P27 := sp_2.mp P27
  obtain ⟨P28, h⟩ := snAll h
  replace P28 := sp_2.mp P28
  obtain ⟨P29, h⟩ := snAll h
  replace P29 := s_atx.mp P29
  obtain ⟨P30, h⟩ := snAll h
  replace P30 := sp_2.mp P30
  obtain ⟨P31, h⟩ := snAll h
  replace P31 := sp_2.mp P31
  obtain ⟨P32, h⟩ := snAll h
  replace P32 := sp_2.mp P32
  obtain ⟨P33, h⟩ := snAll h
  replace P33 := sp_2.mp P33
  have L : 0 ≤ (nthZ zs 17) := by
    apply M_imH4 (F0 := nthF fs 0) (F1 := nthF fs 1) (F2 := nthF fs 2) (F3 := nthF fs 3) (F4 := nthF fs 4) (F5 := nthF fs 5) (F6 := nthF fs 6) (F7 := nthF fs 7) (F8 := nthF fs 8) (F9 := nthF fs 9) (F10 := nthF fs 10) (F11 := nthF fs 11) (F12 := nthF fs 12) (F13 := nthF fs 13) (F14 := nthF fs 14) (F15 := nthF fs 15) (F16 := nthF fs 16) (F17 := nthF fs 17) (N0 := nthZ zs 0) (N1 := nthZ zs 1) (N2 := nthZ zs 2) (N3 := nthZ zs 3) (N4 := nthZ zs 4) (N5 := nthZ zs 5) (N6 := nthZ zs 6) (N7 := nthZ zs 7) (N8 := nthZ zs 8) (N9 := nthZ zs 9) (N10 := nthZ zs 10) (N11 := nthZ zs 11) (N12 := nthZ zs 12) (N13 := nthZ zs 13) (N14 := nthZ zs 14) (N15 := nthZ zs 15) (N16 := nthZ zs 16) (N17 := nthZ zs 17) (N18 := nthZ zs 18) (N19 := nthZ zs 19) (N20 := nthZ zs 20) (N21 := nthZ zs 21) (N22 := nthZ zs 22) (N23 := nthZ zs 23) (N24 := nthZ zs 24) (N25 := nthZ zs 25) (N26 := nthZ zs 26) (N27 := nthZ zs 27) (N28 := nthZ zs 28) (N29 := nthZ zs 29) (N30 := nthZ zs 30) (N31 := nthZ zs 31) (N32 := nthZ zs 32) (N33 := nthZ zs 33) (N34 := nthZ zs 34) (N35 := nthZ zs 35) (N36 := nthZ zs 36) (N37 := nthZ zs 37) (N38 := nthZ zs 38) (N39 := nthZ zs 39) (N40 := nthZ zs 40) <;> first | assumption | omega
  rcases List.mem_cons.mp hx with hx | hx
  · rw [hx]; refine sp_1.mpr ?_; omega
  · cases hx
def q_cuF : qRl := ([(1119, [14, 0, 1, 2, 3, 4, 5, 6, 7, 8, 9, 10, 11, 12, 13, 10, 11, 12, 3], []), sp 1 [(4, 1), (0, (-1))], sp (-1) [(4, (-1)), (0, 1)], (1, [11, 4, 5], []), sp 0 [(4, 1)], sp (-1) [(3, 1), (4, (-1))], sp (-1) [(1, 1), (0, (-1))], sp 1 [(0, 1), (1, (-1))], sp 0 [(5, 1), (2, (-1))]], [(5, [1, 11, 0, 1, 2], [])])
theorem q_cuF_ok : RlOk q_cuF := by
  intro fs zs h x hx
  obtain ⟨P0, h⟩ := snAll h
  replace P0 := s_cmt.mp P0
  obtain ⟨P1a, h⟩ := snAll h
  replace P1a := sp_2.mp P1a
  obtain ⟨P1b, h⟩ := snAll h
  replace P1b := sp_2.mp P1b
  obtain ⟨P2, h⟩ := snAll h
  replace P2 := s_rd.mp P2
  obtain ⟨P3, h⟩ := snAll h
  replace P3 := sp_1.mp P3
  obtain ⟨P4, h⟩ := snAll h
  replace P4 := sp_2.mp P4
  obtain ⟨P5, h⟩ := snAll h
  replace P5 := sp_2.mp P5
  obtain ⟨P6, h⟩ := snAll h
  replace P6 := sp_2.mp P6
  obtain ⟨P7, h⟩ := snAll h
  replace P7 := sp_2.mp P7
  have L : ∀ x : Int, (nthZ zs 0) ≤ x → x < (nthZ zs 1) → ((0 ≤ 0+(-1)*(nthZ zs 2)+(1)*(nthF fs 11) (x))) := by
    apply M_cuF (F0 := nthF fs 0) (F1 := nthF fs 1) (F2 := nthF fs 2) (F3 := nthF fs 3) (F4 := nthF fs 4) (F5 := nthF fs 5) (F6 := nthF fs 6) (F7 := nthF fs 7) (F8 := nthF fs 8) (F9 := nthF fs 9) (F10 := nthF fs 10) (F11 := nthF fs 11) (F12 := nthF fs 12) (F13 := nthF fs 13) (N0 := nthZ zs 0) (N1 := nthZ zs 1) (N2 := nthZ zs 2) (N3 := nthZ zs 3) (N4 := nthZ zs 4) (N5 := nthZ zs 5) (N6 := nthZ zs 6) (N7 := nthZ zs 7) (N8 := nthZ zs 8) (N9 := nthZ zs 9) (N10 := nthZ zs 10) (N11 := nthZ zs 11) (N12 := nthZ zs 12) <;> first | assumption | omega
  rcases List.mem_cons.mp hx with hx | hx
  · rw [hx]; refine s_ge.mpr ?_; exact L
  · cases hx
def q_cuP : qRl := ([(1119, [14, 0, 1, 2, 3, 4, 5, 6, 7, 8, 9, 10, 11, 12, 13, 0, 1, 2, 3], []), (1091, [0, 4, 5], []), sp 0 [(4, 1)], sp (-1) [(3, 1), (4, (-1))], (1146, [3, 14, 1, 3, 6, 7, 8], []), sp 0 [(6, 1), (4, (-1))], sp 0 [(4, 1), (6, (-1))], (6, [1, 11, 20, 21, 22], []), sp 0 [(4, 1), (20, (-1))], sp (-1) [(21, 1), (4, (-1))], sp 0 [(7, 1), (22, (-1))], sp (-1) [(10, 1), (4, (-1))], sp 1 [(10, (-1)), (4, 1)], (1, [11, 10, 11], []), sp (-1) [(11, 1), (7, (-1))], (1144, [3, 14, 15, 13, 12, 13, 14, 15], []), sp (-4) [(13, 1)], sp 0 [(12, 1), (3, (-1))], (1, [1, 7, 16], []), sp 0 [(17, 1), (4, (-4)), (16, (-1))], sp 0 [(17, (-1)), (4, 4), (16, 1)], (1, [15, 17, 18], []), sp (-1) [(18, 1)], (1, [2, 7, 19], [])], [sp (-4194304) [(8, 1)], sp 4194304 [(15, 1), (8, (-1)), (19, (-1))]])
theorem q_cuP_ok : RlOk q_cuP := by
  intro fs zs h x hx
  obtain ⟨P0, h⟩ := snAll h
  replace P0 := s_cmt.mp P0
  obtain ⟨P1, h⟩ := snAll h
  replace P1 := s_us.mp P1
  obtain ⟨P2, h⟩ := snAll h
  replace P2 := sp_1.mp P2
  obtain ⟨P3, h⟩ := snAll h
  replace P3 := sp_2.mp P3
  obtain ⟨P4, h⟩ := snAll h
  replace P4 := s_ia.mp P4
  obtain ⟨P5, h⟩ := snAll h
  replace P5 := sp_2.mp P5
  obtain ⟨P6, h⟩ := snAll h
  replace P6 := sp_2.mp P6
  obtain ⟨P7, h⟩ := snAll h
  replace P7 := s_le.mp P7
  obtain ⟨P8, h⟩ := snAll h
  replace P8 := sp_2.mp P8
  obtain ⟨P9, h⟩ := snAll h
  replace P9 := sp_2.mp P9
  obtain ⟨P10, h⟩ := snAll h
  replace P10 := sp_2.mp P10
  obtain ⟨P11a, h⟩ := snAll h
  replace P11a := sp_2.mp P11a
  obtain ⟨P11b, h⟩ := snAll h
  replace P11b := sp_2.mp P11b
  obtain ⟨P12, h⟩ := snAll h
  replace P12 := s_rd.mp P12
  obtain ⟨P13, h⟩ := snAll h
  replace P13 := sp_2.mp P13
  obtain ⟨P14, h⟩ := snAll h
  replace P14 := s_plm.mp P14
  obtain ⟨P15, h⟩ := snAll h
  replace P15 := sp_1.mp P15
  obtain ⟨P16, h⟩ := snAll h
  replace P16 := sp_2.mp P16
  obtain ⟨P17, h⟩ := snAll h
  replace P17 := s_rd.mp P17
  obtain ⟨P18a, h⟩ := snAll h
  replace P18a := sp_3.mp P18a
  obtain ⟨P18b, h⟩ := snAll h
  replace P18b := sp_3.mp P18b
  obtain ⟨P19, h⟩ := snAll h
  replace P19 := s_rd.mp P19
  obtain ⟨P20, h⟩ := snAll h
  replace P20 := sp_1.mp P20
  obtain ⟨P21, h⟩ := snAll h
  replace P21 := s_rd.mp P21
  have L : (4194304 ≤ (nthZ zs 8)) ∧ ((nthZ zs 8) + (nthZ zs 19) ≤ (nthZ zs 15) + 4194304) := by
    apply M_cuP (F0 := nthF fs 0) (F1 := nthF fs 1) (F2 := nthF fs 2) (F3 := nthF fs 3) (F4 := nthF fs 4) (F5 := nthF fs 5) (F6 := nthF fs 6) (F7 := nthF fs 7) (F8 := nthF fs 8) (F9 := nthF fs 9) (F10 := nthF fs 10) (F11 := nthF fs 11) (F12 := nthF fs 12) (F13 := nthF fs 13) (F14 := nthF fs 14) (F15 := nthF fs 15) (N0 := nthZ zs 0) (N1 := nthZ zs 1) (N2 := nthZ zs 2) (N3 := nthZ zs 3) (N4 := nthZ zs 4) (N5 := nthZ zs 5) (N6 := nthZ zs 6) (N7 := nthZ zs 7) (N8 := nthZ zs 8) (N9 := nthZ zs 9) (N10 := nthZ zs 10) (N11 := nthZ zs 11) (N12 := nthZ zs 12) (N13 := nthZ zs 13) (N14 := nthZ zs 14) (N15 := nthZ zs 15) (N16 := nthZ zs 16) (N17 := nthZ zs 17) (N18 := nthZ zs 18) (N19 := nthZ zs 19) (N20 := nthZ zs 20) (N21 := nthZ zs 21) (N22 := nthZ zs 22) <;> first | assumption | omega
  obtain ⟨L0, L1⟩ := L
  rcases List.mem_cons.mp hx with hx | hx
  · rw [hx]; refine sp_1.mpr ?_; omega
  rcases List.mem_cons.mp hx with hx | hx
  · rw [hx]; refine sp_3.mpr ?_; omega
  · cases hx
def q_cuQ : qRl := ([(1119, [14, 0, 1, 2, 3, 4, 5, 6, 7, 8, 9, 10, 11, 12, 13, 0, 1, 2, 3], []), (1147, [1, 12, 4, 5, 6], []), sp 0 [(4, 1)], sp (-1) [(1, 1), (4, (-1))], sp 0 [(5, 1)], sp (-1) [(3, 1), (5, (-1))], (1157, [4, 15, 1, 5, 7, 7, 8, 9], []), sp 0 [(9, (-1))], sp 0 [(7, 1), (4, (-1))], sp 0 [(4, 1), (7, (-1))], sp 0 [(8, 1), (5, (-1))], sp 0 [(5, 1), (8, (-1))], (1, [5, 4, 10], []), (1146, [3, 14, 1, 3, 11, 12, 13], []), sp 0 [(11, 1), (5, (-1))], sp 0 [(5, 1), (11, (-1))], sp 0 [(12, 1), (10, (-1))], sp 0 [(10, 1), (12, (-1))], (1144, [3, 14, 15, 13, 14, 15, 16, 17], []), sp (-4) [(15, 1)], sp 0 [(14, 1), (3, (-1))], (1, [6, 4, 18], []), (1, [7, 4, 19], [])], [sp (-4194304) [(13, 1)], sp 4194304 [(17, 1), (13, (-1))], sp 0 [(18, 1)], sp 0 [(19, 1)], sp 4194304 [(17, 1), (13, (-1)), (18, (-1)), (19, (-1))]])
theorem q_cuQ_ok : RlOk q_cuQ := by
  intro fs zs h x hx
  obtain ⟨P0, h⟩ := snAll h
  replace P0 := s_cmt.mp P0
  obtain ⟨P1, h⟩ := snAll h
  replace P1 := s_wu.mp P1
  obtain ⟨P2, h⟩ := snAll h
  replace P2 := sp_1.mp P2
  obtain ⟨P3, h⟩ := snAll h
  replace P3 := sp_2.mp P3
  obtain ⟨P4, h⟩ := snAll h
  replace P4 := sp_1.mp P4
  obtain ⟨P5, h⟩ := snAll h
  replace P5 := sp_2.mp P5
  obtain ⟨P6, h⟩ := snAll h
  replace P6 := s_isn.mp P6
  obtain ⟨P7, h⟩ := snAll h
  replace P7 := sp_1.mp P7
  obtain ⟨P8, h⟩ := snAll h
  replace P8 := sp_2.mp P8
  obtain ⟨P9, h⟩ := snAll h
  replace P9 := sp_2.mp P9
  obtain ⟨P10, h⟩ := snAll h
  replace P10 := sp_2.mp P10
  obtain ⟨P11, h⟩ := snAll h
  replace P11 := sp_2.mp P11
  obtain ⟨P12, h⟩ := snAll h
  replace P12 := s_rd.mp P12
  obtain ⟨P13, h⟩ := snAll h
  replace P13 := s_ia.mp P13
  obtain ⟨P14, h⟩ := snAll h
  replace P14 := sp_2.mp P14
  obtain ⟨P15, h⟩ := snAll h
  replace P15 := sp_2.mp P15
  obtain ⟨P16, h⟩ := snAll h
  replace P16 := sp_2.mp P16
  obtain ⟨P17, h⟩ := snAll h
  replace P17 := sp_2.mp P17
  obtain ⟨P18, h⟩ := snAll h
  replace P18 := s_plm.mp P18
  obtain ⟨P19, h⟩ := snAll h
  replace P19 := sp_1.mp P19
  obtain ⟨P20, h⟩ := snAll h
  replace P20 := sp_2.mp P20
  obtain ⟨P21, h⟩ := snAll h
  replace P21 := s_rd.mp P21
  obtain ⟨P22, h⟩ := snAll h
  replace P22 := s_rd.mp P22
  have L : (4194304 ≤ (nthZ zs 13)) ∧ ((nthZ zs 13) ≤ (nthZ zs 17) + 4194304) ∧ (0 ≤ (nthZ zs 18)) ∧ (0 ≤ (nthZ zs 19)) ∧ ((nthZ zs 13) + (nthZ zs 18) + (nthZ zs 19) ≤ (nthZ zs 17) + 4194304) := by
    apply M_cuQ (F0 := nthF fs 0) (F1 := nthF fs 1) (F2 := nthF fs 2) (F3 := nthF fs 3) (F4 := nthF fs 4) (F5 := nthF fs 5) (F6 := nthF fs 6) (F7 := nthF fs 7) (F8 := nthF fs 8) (F9 := nthF fs 9) (F10 := nthF fs 10) (F11 := nthF fs 11) (F12 := nthF fs 12) (F13 := nthF fs 13) (F14 := nthF fs 14) (F15 := nthF fs 15) (N0 := nthZ zs 0) (N1 := nthZ zs 1) (N2 := nthZ zs 2) (N3 := nthZ zs 3) (N4 := nthZ zs 4) (N5 := nthZ zs 5) (N6 := nthZ zs 6) (N7 := nthZ zs 7) (N8 := nthZ zs 8) (N9 := nthZ zs 9) (N10 := nthZ zs 10) (N11 := nthZ zs 11) (N12 := nthZ zs 12) (N13 := nthZ zs 13) (N14 := nthZ zs 14) (N15 := nthZ zs 15) (N16 := nthZ zs 16) (N17 := nthZ zs 17) (N18 := nthZ zs 18) (N19 := nthZ zs 19) <;> first | assumption | omega
  obtain ⟨L0, L1, L2, L3, L4⟩ := L
  rcases List.mem_cons.mp hx with hx | hx
  · rw [hx]; refine sp_1.mpr ?_; omega
  rcases List.mem_cons.mp hx with hx | hx
  · rw [hx]; refine sp_2.mpr ?_; omega
  rcases List.mem_cons.mp hx with hx | hx
  · rw [hx]; refine sp_1.mpr ?_; omega
  rcases List.mem_cons.mp hx with hx | hx
  · rw [hx]; refine sp_1.mpr ?_; omega
  rcases List.mem_cons.mp hx with hx | hx
  · rw [hx]; refine sp_4.mpr ?_; omega
  · cases hx
def q_md6 : qRl := ([(3, [0, 4, 5, 6, 7], []), sp 0 [(4, (-1))], sp (-1) [(5, 1)], sp (-4) [(1, 1), (6, (-1))], sp (-1) [(3, 1), (7, (-1))], sp 0 [], sp 0 [], sp 0 [], sp 0 []], [(1167, [1, 0, 0, 1, 2, 3], [])])
theorem q_md6_ok : RlOk q_md6 := by
  intro fs zs h x hx
  obtain ⟨P0, h⟩ := snAll h
  replace P0 := s_or2.mp P0
  obtain ⟨P1, h⟩ := snAll h
  replace P1 := sp_1.mp P1
  obtain ⟨P2, h⟩ := snAll h
  replace P2 := sp_1.mp P2
  obtain ⟨P3, h⟩ := snAll h
  replace P3 := sp_2.mp P3
  obtain ⟨P4, h⟩ := snAll h
  replace P4 := sp_2.mp P4
  obtain ⟨P5, h⟩ := snAll h
  replace P5 := sp_0.mp P5
  obtain ⟨P6, h⟩ := snAll h
  replace P6 := sp_0.mp P6
  obtain ⟨P7, h⟩ := snAll h
  replace P7 := sp_0.mp P7
  obtain ⟨P8, h⟩ := snAll h
  replace P8 := sp_0.mp P8
  have L : eMdz ((nthF fs 0)) ((nthZ zs 0)) ((nthZ zs 1)) ((nthZ zs 2)) ((nthZ zs 3)) := by
    apply M_md6 (F0 := nthF fs 0) (N0 := nthZ zs 0) (N1 := nthZ zs 1) (N2 := nthZ zs 2) (N3 := nthZ zs 3) (N4 := nthZ zs 4) (N5 := nthZ zs 5) (N6 := nthZ zs 6) (N7 := nthZ zs 7) <;> first | assumption | omega
  rcases List.mem_cons.mp hx with hx | hx
  · rw [hx]; refine s_mdz.mpr ?_; exact L
  · cases hx
