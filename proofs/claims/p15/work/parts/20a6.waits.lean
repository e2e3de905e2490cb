/-! ITEMS AND WAITS OF THE UNIT THAT IS READ, SHORT BRANCHES: what is said of them and the rules, over plain functions (nothing of the kit in it). K kinds, Z sizes, W waits' items, A where, B how wide, D data, P what waits for, L labels' items; g, h what is kept of items and waits, n, w how many there are -/
def eUn (K W : Int → Int) (h w : Int) : Prop := ∀ i j : Int, h ≤ i → i < j → j < w → W i ≠ W j ∨ K (W i) ≠ 4
def eHd (K W : Int → Int) (g n i : Int) : Prop := g ≤ W i ∧ W i < n ∧ (K (W i) = 0 ∨ K (W i) = 3 ∨ K (W i) = 4)
def eCur (K Z W A B : Int → Int) (g h n w e f : Int) : Prop := 0 ≤ e ∨ 0 ≤ f ∨ ((∀ i : Int, h ≤ i → i < w → eHd K W g n i ∧ (K (W i) = 4 → B i = 4) ∧ 0 ≤ A i ∧ 0 ≤ B i ∧ A i + B i ≤ Z (W i)) ∧ eUn K W h w ∧ ∀ i : Int, g ≤ i → i < n → (K i = 4 → 5 ≤ Z i) ∧ (5 ≤ K i → Z i = 0) ∧ (K i = 3 → 1 ≤ Z i))
def eRdy (K Z W : Int → Int) (g h n w i a s e f : Int) : Prop := 0 ≤ e ∨ 0 ≤ f ∨ (g ≤ i ∧ i < n ∧ 0 ≤ a ∧ 0 ≤ s ∧ a + s ≤ Z i ∧ (K i = 0 ∨ K i = 3 ∨ (K i = 4 ∧ s = 4)) ∧ ∀ v : Int, h ≤ v → v < w → W v ≤ i ∧ (K i = 4 → W v < i))
def eSh1 (K Z W A B P L : Int → Int) (g h n w : Int) : Prop := (∀ i : Int, h ≤ i → i < w → eHd K W g n i ∧ (K (W i) = 4 → B i = 4) ∧ ((K (W i) = 4 ∧ Z (W i) = 2 ∧ eOk L (P i)) ∨ (¬ (K (W i) = 4 ∧ Z (W i) = 2) ∧ 0 ≤ A i ∧ 0 ≤ B i ∧ A i + B i ≤ Z (W i)))) ∧ eUn K W h w ∧ ∀ i : Int, g ≤ i → i < n → (K i = 4 → 5 ≤ Z i ∨ (Z i = 2 ∧ ∃ v : Int, h ≤ v ∧ v < w ∧ W v = i)) ∧ (5 ≤ K i → Z i = 0) ∧ (K i = 3 → 1 ≤ Z i)
def eSh3 (K Z W A B D P L : Int → Int) (g h n w q : Int) : Prop := (∀ i : Int, h ≤ i → i < w → eHd K W g n i ∧ ((K (W i) = 4 ∧ Z (W i) = 2 ∧ eOk L (P i) ∧ (q ≤ i ∨ B i = 1)) ∨ (¬ (K (W i) = 4 ∧ Z (W i) = 2) ∧ 0 ≤ A i ∧ 0 ≤ B i ∧ A i + B i ≤ Z (W i)))) ∧ eUn K W h w ∧ ∀ i : Int, g ≤ i → i < n → (K i = 4 → 5 ≤ Z i ∨ (Z i = 2 ∧ ((∃ v : Int, h ≤ v ∧ v < q ∧ v < w ∧ W v = i ∧ D i = v) ∨ ∃ v : Int, h ≤ v ∧ q ≤ v ∧ v < w ∧ W v = i))) ∧ (5 ≤ K i → Z i = 0) ∧ (K i = 3 → 1 ≤ Z i)
def eFin (K Z W A B D P L : Int → Int) (g h n w e : Int) : Prop := 1 ≤ e ∨ ((∀ i : Int, h ≤ i → i < w → eHd K W g n i ∧ ((K (W i) = 4 ∧ Z (W i) = 2 ∧ eOk L (P i) ∧ B i = 1) ∨ (¬ (K (W i) = 4 ∧ Z (W i) = 2) ∧ 0 ≤ A i ∧ 0 ≤ B i ∧ A i + B i ≤ Z (W i)))) ∧ ∀ i : Int, g ≤ i → i < n → (K i = 4 → 5 ≤ Z i ∨ (Z i = 2 ∧ h ≤ D i ∧ D i < w ∧ eOk L (P (D i)))) ∧ (5 ≤ K i → Z i = 0) ∧ (K i = 3 → 1 ≤ Z i))
theorem L_cuI {F0 F1 F2 F3 F4 : Int → Int} {N0 N1 N2 N3 N4 N5 : Int} (H0 : N2 ≤ N0) (H1 : N3 ≤ N1) : eCur F0 F1 F2 F3 F4 N0 N1 N2 N3 N4 N5 := Or.inr (Or.inr ⟨fun i a b => by omega, fun i j a b c => by omega, fun i a b => by omega⟩)
theorem L_cuE {F0 F1 F2 F3 F4 : Int → Int} {N0 N1 N2 N3 N4 N5 : Int} (H0 : 0 ≤ N4) : eCur F0 F1 F2 F3 F4 N0 N1 N2 N3 N4 N5 := Or.inl H0
theorem L_cuE2 {F0 F1 F2 F3 F4 : Int → Int} {N0 N1 N2 N3 N4 N5 : Int} (H0 : 0 ≤ N5) : eCur F0 F1 F2 F3 F4 N0 N1 N2 N3 N4 N5 := Or.inr (Or.inl H0)
theorem L_cuZ {F0 F1 F2 F3 F4 : Int → Int} {N0 N1 N2 N3 N4 N5 N6 N7 : Int} (H0 : eCur F0 F1 F2 F3 F4 N0 N1 N2 N3 N6 N7) (H1 : N6 ≤ N4) (H2 : N7 ≤ N5) : eCur F0 F1 F2 F3 F4 N0 N1 N2 N3 N4 N5 := by
  rcases H0 with h | h | h
  · exact Or.inl (by omega)
  · exact Or.inr (Or.inl (by omega))
  · exact Or.inr (Or.inr h)
theorem L_cuW0 {F0 F1 F2 F3 F4 F5 : Int → Int} {N0 N1 N2 N3 N4 N5 N6 N7 : Int} (H0 : ∀ x : Int, F5 x = if x = N6 then N7 else F0 x) (H1 : eCur F0 F1 F2 F3 F4 N0 N1 N2 N3 N4 N5) (H2 : N2 ≤ N6) : eCur F5 F1 F2 F3 F4 N0 N1 N2 N3 N4 N5 := by
  have e : ∀ x : Int, x < N2 → F5 x = F0 x := fun x c => by rw [H0, if_neg (by omega)]
  rcases H1 with h | h | ⟨h, k, l⟩
  · exact Or.inl h
  · exact Or.inr (Or.inl h)
  · refine Or.inr (Or.inr ⟨fun i a b => ?_, fun i j a b c => ?_, fun i a b => ?_⟩)
    · have q := h i a b
      unfold eHd at *
      rw [e _ q.1.2.1]; exact q
    · rw [e _ (h i a (by omega)).1.2.1]; exact k i j a b c
    · rw [e i b]; exact l i a b
theorem L_cuW1 {F0 F1 F2 F3 F4 F5 : Int → Int} {N0 N1 N2 N3 N4 N5 N6 N7 : Int} (H0 : ∀ x : Int, F5 x = if x = N6 then N7 else F1 x) (H1 : eCur F0 F1 F2 F3 F4 N0 N1 N2 N3 N4 N5) (H2 : N2 ≤ N6) : eCur F0 F5 F2 F3 F4 N0 N1 N2 N3 N4 N5 := by
  have e : ∀ x : Int, x < N2 → F5 x = F1 x := fun x c => by rw [H0, if_neg (by omega)]
  rcases H1 with h | h | ⟨h, k, l⟩
  · exact Or.inl h
  · exact Or.inr (Or.inl h)
  · refine Or.inr (Or.inr ⟨fun i a b => ?_, k, fun i a b => ?_⟩)
    · have q := h i a b
      rw [e _ q.1.2.1]; exact q
    · rw [e i b]; exact l i a b
theorem L_cuW2 {F0 F1 F2 F3 F4 F5 : Int → Int} {N0 N1 N2 N3 N4 N5 N6 N7 : Int} (H0 : ∀ x : Int, F5 x = if x = N6 then N7 else F2 x) (H1 : eCur F0 F1 F2 F3 F4 N0 N1 N2 N3 N4 N5) (H2 : N3 ≤ N6) : eCur F0 F1 F5 F3 F4 N0 N1 N2 N3 N4 N5 := by
  have e : ∀ x : Int, x < N3 → F5 x = F2 x := fun x c => by rw [H0, if_neg (by omega)]
  rcases H1 with h | h | ⟨h, k, l⟩
  · exact Or.inl h
  · exact Or.inr (Or.inl h)
  · refine Or.inr (Or.inr ⟨fun i a b => ?_, fun i j a b c => ?_, l⟩)
    · have q := h i a b
      unfold eHd at *
      rw [e i b]; exact q
    · rw [e i (by omega), e j c]; exact k i j a b c
theorem L_cuW3 {F0 F1 F2 F3 F4 F5 : Int → Int} {N0 N1 N2 N3 N4 N5 N6 N7 : Int} (H0 : ∀ x : Int, F5 x = if x = N6 then N7 else F3 x) (H1 : eCur F0 F1 F2 F3 F4 N0 N1 N2 N3 N4 N5) (H2 : N3 ≤ N6) : eCur F0 F1 F2 F5 F4 N0 N1 N2 N3 N4 N5 := by
  rcases H1 with h | h | ⟨h, k, l⟩
  · exact Or.inl h
  · exact Or.inr (Or.inl h)
  · refine Or.inr (Or.inr ⟨fun i a b => ?_, k, l⟩)
    rw [H0, if_neg (by omega)]; exact h i a b
theorem L_cuW4 {F0 F1 F2 F3 F4 F5 : Int → Int} {N0 N1 N2 N3 N4 N5 N6 N7 : Int} (H0 : ∀ x : Int, F5 x = if x = N6 then N7 else F4 x) (H1 : eCur F0 F1 F2 F3 F4 N0 N1 N2 N3 N4 N5) (H2 : N3 ≤ N6) : eCur F0 F1 F2 F3 F5 N0 N1 N2 N3 N4 N5 := by
  rcases H1 with h | h | ⟨h, k, l⟩
  · exact Or.inl h
  · exact Or.inr (Or.inl h)
  · refine Or.inr (Or.inr ⟨fun i a b => ?_, k, l⟩)
    rw [H0, if_neg (by omega)]; exact h i a b
theorem L_rdE0 {F0 F1 F2 : Int → Int} {N0 N1 N2 N3 N4 N5 N6 N7 N8 : Int} (H0 : 0 ≤ N7) : eRdy F0 F1 F2 N0 N1 N2 N3 N4 N5 N6 N7 N8 := Or.inl H0
theorem L_rdE1 {F0 F1 F2 : Int → Int} {N0 N1 N2 N3 N4 N5 N6 N7 N8 : Int} (H0 : 0 ≤ N8) : eRdy F0 F1 F2 N0 N1 N2 N3 N4 N5 N6 N7 N8 := Or.inr (Or.inl H0)
theorem L_cuY {F0 F1 F2 F3 F4 F5 F6 F7 : Int → Int} {N0 N1 N2 N3 N4 N5 N6 N7 N8 N9 N10 N11 N12 N13 N14 N15 N16 N17 N18 N19 : Int} (H0 : ∀ x : Int, F5 x = if x = N6 then N7 else F2 x) (H1 : ∀ x : Int, F6 x = if x = N8 then N9 else F3 x) (H2 : ∀ x : Int, F7 x = if x = N10 then N11 else F4 x) (H3 : N12 = N3 - 1) (H4 : N6 = N12) (H5 : N8 = N12) (H6 : N10 = N12) (H7 : eCur F0 F1 F2 F3 F4 N0 N1 N2 N12 N19 N13) (H8 : N13 ≤ N5) (H9 : N19 ≤ N4) (H10 : eRdy F0 F1 F2 N0 N1 N2 N12 N16 N17 N18 N14 N15) (H11 : N16 = N7) (H12 : N17 = N9) (H13 : N18 = N11) (H14 : N14 ≤ N4) (H15 : N15 ≤ N5) : eCur F0 F1 F5 F6 F7 N0 N1 N2 N3 N4 N5 := by
  subst H4; subst H5; subst H6; subst H11; subst H12; subst H13
  have e1 : ∀ x : Int, x ≠ N10 → F5 x = F2 x ∧ F6 x = F3 x ∧ F7 x = F4 x := fun x c => ⟨by rw [H0, if_neg c], by rw [H1, if_neg c], by rw [H2, if_neg c]⟩
  have e2 : F5 N10 = N16 := by rw [H0, if_pos rfl]
  have e3 : F6 N10 = N17 := by rw [H1, if_pos rfl]
  have e4 : F7 N10 = N18 := by rw [H2, if_pos rfl]
  rcases H7 with h | h | ⟨h, k, l⟩
  · exact Or.inl (by omega)
  · exact Or.inr (Or.inl (by omega))
  rcases H10 with r | r | ⟨r1, r2, r3, r4, r5, r6, r7⟩
  · exact Or.inl (by omega)
  · exact Or.inr (Or.inl (by omega))
  refine Or.inr (Or.inr ⟨fun i a b => ?_, fun i j a b c => ?_, l⟩)
  · by_cases z : i = N10
    · unfold eHd
      rw [z, e2, e3, e4]
      exact ⟨⟨r1, r2, by omega⟩, by omega, r3, r4, r5⟩
    · obtain ⟨x, y, w⟩ := e1 i z
      unfold eHd
      rw [x, y, w]; exact h i a (by omega)
  · rw [(e1 i (by omega)).1]
    by_cases z : j = N10
    · rw [z, e2]
      by_cases y : F2 i = N16
      · right; rw [y]; intro x
        have := (r7 i a (by omega)).2 x; omega
      · exact Or.inl y
    · rw [(e1 j z).1]; exact k i j a b (by omega)
theorem L_s1I {F0 F1 F2 F3 F4 F5 F6 : Int → Int} {N0 N1 N2 N3 N4 N5 : Int} (H0 : eCur F0 F1 F2 F3 F4 N0 N1 N2 N3 N4 N5) (H1 : N4 < 0) (H2 : N5 < 0) : eSh1 F0 F1 F2 F3 F4 F5 F6 N0 N1 N2 N3 := by
  rcases H0 with h | h | ⟨h, k, l⟩
  · omega
  · omega
  refine ⟨fun i a b => ?_, k, fun i a b => ?_⟩
  · obtain ⟨x, y, z⟩ := h i a b
    refine ⟨x, y, Or.inr ⟨fun c => ?_, z⟩⟩
    have := (l _ x.1 x.2.1).1 c.1
    omega
  · obtain ⟨x, y, z⟩ := l i a b
    exact ⟨fun c => Or.inl (x c), y, z⟩
theorem L_s1A {F0 F1 F2 F3 F4 F5 F6 F7 : Int → Int} {N0 N1 N2 N3 N4 N5 N6 N7 : Int} (H0 : ∀ x : Int, F7 x = if x = N5 then N6 else F1 x) (H1 : N6 = 2) (H2 : eSh1 F0 F1 F2 F3 F4 F5 F6 N0 N1 N2 N3) (H3 : eNrw F5 F6 N4 N7) (H4 : N7 ≤ 0) (H5 : F2 N4 = N5) (H6 : N1 ≤ N4) (H7 : N4 < N3) (H8 : F0 N5 = 4) : eSh1 F0 F7 F2 F3 F4 F5 F6 N0 N1 N2 N3 := by
  obtain ⟨h, k, l⟩ := H2
  have e : ∀ x : Int, x ≠ N5 → F7 x = F1 x := fun x c => by rw [H0, if_neg c]
  have e' : F7 N5 = 2 := by rw [H0, if_pos rfl, H1]
  have o : eOk F6 (F5 N4) := by rcases H3 with c | c; omega; exact c
  refine ⟨fun i a b => ?_, k, fun i a b => ?_⟩
  · obtain ⟨x, y, z⟩ := h i a b
    by_cases c : F2 i = N5
    · have q : i = N4 := by
        by_cases u : i < N4
        · rcases k i N4 a u H7 with v | v
          · rw [c, H5] at v; exact absurd rfl v
          · rw [c] at v; exact absurd H8 v
        · by_cases t : N4 < i
          · rcases k N4 i H6 t b with v | v
            · rw [c, H5] at v; exact absurd rfl v
            · rw [H5] at v; exact absurd H8 v
          · omega
      refine ⟨x, y, Or.inl ⟨by rw [c]; exact H8, by rw [c]; exact e', by rw [q]; exact o⟩⟩
    · rw [e _ c]; exact ⟨x, y, z⟩
  · by_cases c : i = N5
    · rw [c, e']
      exact ⟨fun _ => Or.inr ⟨rfl, N4, H6, H7, H5⟩, fun z => by omega, fun z => by omega⟩
    · rw [e i c]; exact l i a b
theorem L_s1B {F0 F1 F2 F3 F4 F5 F6 F7 : Int → Int} {N0 N1 N2 N3 N5 N6 : Int} (H0 : ∀ x : Int, F7 x = if x = N5 then N6 else F1 x) (H1 : eSh1 F0 F1 F2 F3 F4 F5 F6 N0 N1 N2 N3) (H2 : F0 N5 = 2) : eSh1 F0 F7 F2 F3 F4 F5 F6 N0 N1 N2 N3 := by
  obtain ⟨h, k, l⟩ := H1
  have e : ∀ x : Int, x ≠ N5 → F7 x = F1 x := fun x c => by rw [H0, if_neg c]
  refine ⟨fun i a b => ?_, k, fun i a b => ?_⟩
  · have q := h i a b
    have c : F2 i ≠ N5 := fun c => by
      have := q.1.2.2; rw [c] at this; omega
    rw [e _ c]; exact q
  · by_cases c : i = N5
    · rw [c]; exact ⟨fun z => by omega, fun z => by omega, fun z => by omega⟩
    · rw [e i c]; exact l i a b
theorem L_s1C {F0 F1 F2 F3 F4 F5 F6 F7 : Int → Int} {N0 N1 N2 N3 N4 N5 N6 : Int} (H0 : ∀ x : Int, F7 x = if x = N4 then N6 else F3 x) (H1 : eSh1 F0 F1 F2 F3 F4 F5 F6 N0 N1 N2 N3) (H2 : F2 N4 = N5) (H3 : F0 N5 = 4) (H4 : F1 N5 = 2) : eSh1 F0 F1 F2 F7 F4 F5 F6 N0 N1 N2 N3 := by
  obtain ⟨h, k, l⟩ := H1
  refine ⟨fun i a b => ?_, k, l⟩
  obtain ⟨x, y, z⟩ := h i a b
  by_cases c : i = N4
  · rcases z with z | z
    · exact ⟨x, y, Or.inl z⟩
    · exact absurd ⟨by rw [c, H2]; exact H3, by rw [c, H2]; exact H4⟩ z.1
  · rw [H0, if_neg c]; exact ⟨x, y, z⟩
theorem L_s1D {F0 F1 F2 F3 F4 F5 F6 F7 F8 : Int → Int} {N0 N1 N2 N3 N4 N5 N6 N7 : Int} (H0 : ∀ x : Int, F7 x = if x = N5 then N6 else F1 x) (H1 : ∀ x : Int, F8 x = if x = N4 then N7 else F3 x) (H2 : eSh1 F0 F1 F2 F3 F4 F5 F6 N0 N1 N2 N3) (H3 : F2 N4 = N5) (H4 : N1 ≤ N4) (H5 : N4 < N3) (H6 : F0 N5 = 4) (H8 : 5 ≤ N6) (H9 : N7 = N6 - 4) : eSh1 F0 F7 F2 F8 F4 F5 F6 N0 N1 N2 N3 := by
  obtain ⟨h, k, l⟩ := H2
  have e : ∀ x : Int, x ≠ N5 → F7 x = F1 x := fun x c => by rw [H0, if_neg c]
  have e' : F7 N5 = N6 := by rw [H0, if_pos rfl]
  have g : ∀ x : Int, x ≠ N4 → F8 x = F3 x := fun x c => by rw [H1, if_neg c]
  have g' : F8 N4 = N7 := by rw [H1, if_pos rfl]
  refine ⟨fun i a b => ?_, k, fun i a b => ?_⟩
  · obtain ⟨x, y, z⟩ := h i a b
    by_cases c : i = N4
    · subst c
      have y4 := y (by rw [H3]; exact H6)
      refine ⟨x, y, Or.inr ?_⟩
      rw [H3, e', g', y4]
      exact ⟨fun q => by omega, by omega, by omega, by omega⟩
    · have d : F2 i ≠ N5 := fun d => by
        by_cases u : i < N4
        · rcases k i N4 a u H5 with v | v
          · rw [d, H3] at v; exact absurd rfl v
          · rw [d] at v; exact absurd H6 v
        · rcases k N4 i H4 (by omega) b with v | v
          · rw [d, H3] at v; exact absurd rfl v
          · rw [H3] at v; exact absurd H6 v
      rw [e _ d, g i c]; exact ⟨x, y, z⟩
  · by_cases c : i = N5
    · rw [c, e']; exact ⟨fun _ => Or.inl H8, fun z => by omega, fun z => by omega⟩
    · rw [e i c]; exact l i a b
theorem L_s1U {F0 F1 F2 F3 F4 F5 F6 : Int → Int} {N0 N1 N12 N13 N14 N15 N4 N5 : Int} (H0 : eSh1 F0 F1 F2 F3 F4 F5 F6 N12 N13 N14 N15) (H1 : F2 N4 = N5) (H2 : N13 ≤ N4) (H3 : N4 < N15) (H4 : F0 N5 = 4) (H5 : F1 N5 = 2) (H6 : F5 N4 = N0) : eOkp F6 N0 N1 := by
  obtain ⟨_, _, z | z⟩ := H0.1 N4 H2 H3
  · rw [← H6]; exact Or.inr z.2.2
  · exact absurd ⟨by rw [H1]; exact H4, by rw [H1]; exact H5⟩ z.1
theorem L_s1W {F0 F1 F2 F3 F4 F5 F6 : Int → Int} {N0 N1 N2 N3 N4 N5 : Int} (H0 : eSh1 F0 F1 F2 F3 F4 F5 F6 N0 N1 N2 N3) (H1 : F2 N4 = N5) (H2 : N1 ≤ N4) (H3 : N4 < N3) : N0 ≤ N5 ∧ N5 < N2 := by
  have := (H0.1 N4 H2 H3).1
  rw [← H1]; exact ⟨this.1, this.2.1⟩
theorem L_fnE {F0 F1 F2 F3 F4 F5 F6 F7 : Int → Int} {N0 N1 N2 N3 N4 : Int} (H0 : 1 ≤ N4) : eFin F0 F1 F2 F3 F4 F5 F6 F7 N0 N1 N2 N3 N4 := Or.inl H0
theorem L_s3I {F0 F1 F2 F3 F4 F5 F6 F7 : Int → Int} {N0 N1 N2 N3 N4 : Int} (H0 : eSh1 F0 F1 F2 F3 F4 F6 F7 N0 N1 N2 N3) (H1 : N4 ≤ N1) : eSh3 F0 F1 F2 F3 F4 F5 F6 F7 N0 N1 N2 N3 N4 := by
  obtain ⟨h, k, l⟩ := H0
  refine ⟨fun i a b => ?_, k, fun i a b => ?_⟩
  · obtain ⟨x, y, z | z⟩ := h i a b
    · exact ⟨x, Or.inl ⟨z.1, z.2.1, z.2.2, Or.inl (by omega)⟩⟩
    · exact ⟨x, Or.inr z⟩
  · obtain ⟨x, y, z⟩ := l i a b
    refine ⟨fun c => ?_, y, z⟩
    rcases x c with d | ⟨d, v, p, q, r⟩
    · exact Or.inl d
    · exact Or.inr ⟨d, Or.inr ⟨v, p, by omega, q, r⟩⟩
theorem L_fnI {F0 F1 F2 F3 F4 F5 F6 F7 : Int → Int} {N0 N1 N2 N3 N4 N5 : Int} (H0 : eSh3 F0 F1 F2 F3 F4 F5 F6 F7 N0 N1 N2 N3 N5) (H1 : N3 ≤ N5) : eFin F0 F1 F2 F3 F4 F5 F6 F7 N0 N1 N2 N3 N4 := by
  obtain ⟨h, k, l⟩ := H0
  refine Or.inr ⟨fun i a b => ?_, fun i a b => ?_⟩
  · obtain ⟨x, z | z⟩ := h i a b
    · exact ⟨x, Or.inl ⟨z.1, z.2.1, z.2.2.1, by omega⟩⟩
    · exact ⟨x, Or.inr z⟩
  · obtain ⟨x, y, z⟩ := l i a b
    refine ⟨fun c => ?_, y, z⟩
    rcases x c with d | ⟨d, ⟨v, p, q, r, s, t⟩ | ⟨v, p, q, r, s⟩⟩
    · exact Or.inl d
    · obtain ⟨_, u | u⟩ := h v p r
      · rw [t]; exact Or.inr ⟨d, p, r, u.2.2.1⟩
      · exact absurd ⟨by rw [s]; exact c, by rw [s]; exact d⟩ u.1
    · omega
theorem L_s3A {F0 F1 F2 F3 F4 F5 F6 F7 : Int → Int} {N0 N1 N2 N3 N4 N5 N6 : Int} (H0 : N5 = N4 - 1) (H1 : eSh3 F0 F1 F2 F3 F4 F5 F6 F7 N0 N1 N2 N3 N5) (H2 : N1 ≤ N5) (H3 : N5 < N3) (H4 : F2 N5 = N6) (H5 : F0 N6 ≠ 4) : eSh3 F0 F1 F2 F3 F4 F5 F6 F7 N0 N1 N2 N3 N4 := by
  obtain ⟨h, k, l⟩ := H1
  refine ⟨fun i a b => ?_, k, fun i a b => ?_⟩
  · obtain ⟨x, z | z⟩ := h i a b
    · by_cases c : i = N5
      · rw [c, H4] at z; exact absurd z.1 H5
      · exact ⟨x, Or.inl ⟨z.1, z.2.1, z.2.2.1, by omega⟩⟩
    · exact ⟨x, Or.inr z⟩
  · obtain ⟨x, y, z⟩ := l i a b
    refine ⟨fun c => ?_, y, z⟩
    rcases x c with d | ⟨d, ⟨v, p, q, r⟩ | ⟨v, p, q, r, s⟩⟩
    · exact Or.inl d
    · exact Or.inr ⟨d, Or.inl ⟨v, p, by omega, r⟩⟩
    · by_cases e : v = N5
      · rw [e, H4] at s; rw [← s] at c; exact absurd c H5
      · exact Or.inr ⟨d, Or.inr ⟨v, p, by omega, r, s⟩⟩
theorem L_s3B {F0 F1 F2 F3 F4 F5 F6 F7 F8 F9 : Int → Int} {N0 N1 N2 N3 N4 N5 N6 N8 N10 : Int} (H0 : ∀ x : Int, F8 x = if x = N5 then N8 else F4 x) (H1 : N8 = 1) (H2 : ∀ x : Int, F9 x = if x = N6 then N10 else F5 x) (H3 : N5 = N4 - 1) (H4 : eSh3 F0 F1 F2 F3 F4 F5 F6 F7 N0 N1 N2 N3 N5) (H5 : N1 ≤ N5) (H6 : N5 < N3) (H7 : F2 N5 = N6) (H8 : N10 = N5) (H9 : F0 N6 = 4) (H10 : F1 N6 = 2) : eSh3 F0 F1 F2 F3 F8 F9 F6 F7 N0 N1 N2 N3 N4 := by
  obtain ⟨h, k, l⟩ := H4
  refine ⟨fun i a b => ?_, k, fun i a b => ?_⟩
  · obtain ⟨x, z⟩ := h i a b
    by_cases c : i = N5
    · rcases z with z | z
      · exact ⟨x, Or.inl ⟨z.1, z.2.1, z.2.2.1, Or.inr (by rw [c, H0, if_pos rfl]; exact H1)⟩⟩
      · exact absurd ⟨by rw [c, H7]; exact H9, by rw [c, H7]; exact H10⟩ z.1
    · rw [H0, if_neg c]
      rcases z with z | z
      · exact ⟨x, Or.inl ⟨z.1, z.2.1, z.2.2.1, by omega⟩⟩
      · exact ⟨x, Or.inr z⟩
  · obtain ⟨x, y, z⟩ := l i a b
    refine ⟨fun c => ?_, y, z⟩
    by_cases w : i = N6
    · rw [w]; exact Or.inr ⟨H10, Or.inl ⟨N5, H5, by omega, H6, H7, by rw [H2, if_pos rfl]; exact H8⟩⟩
    · rcases x c with d | ⟨d, ⟨v, p, q, r, s, t⟩ | ⟨v, p, q, r, s⟩⟩
      · exact Or.inl d
      · exact Or.inr ⟨d, Or.inl ⟨v, p, by omega, r, s, by rw [H2, if_neg w]; exact t⟩⟩
      · by_cases e : v = N5
        · rw [e, H7] at s; exact absurd s.symm w
        · exact Or.inr ⟨d, Or.inr ⟨v, p, by omega, r, s⟩⟩
theorem L_s3C {F0 F1 F2 F3 F4 F5 F6 F7 F9 : Int → Int} {N0 N1 N2 N3 N4 N5 N6 N10 : Int} (H2 : ∀ x : Int, F9 x = if x = N6 then N10 else F5 x) (H3 : N5 = N4 - 1) (H4 : eSh3 F0 F1 F2 F3 F4 F5 F6 F7 N0 N1 N2 N3 N5) (H5 : N1 ≤ N5) (H6 : N5 < N3) (H7 : F2 N5 = N6) (H9 : F0 N6 = 4) (H10 : F1 N6 ≠ 2) : eSh3 F0 F1 F2 F3 F4 F9 F6 F7 N0 N1 N2 N3 N4 := by
  obtain ⟨h, k, l⟩ := H4
  refine ⟨fun i a b => ?_, k, fun i a b => ?_⟩
  · obtain ⟨x, z⟩ := h i a b
    rcases z with z | z
    · by_cases c : i = N5
      · rw [c, H7] at z; exact absurd z.2.1 H10
      · exact ⟨x, Or.inl ⟨z.1, z.2.1, z.2.2.1, by omega⟩⟩
    · exact ⟨x, Or.inr z⟩
  · obtain ⟨x, y, z⟩ := l i a b
    refine ⟨fun c => ?_, y, z⟩
    by_cases w : i = N6
    · rcases x c with d | d
      · exact Or.inl d
      · rw [w] at d; exact absurd d.1 H10
    · rcases x c with d | ⟨d, ⟨v, p, q, r, s, t⟩ | ⟨v, p, q, r, s⟩⟩
      · exact Or.inl d
      · exact Or.inr ⟨d, Or.inl ⟨v, p, by omega, r, s, by rw [H2, if_neg w]; exact t⟩⟩
      · by_cases e : v = N5
        · rw [e, H7] at s; exact absurd s.symm w
        · exact Or.inr ⟨d, Or.inr ⟨v, p, by omega, r, s⟩⟩
theorem L_s3W {F0 F1 F2 F3 F4 F5 F6 F7 : Int → Int} {N0 N1 N2 N3 N4 N5 N6 : Int} (H0 : eSh3 F0 F1 F2 F3 F4 F5 F6 F7 N0 N1 N2 N3 N4) (H1 : F2 N5 = N6) (H2 : N1 ≤ N5) (H3 : N5 < N3) : N0 ≤ N6 ∧ N6 < N2 := by
  have := (H0.1 N5 H2 H3).1
  rw [← H1]; exact ⟨this.1, this.2.1⟩
theorem L_s1L {F0 F1 F2 F3 F4 F5 F6 : Int → Int} {N0 N1 N3 N4 N5 N6 : Int} (H0 : eSh1 F0 F1 F2 F3 F4 F5 F6 N3 N4 N5 N6) (H1 : N3 ≤ N0) (H2 : N1 ≤ N5) : ∀ x : Int, N0 ≤ x → x < N1 → F0 x ≤ 4 ∨ F1 x ≤ 0 := by
  intro x a b
  have q := (H0.2.2 x (by omega) (by omega)).2.1
  by_cases c : 5 ≤ F0 x
  · have := q c; omega
  · omega
