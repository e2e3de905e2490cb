/-! SPANS, SECTIONS PLACED IN THE IMAGE: what is said of them and the rules, over plain functions (nothing of the kit in it) -/
def eSpc (P M A B : Int → Int) (g w s e : Int) : Prop := 0 ≤ e ∨ ∀ i : Int, g ≤ i → i < w → M i = -1 ∨ ∃ k : Int, 0 ≤ k ∧ k < s ∧ A k = P i ∧ B k = M i
def ePlm (A N S : Int → Int) (n s u e : Int) : Prop := ∀ k t : Int, 0 ≤ k → k < n → 0 ≤ t → t ≤ 3 → (t < s ∨ (t = s ∧ k < u)) → N (4*k+t) ≤ 0 ∨ (0 ≤ A (4*k+t) ∧ A (4*k+t) + S (4*k+t) ≤ e)
def eOdf (A N S : Int → Int) (n : Int) : Prop := ∀ k l : Int, 0 ≤ k → k < l → l < n → 1 ≤ N (4*k) → 1 ≤ N (4*l) → A (4*k) + S (4*k) ≤ A (4*l)
def eOd (A N S : Int → Int) (n s u p : Int) : Prop := (s ≤ 0 → eOdf A N S u ∧ ∀ k : Int, 0 ≤ k → k < u → 1 ≤ N (4*k) → A (4*k) + S (4*k) ≤ p) ∧ (1 ≤ s → eOdf A N S n)
theorem L_spI {F0 F1 F2 F3 : Int → Int} {N0 N1 N2 N3 : Int} (H0 : N1 ≤ N0) : eSpc F0 F1 F2 F3 N0 N1 N2 N3 := Or.inr (fun i a b => by omega)
theorem L_spE {F0 F1 F2 F3 : Int → Int} {N0 N1 N2 N3 : Int} (H0 : 0 ≤ N3) : eSpc F0 F1 F2 F3 N0 N1 N2 N3 := Or.inl H0
theorem L_spW0 {F0 F1 F2 F3 F4 : Int → Int} {N0 N1 N2 N3 N4 N5 : Int} (H0 : ∀ x : Int, F4 x = if x = N4 then N5 else F0 x) (H1 : eSpc F0 F1 F2 F3 N0 N1 N2 N3) (H2 : N1 ≤ N4) : eSpc F4 F1 F2 F3 N0 N1 N2 N3 := by
  rcases H1 with h | h
  · exact Or.inl h
  · exact Or.inr (fun i a b => by rw [H0, if_neg (by omega)]; exact h i a b)
theorem L_spW1 {F0 F1 F2 F3 F4 : Int → Int} {N0 N1 N2 N3 N4 N5 : Int} (H0 : ∀ x : Int, F4 x = if x = N4 then N5 else F1 x) (H1 : eSpc F0 F1 F2 F3 N0 N1 N2 N3) (H2 : N1 ≤ N4) : eSpc F0 F4 F2 F3 N0 N1 N2 N3 := by
  rcases H1 with h | h
  · exact Or.inl h
  · exact Or.inr (fun i a b => by rw [H0, if_neg (by omega)]; exact h i a b)
theorem L_spW2 {F0 F1 F2 F3 F4 : Int → Int} {N0 N1 N2 N3 N4 N5 : Int} (H0 : ∀ x : Int, F4 x = if x = N4 then N5 else F2 x) (H1 : eSpc F0 F1 F2 F3 N0 N1 N2 N3) (H2 : N2 ≤ N4) : eSpc F0 F1 F4 F3 N0 N1 N2 N3 := by
  rcases H1 with h | h
  · exact Or.inl h
  · refine Or.inr (fun i a b => ?_)
    rcases h i a b with c | ⟨k, c, d, e, f⟩
    · exact Or.inl c
    · exact Or.inr ⟨k, c, d, by rw [H0, if_neg (by omega)]; exact e, f⟩
theorem L_spW3 {F0 F1 F2 F3 F4 : Int → Int} {N0 N1 N2 N3 N4 N5 : Int} (H0 : ∀ x : Int, F4 x = if x = N4 then N5 else F3 x) (H1 : eSpc F0 F1 F2 F3 N0 N1 N2 N3) (H2 : N2 ≤ N4) : eSpc F0 F1 F2 F4 N0 N1 N2 N3 := by
  rcases H1 with h | h
  · exact Or.inl h
  · refine Or.inr (fun i a b => ?_)
    rcases h i a b with c | ⟨k, c, d, e, f⟩
    · exact Or.inl c
    · exact Or.inr ⟨k, c, d, e, by rw [H0, if_neg (by omega)]; exact f⟩
theorem L_spZ {F0 F1 F2 F3 : Int → Int} {N0 N1 N2 N3 N4 N5 : Int} (H0 : eSpc F0 F1 F2 F3 N0 N1 N4 N5) (H1 : N4 ≤ N2) (H2 : N5 ≤ N3) : eSpc F0 F1 F2 F3 N0 N1 N2 N3 := by
  rcases H0 with h | h
  · exact Or.inl (by omega)
  · refine Or.inr (fun i a b => ?_)
    rcases h i a b with c | ⟨k, c, d, e⟩
    · exact Or.inl c
    · exact Or.inr ⟨k, c, by omega, e⟩
theorem L_spX0 {F0 F1 F2 F3 : Int → Int} {N0 N1 N2 N3 N4 N10 N11 : Int} (H0 : eSpc F0 F1 F2 F3 N0 N4 N11 N10) (H1 : N11 ≤ N2) (H2 : N10 ≤ N3) (H3 : N1 = N4 + 1) (H4 : F1 N4 = -1) : eSpc F0 F1 F2 F3 N0 N1 N2 N3 := by
  rcases H0 with h | h
  · exact Or.inl (by omega)
  · refine Or.inr (fun i a b => ?_)
    by_cases c : i = N4
    · rw [c]; exact Or.inl H4
    · rcases h i a (by omega) with c | ⟨k, c, d, e⟩
      · exact Or.inl c
      · exact Or.inr ⟨k, c, by omega, e⟩
theorem L_spX1 {F0 F1 F2 F3 : Int → Int} {N0 N1 N2 N3 N4 N7 N10 N11 : Int} (H0 : eSpc F0 F1 F2 F3 N0 N4 N11 N10) (H1 : N11 ≤ N2) (H2 : N10 ≤ N3) (H3 : N1 = N4 + 1) (H4 : 0 ≤ N7) (H5 : N7 < N2) (H6 : F2 N7 = F0 N4) (H7 : F3 N7 = F1 N4) : eSpc F0 F1 F2 F3 N0 N1 N2 N3 := by
  rcases H0 with h | h
  · exact Or.inl (by omega)
  · refine Or.inr (fun i a b => ?_)
    by_cases c : i = N4
    · rw [c]; exact Or.inr ⟨N7, H4, H5, H6, H7⟩
    · rcases h i a (by omega) with c | ⟨k, c, d, e⟩
      · exact Or.inl c
      · exact Or.inr ⟨k, c, by omega, e⟩
theorem L_pmE {F0 F1 F2 : Int → Int} {N0 N1 N2 N3 : Int} (H0 : N1 ≤ 0) (H1 : N2 ≤ 0) : ePlm F0 F1 F2 N0 N1 N2 N3 := fun k t a b c d e => by omega
theorem L_pmX0 {F0 F1 F2 : Int → Int} {N0 N1 N2 N3 N4 N5 N6 : Int} (H0 : N4 = N2 - 1) (H1 : ePlm F0 F1 F2 N0 N1 N4 N3) (H2 : N5 = 4*N2 - 4 + N1) (H3 : F1 N5 = N6) (H4 : N6 ≤ 0) : ePlm F0 F1 F2 N0 N1 N2 N3 := by
  intro k t a b c d e
  by_cases z : t = N1 ∧ k = N4
  · rw [show 4*k+t = N5 by omega]; exact Or.inl (by omega)
  · exact H1 k t a b c d (by omega)
theorem L_pmX1 {F0 F1 F2 F3 : Int → Int} {N0 N1 N2 N3 N4 N5 N6 N7 N8 : Int} (H0 : ∀ x : Int, F3 x = if x = N5 then N6 else F0 x) (H1 : N4 = N2 - 1) (H2 : ePlm F0 F1 F2 N0 N1 N4 N7) (H3 : N7 ≤ N3) (H4 : N5 = 4*N4 + N1) (H5 : 0 ≤ N6) (H6 : F2 N5 = N8) (H7 : N6 + N8 ≤ N3) (H8 : 0 ≤ N1) (H9 : N1 ≤ 3) : ePlm F3 F1 F2 N0 N1 N2 N3 := by
  intro k t a b c d e
  by_cases z : 4*k+t = N5
  · rw [z, H0, if_pos rfl]; exact Or.inr ⟨H5, by omega⟩
  · rw [H0, if_neg z]
    rcases H2 k t a b c d (by omega) with h | h
    · exact Or.inl h
    · exact Or.inr ⟨h.1, by omega⟩
theorem L_pmS {F0 F1 F2 : Int → Int} {N0 N1 N2 N3 N4 N5 : Int} (H0 : N4 = N1 - 1) (H1 : ePlm F0 F1 F2 N0 N4 N5 N3) (H2 : N0 ≤ N5) (H3 : N2 ≤ 0) : ePlm F0 F1 F2 N0 N1 N2 N3 := fun k t a b c d e => H1 k t a b c d (by omega)
theorem L_pmZb {F0 F1 F2 : Int → Int} {N0 N1 N2 N3 N4 : Int} (H0 : ePlm F0 F1 F2 N0 N1 N2 N4) (H1 : N4 ≤ N3) : ePlm F0 F1 F2 N0 N1 N2 N3 := by
  intro k t a b c d e
  rcases H0 k t a b c d e with h | h
  · exact Or.inl h
  · exact Or.inr ⟨h.1, by omega⟩
theorem L_odE {F0 F1 F2 : Int → Int} {N0 N1 N2 N3 : Int} (H0 : N1 ≤ 0) (H1 : N2 ≤ 0) : eOd F0 F1 F2 N0 N1 N2 N3 := ⟨fun _ => ⟨fun k l a b c => by omega, fun k a b => by omega⟩, fun h => by omega⟩
theorem L_odX0 {F0 F1 F2 : Int → Int} {N0 N1 N2 N3 N4 N5 N6 : Int} (H0 : N1 ≤ 0) (H1 : N4 = N2 - 1) (H2 : eOd F0 F1 F2 N0 N1 N4 N3) (H3 : N5 = 4*N2 - 4) (H4 : F1 N5 = N6) (H5 : N6 ≤ 0) : eOd F0 F1 F2 N0 N1 N2 N3 := by
  obtain ⟨h, g⟩ := H2.1 H0
  have e : F1 (4*N4) = N6 := by rw [show 4*N4 = N5 by omega]; exact H4
  refine ⟨fun _ => ⟨fun k l a b c d f => ?_, fun k a b c => ?_⟩, fun k => by omega⟩
  · by_cases z : l = N4
    · rw [z, e] at f; omega
    · exact h k l a b (by omega) d f
  · by_cases z : k = N4
    · rw [z, e] at c; omega
    · exact g k a (by omega) c
theorem L_odX1 {F0 F1 F2 F3 : Int → Int} {N0 N1 N2 N3 N4 N5 N6 N7 N8 : Int} (H0 : ∀ x : Int, F3 x = if x = N5 then N6 else F0 x) (H1 : N1 ≤ 0) (H2 : N4 = N2 - 1) (H3 : eOd F0 F1 F2 N0 N1 N4 N7) (H4 : N7 ≤ N6) (H5 : N5 = 4*N4) (H6 : F2 N5 = N8) (H7 : N6 + N8 ≤ N3) (H8 : 0 ≤ N8 ∨ N7 ≤ N3) : eOd F3 F1 F2 N0 N1 N2 N3 := by
  obtain ⟨h, g⟩ := H3.1 H1
  have e : ∀ k : Int, k ≠ N4 → F3 (4*k) = F0 (4*k) := fun k c => by rw [H0, if_neg (by omega)]
  have e' : F3 (4*N4) = N6 := by rw [← H5, H0, if_pos rfl]
  have e'' : F2 (4*N4) = N8 := by rw [← H5]; exact H6
  refine ⟨fun _ => ⟨fun k l a b c d f => ?_, fun k a b c => ?_⟩, fun k => by omega⟩
  · by_cases z : l = N4
    · rw [e k (by omega), z, e']; have := g k a (by omega) d; omega
    · rw [e k (by omega), e l z]; exact h k l a b (by omega) d f
  · by_cases z : k = N4
    · rw [z, e', e'']; exact H7
    · rw [e k z]; have := g k a (by omega) c; omega
theorem L_odS {F0 F1 F2 : Int → Int} {N0 N1 N2 N3 N4 N5 N6 : Int} (H0 : 1 ≤ N1) (H1 : N4 = N1 - 1) (H2 : eOd F0 F1 F2 N0 N4 N5 N6) (H3 : N0 ≤ N5) : eOd F0 F1 F2 N0 N1 N2 N3 := by
  refine ⟨fun h => by omega, fun _ => ?_⟩
  by_cases z : N4 ≤ 0
  · exact fun k l a b c => (H2.1 z).1 k l a b (by omega)
  · exact H2.2 (by omega)
theorem L_odT {F0 F1 F2 : Int → Int} {N0 N1 N2 N3 N4 N5 N6 : Int} (H0 : 1 ≤ N1) (H1 : eOd F0 F1 F2 N0 N4 N5 N6) (H2 : 1 ≤ N4) : eOd F0 F1 F2 N0 N1 N2 N3 := ⟨fun h => by omega, fun _ => H1.2 H2⟩
theorem L_odW {F0 F1 F2 F3 : Int → Int} {N0 N1 N2 N3 N4 N5 N6 : Int} (H0 : ∀ x : Int, F3 x = if x = N4 then N5 else F0 x) (H1 : eOd F0 F1 F2 N0 N1 N2 N3) (H2 : 1 ≤ N1) (H3 : 4*N6 + 1 ≤ N4) (H4 : N4 ≤ 4*N6 + 3) : eOd F3 F1 F2 N0 N1 N2 N3 := by
  refine ⟨fun h => by omega, fun _ k l a b c d e => ?_⟩
  rw [H0, if_neg (by omega), H0, if_neg (by omega)]
  exact H1.2 H2 k l a b c d e
theorem L_odZ {F0 F1 F2 : Int → Int} {N0 N1 N2 N3 N4 : Int} (H0 : eOd F0 F1 F2 N0 N1 N2 N4) (H1 : N4 ≤ N3) : eOd F0 F1 F2 N0 N1 N2 N3 :=
  ⟨fun h => ⟨(H0.1 h).1, fun k a b c => Int.le_trans ((H0.1 h).2 k a b c) H1⟩, H0.2⟩
theorem L_odF {F0 F1 F2 : Int → Int} {N0 N1 N2 N3 N4 : Int} (H0 : eOd F0 F1 F2 N1 N2 N3 N4) (H1 : 1 ≤ N2) (H2 : N0 ≤ N1) : eOdf F0 F1 F2 N0 := fun k l a b c => H0.2 H1 k l a b (by omega)
