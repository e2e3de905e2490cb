/-! SECTIONS LAID OUT: what is said of them and the rules, over plain functions (nothing of the kit in it). K kinds, E sections, Z sizes, O offsets, S sizes of sections -/
def ePl (e t r d b : Int) : Int := if e = 0 then t else if e = 1 then r else if e = 2 then d else b
def eLayp (K E Z O : Int → Int) (g i t r d b : Int) : Prop := (0 ≤ t ∧ 0 ≤ r ∧ 0 ≤ d ∧ 0 ≤ b) ∧ (∀ j : Int, g ≤ j → j < i → 0 ≤ E j ∧ E j ≤ 3 ∧ 0 ≤ O j ∧ 0 ≤ Z j ∧ O j + Z j ≤ ePl (E j) t r d b) ∧ (∀ j k : Int, g ≤ j → j < k → k < i → E j = E k → O j + Z j ≤ O k) ∧ ((∀ j : Int, g ≤ j → j < i → 5 ≤ K j ∨ O j + Z j ≤ 65536) → t ≤ 65536 ∧ r ≤ 65536 ∧ d ≤ 65536 ∧ b ≤ 65536)
def eLay (K E Z O S : Int → Int) (g n u e : Int) : Prop := 1 ≤ e ∨ ((∀ j : Int, g ≤ j → j < n → 0 ≤ E j ∧ E j ≤ 3 ∧ 0 ≤ O j ∧ 0 ≤ Z j ∧ O j + Z j ≤ S (4*u + E j)) ∧ (∀ j k : Int, g ≤ j → j < k → k < n → E j = E k → O j + Z j ≤ O k) ∧ ((∀ j : Int, g ≤ j → j < n → 5 ≤ K j ∨ O j + Z j ≤ 65536) → ∀ s : Int, 0 ≤ s → s ≤ 3 → S (4*u + s) ≤ 65536) ∧ ∀ s : Int, 0 ≤ s → s ≤ 3 → 0 ≤ S (4*u + s))
theorem L_lpI {F0 F1 F2 F3 : Int → Int} {N0 N1 N2 N3 N4 N5 : Int} (H0 : N1 = N0) (H1 : N2 = 0) (H2 : N3 = 0) (H3 : N4 = 0) (H4 : N5 = 0) : eLayp F0 F1 F2 F3 N0 N1 N2 N3 N4 N5 :=
  ⟨by omega, fun j a b => by omega, fun j k a b c => by omega, fun _ => by omega⟩
theorem L_lpO {F0 F1 F2 F3 F4 : Int → Int} {N0 N1 N2 N3 N4 N5 N6 N7 : Int} (H0 : ∀ x : Int, F4 x = if x = N6 then N7 else F3 x) (H1 : eLayp F0 F1 F2 F3 N0 N1 N2 N3 N4 N5) (H2 : N1 ≤ N6) : eLayp F0 F1 F2 F4 N0 N1 N2 N3 N4 N5 := by
  have e : ∀ x : Int, x < N1 → F4 x = F3 x := fun x c => by rw [H0, if_neg (by omega)]
  obtain ⟨a, b, c, d⟩ := H1
  refine ⟨a, fun j x y => ?_, fun j k x y z w => ?_, fun h => d (fun j x y => ?_)⟩
  · rw [e j y]; exact b j x y
  · rw [e j (by omega), e k z]; exact c j k x y z w
  · rw [← e j y]; exact h j x y
theorem L_lpW {F0 F1 F2 F3 F4 : Int → Int} {N0 N1 N2 N3 N4 N5 N6 N7 : Int} (H0 : ∀ x : Int, F4 x = if x = N6 then N7 else F2 x) (H1 : eLayp F0 F1 F2 F3 N0 N1 N2 N3 N4 N5) (H2 : N1 ≤ N6) : eLayp F0 F1 F4 F3 N0 N1 N2 N3 N4 N5 := by
  have e : ∀ x : Int, x < N1 → F4 x = F2 x := fun x c => by rw [H0, if_neg (by omega)]
  obtain ⟨a, b, c, d⟩ := H1
  refine ⟨a, fun j x y => ?_, fun j k x y z w => ?_, fun h => d (fun j x y => ?_)⟩
  · rw [e j y]; exact b j x y
  · rw [e j (by omega)]; exact c j k x y z w
  · rw [← e j y]; exact h j x y
theorem L_lyE {F0 F1 F2 F3 F4 : Int → Int} {N0 N1 N2 N3 : Int} (H0 : 1 ≤ N3) : eLay F0 F1 F2 F3 F4 N0 N1 N2 N3 := Or.inl H0
theorem L_lyZ {F0 F1 F2 F3 F4 : Int → Int} {N0 N1 N2 N3 N4 : Int} (H0 : eLay F0 F1 F2 F3 F4 N0 N1 N2 N4) (H1 : N4 ≤ N3) : eLay F0 F1 F2 F3 F4 N0 N1 N2 N3 := by
  rcases H0 with h | h
  · exact Or.inl (by omega)
  · exact Or.inr h
theorem L_lyI {F0 F1 F2 F3 F4 F5 F6 F7 F8 : Int → Int} {N0 N1 N2 N3 N4 N5 N6 N7 N8 N9 N10 N11 N12 : Int} (H0 : ∀ x : Int, F5 x = if x = N4 then N5 else F8 x) (H1 : ∀ x : Int, F8 x = if x = N6 then N7 else F7 x) (H2 : ∀ x : Int, F7 x = if x = N8 then N9 else F6 x) (H3 : ∀ x : Int, F6 x = if x = N10 then N11 else F4 x) (H4 : N10 = 4*N2) (H5 : N8 = 4*N2 + 1) (H6 : N6 = 4*N2 + 2) (H7 : N4 = 4*N2 + 3) (H8 : eLayp F0 F1 F2 F3 N0 N12 N11 N9 N7 N5) (H9 : N12 = N1) : eLay F0 F1 F2 F3 F5 N0 N1 N2 N3 := by
  subst H9
  have e : ∀ s : Int, 0 ≤ s → s ≤ 3 → F5 (4*N2 + s) = ePl s N11 N9 N7 N5 := fun s a b => by
    unfold ePl
    rw [H0, H1, H2, H3]
    by_cases c0 : s = 0
    · rw [if_neg (by omega), if_neg (by omega), if_neg (by omega), if_pos (by omega), if_pos c0]
    · by_cases c1 : s = 1
      · rw [if_neg (by omega), if_neg (by omega), if_pos (by omega), if_neg c0, if_pos c1]
      · by_cases c2 : s = 2
        · rw [if_neg (by omega), if_pos (by omega), if_neg c0, if_neg c1, if_pos c2]
        · rw [if_pos (by omega), if_neg c0, if_neg c1, if_neg c2]
  obtain ⟨a, b, c, d⟩ := H8
  refine Or.inr ⟨fun j x y => ?_, c, fun h s x y => ?_, fun s x y => ?_⟩
  · have q := b j x y
    rw [e _ q.1 q.2.1]; exact q
  · have q := d h
    rw [e s x y]; unfold ePl; split <;> try split <;> try split <;> omega
    all_goals omega
  · rw [e s x y]; unfold ePl; split <;> try split <;> try split <;> omega
    all_goals omega
