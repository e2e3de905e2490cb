/-! PLACES OF ITEMS, ADDRESSES, BYTES OF NUMBERS: what is said of them and the rules, over plain functions (nothing of the kit in it; written by wip/p2/gen46w.py) -/
def eItm (L : Int → Int) (p r : Int) : Prop := (p = -1 ∧ r = -1) ∨ (1048576 ≤ p ∧ r = p - 1048576) ∨ (0 ≤ p ∧ p < 1048576 ∧ r = L p)
def eOk (L : Int → Int) (p : Int) : Prop := 1048576 ≤ p ∨ (0 ≤ p ∧ p < 1048576 ∧ 0 ≤ L p)
def eOkp (L : Int → Int) (p e : Int) : Prop := 1 ≤ e ∨ eOk L p
def eNrw (P L : Int → Int) (w e : Int) : Prop := 1 ≤ e ∨ eOk L (P w)
def eSpk (P M L : Int → Int) (k e : Int) : Prop := 1 ≤ e ∨ ∀ j : Int, 0 ≤ j → j < k → eOk L (P j) ∧ eOk L (M j)
def eWai (F : Int → Int) (i v : Int) : Prop := F i = v
def eNdd (N S : Int → Int) (u i : Int) : Prop := 1 ≤ N (4*u + S i)
def eIsn (N S W Z : Int → Int) (w u e : Int) : Prop := 1 ≤ e ∨ (1 ≤ N (4*u + S (W w)) ∧ Z w ≠ 1)
def eIa (A S O : Int → Int) (u i r : Int) : Prop := r = 4194304 + A (4*u + S i) + O i
def eWul (F : Int → Int) (w u : Int) : Prop := u ≤ 0 ∨ F u ≤ w
def eWu (F : Int → Int) (w u : Int) : Prop := (u ≤ 0 ∨ F u ≤ w) ∧ w < F (u + 1)
def eSrt (A : Int → Int) (n : Int) : Prop := ∀ x y : Int, 0 ≤ x → x < y → y < n → A x < A y
def eBs (A : Int → Int) (n p l h : Int) : Prop := eSrt A n → (∀ x : Int, 0 ≤ x → x < l → x < n → A x < p) ∧ (∀ x : Int, 0 ≤ x → h ≤ x → x < n → p ≤ A x)
def eAtx (A : Int → Int) (n p r : Int) : Prop := eSrt A n → (∃ x : Int, 0 ≤ x ∧ x < n ∧ A x = p) → 0 ≤ r
def eBf (k s : Int) : Int := if k = 1 then (if s = 1 then 1 else 4) else if k = 2 ∨ k = 6 then 1 else if k = 3 then 4 else if k = 4 then 8 else if k = 5 then 2 else 0
def eBfo (k s r : Int) : Prop := r = eBf k s
def eHf (p : Int) : Prop := p = 1 ∨ p = 2 ∨ p = 4 ∨ p = 7 ∨ p = 8 ∨ p = 9 ∨ p = 11 ∨ p = 12
def eHfo (p r : Int) : Prop := (1 ≤ r ∧ eHf p) ∨ (r ≤ 0 ∧ ¬ eHf p)
def ePfo (p r : Int) : Prop := eHf p ∨ (r ≠ 2 ∧ r ≠ 6)
def eHob (k w a b e : Int) : Prop := 1 ≤ e ∨ (a ≤ -1 ∧ b ≤ -1) ∨ 4 ≤ eBf k w
def eSum (K P : Int → Int) (c i n e : Int) : Prop := 1 ≤ e ∨ n ≤ i ∨ K i ≠ 2 ∨ eHf (P c)
def eSuv (K R : Int → Int) (c i n w a b e : Int) : Prop := 1 ≤ e ∨ n ≤ i ∨ K i ≠ 3 ∨ (a ≤ -1 ∧ b ≤ -1) ∨ 4 ≤ eBf (R c) w
def eKx (K : Int → Int) (n e : Int) : Prop := 1 ≤ e ∨ ∃ i : Int, 0 ≤ i ∧ i ≤ 2 ∧ i < n ∧ K i = 2
def eNm0 (K : Int → Int) (i n m : Int) : Prop := 1 ≤ m ∨ ∀ j : Int, 0 ≤ j → j < i → j < n → K j ≠ 2
def eNmf (K P : Int → Int) (c i n e : Int) : Prop := 1 ≤ e ∨ ∀ j : Int, 0 ≤ j → j < i → j < n → K j = 2 → eHf (P c)
def eNvl (K R : Int → Int) (c i n w a b e : Int) : Prop := 1 ≤ e ∨ ∀ j : Int, 0 ≤ j → j < i → j < n → K j = 3 → (a ≤ -1 ∧ b ≤ -1) ∨ 4 ≤ eBf (R c) w
def eMdz (K : Int → Int) (n x e f : Int) : Prop := 1 ≤ e ∨ 1 ≤ f ∨ 4 ≤ x ∨ ∀ j : Int, 0 ≤ j → j < 3 → j < n → K j ≠ 2
def eVx (K : Int → Int) (n a b : Int) : Prop := (a ≤ -1 ∧ b ≤ -1) ∨ ∃ i : Int, 0 ≤ i ∧ i ≤ 2 ∧ i < n ∧ K i = 3
def eMvn (x p e : Int) : Prop := 1 ≤ e ∨ p ≤ -1 ∨ 4 ≤ x
def eCn (F : Int → Int) (b : Int → Bool) : Nat → Int
  | 0 => 0
  | n + 1 => eCn F b n + if b (F n) then 1 else 0
/-- of the first n places so many hold what isn't negative, at least -/
def eLcn (L : Int → Int) (n c : Int) : Prop := c ≤ eCn L (fun v => decide (0 ≤ v)) n.toNat
/-- of the first n places so many hold 4 or less, at most -/
def eCsn (K : Int → Int) (n c : Int) : Prop := eCn K (fun v => decide (v ≤ 4)) n.toNat ≤ c
theorem L_it0 {F0 : Int → Int} {N0 N1 : Int} (H0 : 0 ≤ (1)+(1)*N0) (H1 : 0 ≤ (-1)+(-1)*N0) (H2 : 0 ≤ (1)+(1)*N1) (H3 : 0 ≤ (-1)+(-1)*N1) : (eItm F0 N0 N1) := by
  unfold eItm at *
  omega
theorem L_it1 {F0 : Int → Int} {N0 N1 : Int} (H0 : 0 ≤ (-1048576)+(1)*N0) (H1 : 0 ≤ (1048576)+(1)*N1+(-1)*N0) (H2 : 0 ≤ (-1048576)+(1)*N0+(-1)*N1) : (eItm F0 N0 N1) := by
  unfold eItm at *
  omega
theorem L_it2 {F0 : Int → Int} {N0 N1 N2 : Int} (H0 : 0 ≤ (0)+(1)*N0) (H1 : 0 ≤ (1048575)+(-1)*N0) (H2 : F0 N0 = N2) (H3 : 0 ≤ (0)+(1)*N1+(-1)*N2) (H4 : 0 ≤ (0)+(1)*N2+(-1)*N1) : (eItm F0 N0 N1) := by
  obtain rfl : N1 = N2 := by omega
  obtain rfl : N1 = F0 N0 := by omega
  unfold eItm at *
  omega
theorem L_okI {F0 : Int → Int} {N0 N1 N2 N3 : Int} (H0 : eItm F0 N2 N3) (H1 : 0 ≤ (0)+(1)*N2+(-1)*N0) (H2 : 0 ≤ (0)+(1)*N0+(-1)*N2) (H3 : 0 ≤ (0)+(1)*N3) (H4 : 0 ≤ (0)) : (eOkp F0 N0 N1) := by
  obtain rfl : N0 = N2 := by omega
  unfold eItm eOkp eOk at *
  omega
theorem L_okE {F0 : Int → Int} {N0 N1 : Int} (H0 : 0 ≤ (-1)+(1)*N1) (H1 : 0 ≤ (0)) : (eOkp F0 N0 N1) := by
  unfold eOkp at *
  omega
theorem L_okU {F0 : Int → Int} {N0 N1 N2 : Int} (H0 : eItm F0 N0 N1) (H1 : N2 = (0)) (H2 : eOkp F0 N0 N2) : (0 ≤ (0)+(1)*N1) := by
  unfold eItm eOkp eOk at *
  omega
theorem L_nwI {F0 F1 : Int → Int} {N0 N1 N2 N3 : Int} (H0 : F0 N0 = N2) (H1 : N3 = (0)) (H2 : eOkp F1 N2 N3) (H3 : 0 ≤ (0)) : (eNrw F0 F1 N0 N1) := by
  obtain rfl : N2 = F0 N0 := by omega
  unfold eOkp eNrw eOk at *
  omega
theorem L_nwE {F0 F1 : Int → Int} {N0 N1 : Int} (H0 : 0 ≤ (-1)+(1)*N1) (H1 : 0 ≤ (0)) : (eNrw F0 F1 N0 N1) := by
  unfold eNrw at *
  omega
theorem L_nwU {F0 F1 : Int → Int} {N0 N1 N2 N3 N4 : Int} (H0 : eNrw F0 F1 N2 N3) (H1 : 0 ≤ (0)+(-1)*N3) (H2 : F0 N2 = N4) (H3 : 0 ≤ (0)+(1)*N4+(-1)*N0) (H4 : 0 ≤ (0)+(1)*N0+(-1)*N4) (H5 : 0 ≤ (0)) : (eOkp F1 N0 N1) := by
  obtain rfl : N0 = N4 := by omega
  obtain rfl : N0 = F0 N2 := by omega
  unfold eNrw eOkp eOk at *
  omega
theorem L_spk0 {F0 F1 F2 : Int → Int} {N0 N1 : Int} (H0 : 0 ≤ (0)+(-1)*N0) (H1 : 0 ≤ (0)) : (eSpk F0 F1 F2 N0 N1) := by
  exact Or.inr (fun j a b => by omega)
theorem L_spkE {F0 F1 F2 : Int → Int} {N0 N1 : Int} (H0 : 0 ≤ (-1)+(1)*N1) (H1 : 0 ≤ (0)) : (eSpk F0 F1 F2 N0 N1) := by
  exact Or.inl (by omega)
theorem L_spkX {F0 F1 F2 : Int → Int} {N0 N1 N2 N3 N4 N5 N6 N7 N8 N9 : Int} (H0 : N2 = (-1)+(1)*N0) (H1 : eSpk F0 F1 F2 N2 N3) (H2 : 0 ≤ (0)+(-1)*N3) (H3 : F0 N2 = N4) (H4 : eItm F2 N5 N6) (H5 : 0 ≤ (0)+(1)*N5+(-1)*N4) (H6 : 0 ≤ (0)+(1)*N4+(-1)*N5) (H7 : 0 ≤ (0)+(1)*N6) (H8 : F1 N2 = N7) (H9 : eItm F2 N8 N9) (H10 : 0 ≤ (0)+(1)*N8+(-1)*N7) (H11 : 0 ≤ (0)+(1)*N7+(-1)*N8) (H12 : 0 ≤ (0)+(1)*N9) (H13 : 0 ≤ (0)) : (eSpk F0 F1 F2 N0 N1) := by
  obtain rfl : N5 = N4 := by omega
  obtain rfl : N8 = N7 := by omega
  rcases H1 with h | h
  · exfalso; omega
  · refine Or.inr (fun j a b => ?_)
    by_cases c : j = N2
    · rw [c, H3, H8]
      unfold eItm at H4 H9
      unfold eOk
      exact ⟨by omega, by omega⟩
    · exact h j a (by omega)
theorem L_ia {F0 F1 F2 : Int → Int} {N0 N1 N2 N3 N4 N5 N6 : Int} (H0 : F1 N1 = N3) (H1 : N4 = (0)+(4)*N0+(1)*N3) (H2 : F0 N4 = N5) (H3 : F2 N1 = N6) (H4 : 0 ≤ (-4194304)+(1)*N2+(-1)*N5+(-1)*N6) (H5 : 0 ≤ (4194304)+(1)*N5+(1)*N6+(-1)*N2) : (eIa F0 F1 F2 N0 N1 N2) := by
  have e : N4 = 4 * N0 + F1 N1 := by omega
  rw [e] at H2
  unfold eIa; omega
theorem L_wiI {F0 : Int → Int} {N0 N1 N2 : Int} (H0 : F0 N0 = N2) (H1 : 0 ≤ (0)+(1)*N2+(-1)*N1) (H2 : 0 ≤ (0)+(1)*N1+(-1)*N2) : (eWai F0 N0 N1) := by
  unfold eWai; omega
theorem L_ndI {F0 F1 : Int → Int} {N0 N1 N2 N3 N4 : Int} (H0 : F1 N1 = N2) (H1 : N3 = (0)+(4)*N0+(1)*N2) (H2 : F0 N3 = N4) (H3 : 0 ≤ (-1)+(1)*N4) : (eNdd F0 F1 N0 N1) := by
  have e : N3 = 4 * N0 + F1 N1 := by omega
  rw [e] at H2
  unfold eNdd; omega
theorem L_wu0 {F0 : Int → Int} {N0 N1 : Int} (H0 : 0 ≤ (0)+(-1)*N1) (H1 : 0 ≤ (0)) : (eWul F0 N0 N1) := by
  exact Or.inl (by omega)
theorem L_wu1 {F0 : Int → Int} {N0 N1 N2 : Int} (H0 : F0 N1 = N2) (H1 : 0 ≤ (0)+(1)*N0+(-1)*N2) : (eWul F0 N0 N1) := by
  exact Or.inr (by omega)
theorem L_wuX {F0 : Int → Int} {N0 N1 N2 N3 N4 : Int} (H0 : eWul F0 N0 N1) (H1 : N3 = (1)+(1)*N1) (H2 : F0 N3 = N4) (H3 : 0 ≤ (-1)+(1)*N4+(-1)*N0) (H4 : 0 ≤ (0)) : (eWu F0 N0 N1) := by
  have e : N3 = N1 + 1 := by omega
  rw [e] at H2
  exact ⟨H0, by omega⟩
theorem L_bs0 {F0 : Int → Int} {N0 N1 N2 N3 : Int} (H0 : 0 ≤ (0)+(-1)*N2) (H1 : 0 ≤ (0)+(1)*N3+(-1)*N0) (H2 : 0 ≤ (0)) : (eBs F0 N0 N1 N2 N3) := by
  exact fun _ => ⟨fun x a b c => by omega, fun x a b c => by omega⟩
theorem L_bsL {F0 : Int → Int} {N0 N1 N2 N3 N4 N5 N6 : Int} (H0 : N4 = (-1)+(1)*N2) (H1 : eBs F0 N0 N1 N5 N3) (H2 : F0 N4 = N6) (H3 : 0 ≤ (-1)+(1)*N1+(-1)*N6) (H4 : 0 ≤ (0)+(1)*N4) (H5 : 0 ≤ (-1)+(1)*N0+(-1)*N4) : (eBs F0 N0 N1 N2 N3) := by
  intro s
  obtain ⟨a, b⟩ := H1 s
  refine ⟨fun x c d e => ?_, b⟩
  by_cases k : x = N4
  · rw [k]; omega
  · have := s x N4 c (by omega) (by omega); omega
theorem L_bsH {F0 : Int → Int} {N0 N1 N2 N3 N4 N5 : Int} (H0 : eBs F0 N0 N1 N2 N4) (H1 : F0 N3 = N5) (H2 : 0 ≤ (0)+(1)*N5+(-1)*N1) (H3 : 0 ≤ (0)+(1)*N3) : (eBs F0 N0 N1 N2 N3) := by
  intro s
  obtain ⟨a, b⟩ := H0 s
  refine ⟨a, fun x c d e => ?_⟩
  by_cases k : x = N3
  · rw [k]; omega
  · have := s N3 x (by omega) (by omega) e; omega
theorem L_atA {F0 : Int → Int} {N0 N1 N2 : Int} (H0 : 0 ≤ (0)+(1)*N2) (H1 : 0 ≤ (0)) (H2 : 0 ≤ (0)) : (eAtx F0 N0 N1 N2) := by
  exact fun _ _ => by omega
theorem L_atB {F0 : Int → Int} {N0 N1 N2 N3 N4 : Int} (H0 : eBs F0 N0 N1 N3 N4) (H1 : 0 ≤ (0)+(1)*N3+(-1)*N0) (H2 : 0 ≤ (0)) : (eAtx F0 N0 N1 N2) := by
  rintro s ⟨x, a, b, c⟩
  have := (H0 s).1 x a (by omega) b
  omega
theorem L_atC0 {F0 : Int → Int} {N0 N1 N2 N3 N4 N5 : Int} (H0 : eBs F0 N0 N1 N3 N4) (H1 : 0 ≤ (0)+(1)*N3+(-1)*N4) (H2 : 0 ≤ (0)+(1)*N3) (H3 : F0 N3 = N5) (H4 : 0 ≤ (-1)+(1)*N5+(-1)*N1) (H5 : 0 ≤ (0)) : (eAtx F0 N0 N1 N2) := by
  rintro s ⟨x, a, b, c⟩
  obtain ⟨p, q⟩ := H0 s
  by_cases k : x < N3
  · have := p x a k b; omega
  · by_cases z : x = N3
    · rw [z] at c; omega
    · have := q x a (by omega) b
      have := s N3 x (by omega) (by omega) b
      have := q N3 (by omega) (by omega) (by omega)
      omega
theorem L_atC1 {F0 : Int → Int} {N0 N1 N2 N3 N4 N5 : Int} (H0 : eBs F0 N0 N1 N3 N4) (H1 : 0 ≤ (0)+(1)*N3+(-1)*N4) (H2 : 0 ≤ (0)+(1)*N3) (H3 : F0 N3 = N5) (H4 : 0 ≤ (-1)+(1)*N1+(-1)*N5) (H5 : 0 ≤ (0)) : (eAtx F0 N0 N1 N2) := by
  rintro s ⟨x, a, b, c⟩
  obtain ⟨p, q⟩ := H0 s
  by_cases k : x < N3
  · have := p x a k b; omega
  · by_cases z : x = N3
    · rw [z] at c; omega
    · have := q x a (by omega) b
      have := s N3 x (by omega) (by omega) b
      have := q N3 (by omega) (by omega) (by omega)
      omega
theorem L_inI {F0 F1 F2 F3 : Int → Int} {N0 N1 N2 N3 N4 N5 N6 N7 : Int} (H0 : F2 N0 = N3) (H1 : F1 N3 = N4) (H2 : N5 = (0)+(4)*N1+(1)*N4) (H3 : F0 N5 = N6) (H4 : 0 ≤ (-1)+(1)*N6) (H5 : F3 N0 = N7) (H6 : 0 ≤ (-2)+(1)*N7) (H7 : 0 ≤ (0)) : (eIsn F0 F1 F2 F3 N0 N1 N2) := by
  have e : N5 = 4 * N1 + F1 (F2 N0) := by rw [H0, H1]; omega
  rw [e] at H3
  unfold eIsn; omega
theorem L_inJ {F0 F1 F2 F3 : Int → Int} {N0 N1 N2 N3 N4 N5 N6 N7 : Int} (H0 : F2 N0 = N3) (H1 : F1 N3 = N4) (H2 : N5 = (0)+(4)*N1+(1)*N4) (H3 : F0 N5 = N6) (H4 : 0 ≤ (-1)+(1)*N6) (H5 : F3 N0 = N7) (H6 : 0 ≤ (0)+(-1)*N7) (H7 : 0 ≤ (0)) : (eIsn F0 F1 F2 F3 N0 N1 N2) := by
  have e : N5 = 4 * N1 + F1 (F2 N0) := by rw [H0, H1]; omega
  rw [e] at H3
  unfold eIsn; omega
theorem L_inE {F0 F1 F2 F3 : Int → Int} {N0 N1 N2 : Int} (H0 : 0 ≤ (-1)+(1)*N2) (H1 : 0 ≤ (0)) (H2 : 0 ≤ (0)) : (eIsn F0 F1 F2 F3 N0 N1 N2) := by
  exact Or.inl (by omega)
theorem L_bf0 {N0 N1 N2 : Int} (H0 : 0 ≤ (-1)+(1)*N0) (H1 : 0 ≤ (1)+(-1)*N0) (H2 : 0 ≤ (-1)+(1)*N1) (H3 : 0 ≤ (1)+(-1)*N1) (H4 : 0 ≤ (-1)+(1)*N2) (H5 : 0 ≤ (1)+(-1)*N2) : (eBfo N0 N1 N2) := by
  unfold eBfo eBf
  repeat' split
  all_goals omega
theorem L_bf1 {N0 N1 N2 : Int} (H0 : 0 ≤ (-1)+(1)*N0) (H1 : 0 ≤ (1)+(-1)*N0) (H2 : 0 ≤ (0)+(-1)*N1) (H3 : 0 ≤ (-4)+(1)*N2) (H4 : 0 ≤ (4)+(-1)*N2) : (eBfo N0 N1 N2) := by
  unfold eBfo eBf
  repeat' split
  all_goals omega
theorem L_bf2 {N0 N1 N2 : Int} (H0 : 0 ≤ (-1)+(1)*N0) (H1 : 0 ≤ (1)+(-1)*N0) (H2 : 0 ≤ (-2)+(1)*N1) (H3 : 0 ≤ (-4)+(1)*N2) (H4 : 0 ≤ (4)+(-1)*N2) : (eBfo N0 N1 N2) := by
  unfold eBfo eBf
  repeat' split
  all_goals omega
theorem L_bf3 {N0 N1 N2 : Int} (H0 : 0 ≤ (-2)+(1)*N0) (H1 : 0 ≤ (2)+(-1)*N0) (H2 : 0 ≤ (0)) (H3 : 0 ≤ (-1)+(1)*N2) (H4 : 0 ≤ (1)+(-1)*N2) : (eBfo N0 N1 N2) := by
  unfold eBfo eBf
  repeat' split
  all_goals omega
theorem L_bf4 {N0 N1 N2 : Int} (H0 : 0 ≤ (-6)+(1)*N0) (H1 : 0 ≤ (6)+(-1)*N0) (H2 : 0 ≤ (0)) (H3 : 0 ≤ (-1)+(1)*N2) (H4 : 0 ≤ (1)+(-1)*N2) : (eBfo N0 N1 N2) := by
  unfold eBfo eBf
  repeat' split
  all_goals omega
theorem L_bf5 {N0 N1 N2 : Int} (H0 : 0 ≤ (-3)+(1)*N0) (H1 : 0 ≤ (3)+(-1)*N0) (H2 : 0 ≤ (0)) (H3 : 0 ≤ (-4)+(1)*N2) (H4 : 0 ≤ (4)+(-1)*N2) : (eBfo N0 N1 N2) := by
  unfold eBfo eBf
  repeat' split
  all_goals omega
theorem L_bf6 {N0 N1 N2 : Int} (H0 : 0 ≤ (-4)+(1)*N0) (H1 : 0 ≤ (4)+(-1)*N0) (H2 : 0 ≤ (0)) (H3 : 0 ≤ (-8)+(1)*N2) (H4 : 0 ≤ (8)+(-1)*N2) : (eBfo N0 N1 N2) := by
  unfold eBfo eBf
  repeat' split
  all_goals omega
theorem L_bf7 {N0 N1 N2 : Int} (H0 : 0 ≤ (-5)+(1)*N0) (H1 : 0 ≤ (5)+(-1)*N0) (H2 : 0 ≤ (0)) (H3 : 0 ≤ (-2)+(1)*N2) (H4 : 0 ≤ (2)+(-1)*N2) : (eBfo N0 N1 N2) := by
  unfold eBfo eBf
  repeat' split
  all_goals omega
theorem L_bf8 {N0 N1 N2 : Int} (H0 : 0 ≤ (0)+(-1)*N0) (H1 : 0 ≤ (0)) (H2 : 0 ≤ (0)+(1)*N2) (H3 : 0 ≤ (0)+(-1)*N2) : (eBfo N0 N1 N2) := by
  unfold eBfo eBf
  repeat' split
  all_goals omega
theorem L_bf9 {N0 N1 N2 : Int} (H0 : 0 ≤ (-7)+(1)*N0) (H1 : 0 ≤ (0)) (H2 : 0 ≤ (0)+(1)*N2) (H3 : 0 ≤ (0)+(-1)*N2) : (eBfo N0 N1 N2) := by
  unfold eBfo eBf
  repeat' split
  all_goals omega
theorem L_hfA1 {N0 N1 : Int} (H0 : 0 ≤ (-1)+(1)*N0) (H1 : 0 ≤ (1)+(-1)*N0) (H2 : 0 ≤ (-1)+(1)*N1) : (eHfo N0 N1) := by
  unfold eHfo eHf at *
  omega
theorem L_pfA1 {N0 N1 : Int} (H0 : 0 ≤ (-1)+(1)*N0) (H1 : 0 ≤ (1)+(-1)*N0) (H2 : 0 ≤ (0)) : (ePfo N0 N1) := by
  unfold ePfo eHf at *
  omega
theorem L_hfA2 {N0 N1 : Int} (H0 : 0 ≤ (-2)+(1)*N0) (H1 : 0 ≤ (2)+(-1)*N0) (H2 : 0 ≤ (-1)+(1)*N1) : (eHfo N0 N1) := by
  unfold eHfo eHf at *
  omega
theorem L_pfA2 {N0 N1 : Int} (H0 : 0 ≤ (-2)+(1)*N0) (H1 : 0 ≤ (2)+(-1)*N0) (H2 : 0 ≤ (0)) : (ePfo N0 N1) := by
  unfold ePfo eHf at *
  omega
theorem L_hfA4 {N0 N1 : Int} (H0 : 0 ≤ (-4)+(1)*N0) (H1 : 0 ≤ (4)+(-1)*N0) (H2 : 0 ≤ (-1)+(1)*N1) : (eHfo N0 N1) := by
  unfold eHfo eHf at *
  omega
theorem L_pfA4 {N0 N1 : Int} (H0 : 0 ≤ (-4)+(1)*N0) (H1 : 0 ≤ (4)+(-1)*N0) (H2 : 0 ≤ (0)) : (ePfo N0 N1) := by
  unfold ePfo eHf at *
  omega
theorem L_hfA7 {N0 N1 : Int} (H0 : 0 ≤ (-7)+(1)*N0) (H1 : 0 ≤ (7)+(-1)*N0) (H2 : 0 ≤ (-1)+(1)*N1) : (eHfo N0 N1) := by
  unfold eHfo eHf at *
  omega
theorem L_pfA7 {N0 N1 : Int} (H0 : 0 ≤ (-7)+(1)*N0) (H1 : 0 ≤ (7)+(-1)*N0) (H2 : 0 ≤ (0)) : (ePfo N0 N1) := by
  unfold ePfo eHf at *
  omega
theorem L_hfA8 {N0 N1 : Int} (H0 : 0 ≤ (-8)+(1)*N0) (H1 : 0 ≤ (8)+(-1)*N0) (H2 : 0 ≤ (-1)+(1)*N1) : (eHfo N0 N1) := by
  unfold eHfo eHf at *
  omega
theorem L_pfA8 {N0 N1 : Int} (H0 : 0 ≤ (-8)+(1)*N0) (H1 : 0 ≤ (8)+(-1)*N0) (H2 : 0 ≤ (0)) : (ePfo N0 N1) := by
  unfold ePfo eHf at *
  omega
theorem L_hfA9 {N0 N1 : Int} (H0 : 0 ≤ (-9)+(1)*N0) (H1 : 0 ≤ (9)+(-1)*N0) (H2 : 0 ≤ (-1)+(1)*N1) : (eHfo N0 N1) := by
  unfold eHfo eHf at *
  omega
theorem L_pfA9 {N0 N1 : Int} (H0 : 0 ≤ (-9)+(1)*N0) (H1 : 0 ≤ (9)+(-1)*N0) (H2 : 0 ≤ (0)) : (ePfo N0 N1) := by
  unfold ePfo eHf at *
  omega
theorem L_hfA11 {N0 N1 : Int} (H0 : 0 ≤ (-11)+(1)*N0) (H1 : 0 ≤ (11)+(-1)*N0) (H2 : 0 ≤ (-1)+(1)*N1) : (eHfo N0 N1) := by
  unfold eHfo eHf at *
  omega
theorem L_pfA11 {N0 N1 : Int} (H0 : 0 ≤ (-11)+(1)*N0) (H1 : 0 ≤ (11)+(-1)*N0) (H2 : 0 ≤ (0)) : (ePfo N0 N1) := by
  unfold ePfo eHf at *
  omega
theorem L_hfA12 {N0 N1 : Int} (H0 : 0 ≤ (-12)+(1)*N0) (H1 : 0 ≤ (12)+(-1)*N0) (H2 : 0 ≤ (-1)+(1)*N1) : (eHfo N0 N1) := by
  unfold eHfo eHf at *
  omega
theorem L_pfA12 {N0 N1 : Int} (H0 : 0 ≤ (-12)+(1)*N0) (H1 : 0 ≤ (12)+(-1)*N0) (H2 : 0 ≤ (0)) : (ePfo N0 N1) := by
  unfold ePfo eHf at *
  omega
theorem L_hfB0 {N0 N1 : Int} (H0 : 0 ≤ (0)+(-1)*N0) (H1 : 0 ≤ (0)+(-1)*N1) (H2 : 0 ≤ (0)+(1)*N1) : (eHfo N0 N1) := by
  unfold eHfo eHf at *
  omega
theorem L_hfB1 {N0 N1 : Int} (H0 : 0 ≤ (-3)+(1)*N0) (H1 : 0 ≤ (3)+(-1)*N0) (H2 : 0 ≤ (0)+(-1)*N1) (H3 : 0 ≤ (0)+(1)*N1) : (eHfo N0 N1) := by
  unfold eHfo eHf at *
  omega
theorem L_hfB2 {N0 N1 : Int} (H0 : 0 ≤ (-5)+(1)*N0) (H1 : 0 ≤ (6)+(-1)*N0) (H2 : 0 ≤ (0)+(-1)*N1) (H3 : 0 ≤ (0)+(1)*N1) : (eHfo N0 N1) := by
  unfold eHfo eHf at *
  omega
theorem L_hfB3 {N0 N1 : Int} (H0 : 0 ≤ (-10)+(1)*N0) (H1 : 0 ≤ (10)+(-1)*N0) (H2 : 0 ≤ (0)+(-1)*N1) (H3 : 0 ≤ (0)+(1)*N1) : (eHfo N0 N1) := by
  unfold eHfo eHf at *
  omega
theorem L_hfB4 {N0 N1 : Int} (H0 : 0 ≤ (-13)+(1)*N0) (H1 : 0 ≤ (0)+(-1)*N1) (H2 : 0 ≤ (0)+(1)*N1) : (eHfo N0 N1) := by
  unfold eHfo eHf at *
  omega
theorem L_pfB0 {N0 N1 : Int} (H0 : 0 ≤ (1)+(-1)*N1) (H1 : 0 ≤ (0)) : (ePfo N0 N1) := by
  unfold ePfo eHf at *
  omega
theorem L_pfB1 {N0 N1 : Int} (H0 : 0 ≤ (-3)+(1)*N1) (H1 : 0 ≤ (5)+(-1)*N1) (H2 : 0 ≤ (0)) : (ePfo N0 N1) := by
  unfold ePfo eHf at *
  omega
theorem L_pfB2 {N0 N1 : Int} (H0 : 0 ≤ (-7)+(1)*N1) (H1 : 0 ≤ (0)) : (ePfo N0 N1) := by
  unfold ePfo eHf at *
  omega
theorem L_suE {F0 F1 : Int → Int} {N0 N1 N2 N3 : Int} (H0 : 0 ≤ (-1)+(1)*N3) (H1 : 0 ≤ (0)) (H2 : 0 ≤ (0)) (H3 : 0 ≤ (0)) (H4 : 0 ≤ (0)) : (eSum F0 F1 N0 N1 N2 N3) := by
  exact Or.inl (by omega)
theorem L_su1 {F0 F1 : Int → Int} {N0 N1 N2 N3 : Int} (H0 : 0 ≤ (0)+(1)*N1+(-1)*N2) (H1 : 0 ≤ (0)) (H2 : 0 ≤ (0)) (H3 : 0 ≤ (0)) (H4 : 0 ≤ (0)) : (eSum F0 F1 N0 N1 N2 N3) := by
  unfold eSum eHf at *
  omega
theorem L_su20 {F0 F1 : Int → Int} {N0 N1 N2 N3 N4 : Int} (H0 : F0 N1 = N4) (H1 : 0 ≤ (1)+(-1)*N4) (H2 : 0 ≤ (0)) (H3 : 0 ≤ (0)) (H4 : 0 ≤ (0)) (H5 : 0 ≤ (0)) : (eSum F0 F1 N0 N1 N2 N3) := by
  obtain rfl : N4 = F0 N1 := by omega
  unfold eSum eHf at *
  omega
theorem L_su21 {F0 F1 : Int → Int} {N0 N1 N2 N3 N4 : Int} (H0 : F0 N1 = N4) (H1 : 0 ≤ (-3)+(1)*N4) (H2 : 0 ≤ (0)) (H3 : 0 ≤ (0)) (H4 : 0 ≤ (0)) (H5 : 0 ≤ (0)) : (eSum F0 F1 N0 N1 N2 N3) := by
  obtain rfl : N4 = F0 N1 := by omega
  unfold eSum eHf at *
  omega
theorem L_su32 {F0 F1 : Int → Int} {N0 N1 N2 N3 N4 N5 : Int} (H0 : F1 N0 = N4) (H1 : ePfo N4 N5) (H2 : 0 ≤ (-2)+(1)*N5) (H3 : 0 ≤ (2)+(-1)*N5) (H4 : 0 ≤ (0)) (H5 : 0 ≤ (0)) (H6 : 0 ≤ (0)) (H7 : 0 ≤ (0)) : (eSum F0 F1 N0 N1 N2 N3) := by
  obtain rfl : N4 = F1 N0 := by omega
  unfold ePfo eSum eHf at *
  omega
theorem L_su36 {F0 F1 : Int → Int} {N0 N1 N2 N3 N4 N5 : Int} (H0 : F1 N0 = N4) (H1 : ePfo N4 N5) (H2 : 0 ≤ (-6)+(1)*N5) (H3 : 0 ≤ (6)+(-1)*N5) (H4 : 0 ≤ (0)) (H5 : 0 ≤ (0)) (H6 : 0 ≤ (0)) (H7 : 0 ≤ (0)) : (eSum F0 F1 N0 N1 N2 N3) := by
  obtain rfl : N4 = F1 N0 := by omega
  unfold ePfo eSum eHf at *
  omega
theorem L_svEb {F0 F1 : Int → Int} {N0 N1 N2 N3 N4 N5 N6 : Int} (H0 : 0 ≤ (-1)+(1)*N6) (H1 : 0 ≤ (0)) (H2 : 0 ≤ (0)) (H3 : 0 ≤ (0)) (H4 : 0 ≤ (0)) (H5 : 0 ≤ (0)) (H6 : 0 ≤ (0)) (H7 : 0 ≤ (0)) : (eSuv F0 F1 N0 N1 N2 N3 N4 N5 N6) := by
  unfold eSuv at *
  omega
theorem L_sv1b {F0 F1 : Int → Int} {N0 N1 N2 N3 N4 N5 N6 : Int} (H0 : 0 ≤ (0)+(1)*N1+(-1)*N2) (H1 : 0 ≤ (0)) (H2 : 0 ≤ (0)) (H3 : 0 ≤ (0)) (H4 : 0 ≤ (0)) (H5 : 0 ≤ (0)) (H6 : 0 ≤ (0)) (H7 : 0 ≤ (0)) : (eSuv F0 F1 N0 N1 N2 N3 N4 N5 N6) := by
  unfold eSuv at *
  omega
theorem L_sv20 {F0 F1 : Int → Int} {N0 N1 N2 N3 N4 N5 N6 N7 : Int} (H0 : F0 N1 = N7) (H1 : 0 ≤ (2)+(-1)*N7) (H2 : 0 ≤ (0)) (H3 : 0 ≤ (0)) (H4 : 0 ≤ (0)) (H5 : 0 ≤ (0)) (H6 : 0 ≤ (0)) (H7 : 0 ≤ (0)) (H8 : 0 ≤ (0)) : (eSuv F0 F1 N0 N1 N2 N3 N4 N5 N6) := by
  obtain rfl : N7 = F0 N1 := by omega
  unfold eSuv at *
  omega
theorem L_sv21 {F0 F1 : Int → Int} {N0 N1 N2 N3 N4 N5 N6 N7 : Int} (H0 : F0 N1 = N7) (H1 : 0 ≤ (-4)+(1)*N7) (H2 : 0 ≤ (0)) (H3 : 0 ≤ (0)) (H4 : 0 ≤ (0)) (H5 : 0 ≤ (0)) (H6 : 0 ≤ (0)) (H7 : 0 ≤ (0)) (H8 : 0 ≤ (0)) : (eSuv F0 F1 N0 N1 N2 N3 N4 N5 N6) := by
  obtain rfl : N7 = F0 N1 := by omega
  unfold eSuv at *
  omega
theorem L_sv3b {F0 F1 : Int → Int} {N0 N1 N2 N3 N4 N5 N6 : Int} (H0 : 0 ≤ (-1)+(-1)*N4) (H1 : 0 ≤ (-1)+(-1)*N5) (H2 : 0 ≤ (0)) (H3 : 0 ≤ (0)) (H4 : 0 ≤ (0)) (H5 : 0 ≤ (0)) (H6 : 0 ≤ (0)) (H7 : 0 ≤ (0)) (H8 : 0 ≤ (0)) : (eSuv F0 F1 N0 N1 N2 N3 N4 N5 N6) := by
  unfold eSuv at *
  omega
theorem L_sv4b {F0 F1 : Int → Int} {N0 N1 N2 N3 N4 N5 N6 N7 N8 : Int} (H0 : F1 N0 = N7) (H1 : N8 = (0)) (H2 : eHob N7 N3 N4 N5 N8) (H3 : 0 ≤ (0)) (H4 : 0 ≤ (0)) (H5 : 0 ≤ (0)) (H6 : 0 ≤ (0)) (H7 : 0 ≤ (0)) (H8 : 0 ≤ (0)) (H9 : 0 ≤ (0)) : (eSuv F0 F1 N0 N1 N2 N3 N4 N5 N6) := by
  obtain rfl : N7 = F1 N0 := by omega
  unfold eHob eSuv at *
  omega
theorem L_hbE {N0 N1 N2 N3 N4 : Int} (H0 : 0 ≤ (-1)+(1)*N4) (H1 : 0 ≤ (0)) (H2 : 0 ≤ (0)) (H3 : 0 ≤ (0)) (H4 : 0 ≤ (0)) (H5 : 0 ≤ (0)) : (eHob N0 N1 N2 N3 N4) := by
  unfold eHob at *
  omega
theorem L_hb0 {N0 N1 N2 N3 N4 : Int} (H0 : 0 ≤ (-1)+(-1)*N2) (H1 : 0 ≤ (-1)+(-1)*N3) (H2 : 0 ≤ (0)) (H3 : 0 ≤ (0)) (H4 : 0 ≤ (0)) (H5 : 0 ≤ (0)) (H6 : 0 ≤ (0)) : (eHob N0 N1 N2 N3 N4) := by
  unfold eHob at *
  omega
theorem L_hb1 {N0 N1 N2 N3 N4 N5 : Int} (H0 : eBfo N0 N1 N5) (H1 : 0 ≤ (-4)+(1)*N5) (H2 : 0 ≤ (0)) (H3 : 0 ≤ (0)) (H4 : 0 ≤ (0)) (H5 : 0 ≤ (0)) (H6 : 0 ≤ (0)) : (eHob N0 N1 N2 N3 N4) := by
  unfold eBfo eHob at *
  omega
theorem L_hbZ {N0 N1 N2 N3 N4 N5 : Int} (H0 : eHob N0 N1 N2 N3 N5) (H1 : 0 ≤ (0)+(1)*N4+(-1)*N5) : (eHob N0 N1 N2 N3 N4) := by
  unfold eHob at *
  omega
theorem L_nmE {F0 F1 : Int → Int} {N0 N1 N2 N3 : Int} (H0 : 0 ≤ (-1)+(1)*N3) (H1 : 0 ≤ (0)) (H2 : 0 ≤ (0)) (H3 : 0 ≤ (0)) (H4 : 0 ≤ (0)) : (eNmf F0 F1 N0 N1 N2 N3) := by
  exact Or.inl (by omega)
theorem L_nm1 {F0 F1 : Int → Int} {N0 N1 N2 N3 : Int} (H0 : 0 ≤ (0)+(-1)*N1) (H1 : 0 ≤ (0)) (H2 : 0 ≤ (0)) (H3 : 0 ≤ (0)) (H4 : 0 ≤ (0)) : (eNmf F0 F1 N0 N1 N2 N3) := by
  exact Or.inr (fun j a b => by omega)
theorem L_nmX {F0 F1 : Int → Int} {N0 N1 N2 N3 N4 N5 N6 : Int} (H0 : N4 = (-1)+(1)*N1) (H1 : eNmf F0 F1 N0 N4 N2 N5) (H2 : 0 ≤ (0)+(1)*N3+(-1)*N5) (H3 : eSum F0 F1 N0 N4 N2 N6) (H4 : 0 ≤ (0)+(1)*N3+(-1)*N6) : (eNmf F0 F1 N0 N1 N2 N3) := by
  by_cases g : 1 ≤ N3
  · exact Or.inl g
  rcases H1 with h | h
  · exfalso; omega
  refine Or.inr (fun j a b d k => ?_)
  by_cases c : j = N4
  · subst c
    rcases H3 with q | q | q | q
    · exfalso; omega
    · exfalso; omega
    · exact absurd k q
    · exact q
  · exact h j a (by omega) d k
theorem L_nvE {F0 F1 : Int → Int} {N0 N1 N2 N3 N4 N5 N6 : Int} (H0 : 0 ≤ (-1)+(1)*N6) (H1 : 0 ≤ (0)) (H2 : 0 ≤ (0)) (H3 : 0 ≤ (0)) (H4 : 0 ≤ (0)) (H5 : 0 ≤ (0)) (H6 : 0 ≤ (0)) (H7 : 0 ≤ (0)) : (eNvl F0 F1 N0 N1 N2 N3 N4 N5 N6) := by
  exact Or.inl (by omega)
theorem L_nv1 {F0 F1 : Int → Int} {N0 N1 N2 N3 N4 N5 N6 : Int} (H0 : 0 ≤ (0)+(-1)*N1) (H1 : 0 ≤ (0)) (H2 : 0 ≤ (0)) (H3 : 0 ≤ (0)) (H4 : 0 ≤ (0)) (H5 : 0 ≤ (0)) (H6 : 0 ≤ (0)) (H7 : 0 ≤ (0)) : (eNvl F0 F1 N0 N1 N2 N3 N4 N5 N6) := by
  exact Or.inr (fun j a b => by omega)
theorem L_nvX {F0 F1 : Int → Int} {N0 N1 N2 N3 N4 N5 N6 N7 N8 N9 : Int} (H0 : N7 = (-1)+(1)*N1) (H1 : eNvl F0 F1 N0 N7 N2 N3 N4 N5 N8) (H2 : 0 ≤ (0)+(1)*N6+(-1)*N8) (H3 : eSuv F0 F1 N0 N7 N2 N3 N4 N5 N9) (H4 : 0 ≤ (0)+(1)*N6+(-1)*N9) : (eNvl F0 F1 N0 N1 N2 N3 N4 N5 N6) := by
  by_cases g : 1 ≤ N6
  · exact Or.inl g
  rcases H1 with h | h
  · exfalso; omega
  refine Or.inr (fun j a b d k => ?_)
  by_cases c : j = N7
  · subst c
    rcases H3 with q | q | q | q
    · exfalso; omega
    · exfalso; omega
    · exact absurd k q
    · exact q
  · exact h j a (by omega) d k
theorem L_n0E {F0 : Int → Int} {N0 N1 N2 : Int} (H0 : 0 ≤ (-1)+(1)*N2) (H1 : 0 ≤ (0)) (H2 : 0 ≤ (0)) (H3 : 0 ≤ (0)) : (eNm0 F0 N0 N1 N2) := by
  exact Or.inl (by omega)
theorem L_n01 {F0 : Int → Int} {N0 N1 N2 : Int} (H0 : 0 ≤ (0)+(-1)*N0) (H1 : 0 ≤ (0)) (H2 : 0 ≤ (0)) (H3 : 0 ≤ (0)) : (eNm0 F0 N0 N1 N2) := by
  exact Or.inr (fun j a b => by omega)
theorem L_n0X0 {F0 : Int → Int} {N0 N1 N2 N3 N4 N5 : Int} (H0 : N3 = (-1)+(1)*N0) (H1 : eNm0 F0 N3 N1 N4) (H2 : 0 ≤ (0)+(1)*N2+(-1)*N4) (H3 : F0 N3 = N5) (H4 : 0 ≤ (1)+(-1)*N5) : (eNm0 F0 N0 N1 N2) := by
  by_cases g : 1 ≤ N2
  · exact Or.inl g
  rcases H1 with h | h
  · exfalso; omega
  refine Or.inr (fun j a b d => ?_)
  by_cases c : j = N3
  · rw [c]; omega
  · exact h j a (by omega) d
theorem L_n0X1 {F0 : Int → Int} {N0 N1 N2 N3 N4 N5 : Int} (H0 : N3 = (-1)+(1)*N0) (H1 : eNm0 F0 N3 N1 N4) (H2 : 0 ≤ (0)+(1)*N2+(-1)*N4) (H3 : F0 N3 = N5) (H4 : 0 ≤ (-3)+(1)*N5) : (eNm0 F0 N0 N1 N2) := by
  by_cases g : 1 ≤ N2
  · exact Or.inl g
  rcases H1 with h | h
  · exfalso; omega
  refine Or.inr (fun j a b d => ?_)
  by_cases c : j = N3
  · rw [c]; omega
  · exact h j a (by omega) d
theorem L_n0X2 {F0 : Int → Int} {N0 N1 N2 N3 N4 : Int} (H0 : N3 = (-1)+(1)*N0) (H1 : eNm0 F0 N3 N1 N4) (H2 : 0 ≤ (0)+(1)*N2+(-1)*N4) (H3 : 0 ≤ (0)+(1)*N3+(-1)*N1) : (eNm0 F0 N0 N1 N2) := by
  by_cases g : 1 ≤ N2
  · exact Or.inl g
  rcases H1 with h | h
  · exfalso; omega
  exact Or.inr (fun j a b d => h j a (by omega) d)
theorem L_md1 {F0 : Int → Int} {N0 N1 N2 N3 : Int} (H0 : 0 ≤ (-1)+(1)*N2) (H1 : 0 ≤ (0)) (H2 : 0 ≤ (0)) (H3 : 0 ≤ (0)) (H4 : 0 ≤ (0)) : (eMdz F0 N0 N1 N2 N3) := by
  exact Or.inl (by omega)
theorem L_md2 {F0 : Int → Int} {N0 N1 N2 N3 : Int} (H0 : 0 ≤ (-1)+(1)*N3) (H1 : 0 ≤ (0)) (H2 : 0 ≤ (0)) (H3 : 0 ≤ (0)) (H4 : 0 ≤ (0)) : (eMdz F0 N0 N1 N2 N3) := by
  exact Or.inr (Or.inl (by omega))
theorem L_md3 {F0 : Int → Int} {N0 N1 N2 N3 : Int} (H0 : 0 ≤ (-4)+(1)*N1) (H1 : 0 ≤ (0)) (H2 : 0 ≤ (0)) (H3 : 0 ≤ (0)) (H4 : 0 ≤ (0)) : (eMdz F0 N0 N1 N2 N3) := by
  exact Or.inr (Or.inr (Or.inl (by omega)))
theorem L_md4 {F0 : Int → Int} {N0 N1 N2 N3 N4 N5 : Int} (H0 : eNm0 F0 N4 N0 N5) (H1 : 0 ≤ (-3)+(1)*N4) (H2 : 0 ≤ (0)+(-1)*N5) (H3 : 0 ≤ (0)) (H4 : 0 ≤ (0)) (H5 : 0 ≤ (0)) (H6 : 0 ≤ (0)) : (eMdz F0 N0 N1 N2 N3) := by
  rcases H0 with h | h
  · exfalso; omega
  · exact Or.inr (Or.inr (Or.inr (fun j a b c => h j a (by omega) c)))
theorem L_md5 {F0 F1 : Int → Int} {N0 N1 N2 N3 N4 N5 N6 N7 N8 N9 : Int} (H0 : eNmf F0 F1 N4 N5 N0 N6) (H1 : 0 ≤ (-3)+(1)*N5) (H2 : 0 ≤ (0)+(-1)*N6) (H3 : F1 N4 = N7) (H4 : eHfo N8 N9) (H5 : 0 ≤ (0)+(1)*N8+(-1)*N7) (H6 : 0 ≤ (0)+(1)*N7+(-1)*N8) (H7 : 0 ≤ (0)+(-1)*N9) (H8 : 0 ≤ (0)) (H9 : 0 ≤ (0)) (H10 : 0 ≤ (0)) (H11 : 0 ≤ (0)) : (eMdz F0 N0 N1 N2 N3) := by
  obtain rfl : N8 = N7 := by omega
  rcases H0 with h | h
  · exfalso; omega
  refine Or.inr (Or.inr (Or.inr (fun j a b c k => ?_)))
  have q := h j a (by omega) c k
  rw [H3] at q
  rcases H4 with z | z
  · omega
  · exact z.2 q
theorem L_md6 {F0 : Int → Int} {N0 N1 N2 N3 N4 N5 N6 N7 : Int} (H0 : N5 ≤ N4 ∨ 0 ≤ N6 ∨ 0 ≤ N7) (H1 : 0 ≤ (0)+(-1)*N4) (H2 : 0 ≤ (-1)+(1)*N5) (H3 : 0 ≤ (-4)+(1)*N1+(-1)*N6) (H4 : 0 ≤ (-1)+(1)*N3+(-1)*N7) (H5 : 0 ≤ (0)) (H6 : 0 ≤ (0)) (H7 : 0 ≤ (0)) (H8 : 0 ≤ (0)) : (eMdz F0 N0 N1 N2 N3) := by
  unfold eMdz; omega
theorem L_mdZ {F0 : Int → Int} {N0 N1 N2 N3 N4 N5 N6 : Int} (H0 : eMdz F0 N0 N4 N5 N6) (H1 : 0 ≤ (0)+(1)*N1+(-1)*N4) (H2 : 0 ≤ (0)+(1)*N2+(-1)*N5) (H3 : 0 ≤ (0)+(1)*N3+(-1)*N6) : (eMdz F0 N0 N1 N2 N3) := by
  rcases H0 with h | h | h | h
  · exact Or.inl (by omega)
  · exact Or.inr (Or.inl (by omega))
  · exact Or.inr (Or.inr (Or.inl (by omega)))
  · exact Or.inr (Or.inr (Or.inr h))
theorem L_mdU {F0 : Int → Int} {N0 N1 N2 N3 N4 : Int} (H0 : eMdz F0 N0 N1 N2 N3) (H1 : 0 ≤ (0)+(-1)*N2) (H2 : 0 ≤ (0)+(-1)*N3) (H3 : N4 = (0)) (H4 : eKx F0 N0 N4) : (0 ≤ (-4)+(1)*N1) := by
  rcases H0 with h | h | h | h
  · exfalso; omega
  · exfalso; omega
  · omega
  · rcases H4 with k | ⟨i, a, b, c, d⟩
    · exfalso; omega
    · exact absurd d (h i a (by omega) c)
theorem L_kxE {F0 : Int → Int} {N0 N1 : Int} (H0 : 0 ≤ (-1)+(1)*N1) (H1 : 0 ≤ (0)) : (eKx F0 N0 N1) := by
  exact Or.inl (by omega)
theorem L_kx1 {F0 : Int → Int} {N0 N1 N2 N3 : Int} (H0 : F0 N2 = N3) (H1 : 0 ≤ (0)+(1)*N2) (H2 : 0 ≤ (2)+(-1)*N2) (H3 : 0 ≤ (-1)+(1)*N0+(-1)*N2) (H4 : 0 ≤ (-2)+(1)*N3) (H5 : 0 ≤ (2)+(-1)*N3) (H6 : 0 ≤ (0)) : (eKx F0 N0 N1) := by
  exact Or.inr ⟨N2, by omega, by omega, by omega, by omega⟩
theorem L_kxZ {F0 : Int → Int} {N0 N1 N2 : Int} (H0 : eKx F0 N0 N2) (H1 : 0 ≤ (0)+(1)*N1+(-1)*N2) : (eKx F0 N0 N1) := by
  rcases H0 with h | h
  · exact Or.inl (by omega)
  · exact Or.inr h
theorem L_vx0 {F0 : Int → Int} {N0 N1 N2 : Int} (H0 : 0 ≤ (-1)+(-1)*N1) (H1 : 0 ≤ (-1)+(-1)*N2) (H2 : 0 ≤ (0)) : (eVx F0 N0 N1 N2) := by
  exact Or.inl ⟨by omega, by omega⟩
theorem L_vx1 {F0 : Int → Int} {N0 N1 N2 N3 N4 : Int} (H0 : F0 N3 = N4) (H1 : 0 ≤ (0)+(1)*N3) (H2 : 0 ≤ (2)+(-1)*N3) (H3 : 0 ≤ (-1)+(1)*N0+(-1)*N3) (H4 : 0 ≤ (-3)+(1)*N4) (H5 : 0 ≤ (3)+(-1)*N4) (H6 : 0 ≤ (0)) (H7 : 0 ≤ (0)) : (eVx F0 N0 N1 N2) := by
  exact Or.inr ⟨N3, by omega, by omega, by omega, by omega⟩
theorem L_mvE {N0 N1 N2 : Int} (H0 : 0 ≤ (-1)+(1)*N2) (H1 : 0 ≤ (0)) (H2 : 0 ≤ (0)) (H3 : 0 ≤ (0)) : (eMvn N0 N1 N2) := by
  unfold eMvn at *
  omega
theorem L_mvP {N0 N1 N2 : Int} (H0 : 0 ≤ (-1)+(-1)*N1) (H1 : 0 ≤ (0)) (H2 : 0 ≤ (0)) (H3 : 0 ≤ (0)) : (eMvn N0 N1 N2) := by
  unfold eMvn at *
  omega
theorem L_mvX {N0 N1 N2 : Int} (H0 : 0 ≤ (-4)+(1)*N0) (H1 : 0 ≤ (0)) (H2 : 0 ≤ (0)) (H3 : 0 ≤ (0)) : (eMvn N0 N1 N2) := by
  unfold eMvn at *
  omega
theorem L_mvN7 {F0 F1 : Int → Int} {N0 N1 N2 N3 N4 N5 N6 N7 N8 N9 N10 N11 N12 N13 N14 N15 N16 : Int} (H0 : eNvl F0 F1 N3 N4 N5 N6 N7 N8 N9) (H1 : 0 ≤ (-3)+(1)*N4) (H2 : 0 ≤ (0)+(-1)*N9) (H3 : 0 ≤ (0)+(1)*N1+(-1)*N7) (H4 : 0 ≤ (0)+(1)*N7+(-1)*N1) (H5 : eVx F0 N10 N11 N12) (H6 : 0 ≤ (0)+(1)*N10+(-1)*N5) (H7 : 0 ≤ (0)+(1)*N5+(-1)*N10) (H8 : 0 ≤ (0)+(1)*N11+(-1)*N7) (H9 : 0 ≤ (0)+(1)*N7+(-1)*N11) (H10 : 0 ≤ (0)+(1)*N12+(-1)*N8) (H11 : 0 ≤ (0)+(1)*N8+(-1)*N12) (H12 : F1 N3 = N13) (H13 : eBfo N14 N15 N16) (H14 : 0 ≤ (0)+(1)*N14+(-1)*N13) (H15 : 0 ≤ (0)+(1)*N13+(-1)*N14) (H16 : 0 ≤ (0)+(1)*N15+(-1)*N6) (H17 : 0 ≤ (0)+(1)*N6+(-1)*N15) (H18 : 0 ≤ (0)+(1)*N0+(-1)*N16) (H19 : 0 ≤ (0)) : (eMvn N0 N1 N2) := by
  obtain rfl : N10 = N5 := by omega
  obtain rfl : N11 = N7 := by omega
  obtain rfl : N12 = N8 := by omega
  obtain rfl : N14 = N13 := by omega
  obtain rfl : N15 = N6 := by omega
  rcases H0 with h | h
  · exfalso; omega
  unfold eBfo at H13
  rcases H5 with v | ⟨i, a, b, c, d⟩
  · exact Or.inr (Or.inl (by omega))
  · have q := h i a (by omega) c d
    rw [H12] at q
    unfold eMvn; omega
theorem L_mvN8 {F0 F1 : Int → Int} {N0 N1 N2 N3 N4 N5 N6 N7 N8 N9 N10 N11 N12 N13 N14 N15 N16 : Int} (H0 : eNvl F0 F1 N3 N4 N5 N6 N7 N8 N9) (H1 : 0 ≤ (-3)+(1)*N4) (H2 : 0 ≤ (0)+(-1)*N9) (H3 : 0 ≤ (0)+(1)*N1+(-1)*N8) (H4 : 0 ≤ (0)+(1)*N8+(-1)*N1) (H5 : eVx F0 N10 N11 N12) (H6 : 0 ≤ (0)+(1)*N10+(-1)*N5) (H7 : 0 ≤ (0)+(1)*N5+(-1)*N10) (H8 : 0 ≤ (0)+(1)*N11+(-1)*N7) (H9 : 0 ≤ (0)+(1)*N7+(-1)*N11) (H10 : 0 ≤ (0)+(1)*N12+(-1)*N8) (H11 : 0 ≤ (0)+(1)*N8+(-1)*N12) (H12 : F1 N3 = N13) (H13 : eBfo N14 N15 N16) (H14 : 0 ≤ (0)+(1)*N14+(-1)*N13) (H15 : 0 ≤ (0)+(1)*N13+(-1)*N14) (H16 : 0 ≤ (0)+(1)*N15+(-1)*N6) (H17 : 0 ≤ (0)+(1)*N6+(-1)*N15) (H18 : 0 ≤ (0)+(1)*N0+(-1)*N16) (H19 : 0 ≤ (0)) : (eMvn N0 N1 N2) := by
  obtain rfl : N10 = N5 := by omega
  obtain rfl : N11 = N7 := by omega
  obtain rfl : N12 = N8 := by omega
  obtain rfl : N14 = N13 := by omega
  obtain rfl : N15 = N6 := by omega
  rcases H0 with h | h
  · exfalso; omega
  unfold eBfo at H13
  rcases H5 with v | ⟨i, a, b, c, d⟩
  · exact Or.inr (Or.inl (by omega))
  · have q := h i a (by omega) c d
    rw [H12] at q
    unfold eMvn; omega
theorem L_mvZ {N0 N1 N2 N3 N4 : Int} (H0 : eMvn N3 N1 N4) (H1 : 0 ≤ (0)+(1)*N0+(-1)*N3) (H2 : 0 ≤ (0)+(1)*N2+(-1)*N4) : (eMvn N0 N1 N2) := by
  unfold eMvn at *
  omega
theorem L_mvU {N0 N1 N2 : Int} (H0 : eMvn N0 N1 N2) (H1 : 0 ≤ (0)+(1)*N1) (H2 : 0 ≤ (0)+(-1)*N2) : (0 ≤ (-4)+(1)*N0) := by
  unfold eMvn at *
  omega
theorem L_vx3 {F0 F1 F2 : Int → Int} {N0 N1 N2 N3 N4 N5 N6 : Int} (H0 : ∀ x : Int, F2 x = if x = N5 then N6 else F1 x) (H1 : ∀ x : Int, F1 x = if x = N3 then N4 else F0 x) (H2 : 0 ≤ (-3)+(1)*N4) (H3 : 0 ≤ (3)+(-1)*N4) (H4 : 0 ≤ (-1)+(1)*N3+(-1)*N5) (H5 : 0 ≤ (0)+(1)*N3) (H6 : 0 ≤ (2)+(-1)*N3) (H7 : 0 ≤ (-1)+(1)*N0+(-1)*N3) (H8 : 0 ≤ (0)) (H9 : 0 ≤ (0)) : (eVx F2 N0 N1 N2) := by
  refine Or.inr ⟨N3, by omega, by omega, by omega, ?_⟩
  rw [H0 N3, if_neg (by omega), H1 N3, if_pos rfl]; omega
theorem L_n0H {F0 F1 : Int → Int} {N0 N1 N2 N3 N4 N5 N6 N7 N8 N9 : Int} (H0 : eNmf F0 F1 N3 N4 N1 N5) (H1 : 0 ≤ (0)+(1)*N4+(-1)*N0) (H2 : 0 ≤ (0)+(-1)*N5) (H3 : eWai F1 N6 N7) (H4 : 0 ≤ (0)+(1)*N6+(-1)*N3) (H5 : 0 ≤ (0)+(1)*N3+(-1)*N6) (H6 : eHfo N8 N9) (H7 : 0 ≤ (0)+(1)*N8+(-1)*N7) (H8 : 0 ≤ (0)+(1)*N7+(-1)*N8) (H9 : 0 ≤ (0)+(-1)*N9) (H10 : 0 ≤ (0)) : (eNm0 F0 N0 N1 N2) := by
  obtain rfl : N6 = N3 := by omega
  obtain rfl : N8 = N7 := by omega
  rcases H0 with h | h
  · exfalso; omega
  refine Or.inr (fun j a b c k => ?_)
  have q := h j a (by omega) c k
  unfold eWai at H3
  rw [H3] at q
  rcases H6 with z | z
  · omega
  · exact z.2 q
theorem L_mdY {F0 : Int → Int} {N0 N1 N2 N3 N4 N5 N6 : Int} (H0 : eMdz F0 N0 N4 N5 N6) (H1 : 0 ≤ (0)+(1)*N1+(-1)*N4) (H2 : 0 ≤ (0)+(-1)*N5) (H3 : 0 ≤ (0)+(1)*N3+(-1)*N6) (H4 : 0 ≤ (0)) : (eMdz F0 N0 N1 N2 N3) := by
  rcases H0 with h | h | h | h
  · exfalso; omega
  · exact Or.inr (Or.inl (by omega))
  · exact Or.inr (Or.inr (Or.inl (by omega)))
  · exact Or.inr (Or.inr (Or.inr h))
theorem L_mvY {N0 N1 N2 N3 N4 : Int} (H0 : eMvn N3 N1 N4) (H1 : 0 ≤ (0)+(1)*N0+(-1)*N3) (H2 : 0 ≤ (0)+(-1)*N4) (H3 : 0 ≤ (0)) : (eMvn N0 N1 N2) := by
  unfold eMvn at *
  omega
