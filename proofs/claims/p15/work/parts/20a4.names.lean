/-! NAMES OF SYMBOLS, LABELS AND STATEMENTS COUNTED: what is said of them and the rules, over plain functions (nothing of the kit in it) -/
theorem eCn_le {F G : Int → Int} {b : Int → Bool} : ∀ n : Nat, (∀ i : Nat, i < n → b (F i) = true → b (G i) = true) → eCn F b n ≤ eCn G b n
  | 0, _ => Int.le_refl 0
  | n + 1, h => by
    have ih := eCn_le n (fun i hi => h i (by omega))
    have hn := h n (by omega)
    unfold eCn
    cases e : b (F n)
    · rw [if_neg (by simp)]; split <;> omega
    · rw [if_pos rfl, if_pos (hn e)]; omega
theorem eCn_nn {F : Int → Int} {b : Int → Bool} : ∀ n : Nat, 0 ≤ eCn F b n
  | 0 => Int.le_refl 0
  | n + 1 => by have ih := eCn_nn (F := F) (b := b) n; unfold eCn; split <;> omega
theorem eCn_bd {F : Int → Int} {b : Int → Bool} : ∀ n : Nat, eCn F b n ≤ n
  | 0 => Int.le_refl 0
  | n + 1 => by have ih := eCn_bd (F := F) (b := b) n; unfold eCn; split <;> omega
theorem eCn_mono {F : Int → Int} {b : Int → Bool} (m : Nat) : ∀ k : Nat, eCn F b m ≤ eCn F b (m + k)
  | 0 => Int.le_refl _
  | k + 1 => by
    have ih := eCn_mono (F := F) (b := b) m k
    have e : eCn F b (m + (k + 1)) = eCn F b (m + k) + if b (F ((m + k : Nat) : Int)) then 1 else 0 := rfl
    rw [e]; split <;> omega
theorem eCn_up {F G : Int → Int} {b : Int → Bool} {k : Nat} (h1 : b (F k) = false) (h2 : b (G k) = true) (h3 : ∀ i : Nat, i ≠ k → G i = F i) : ∀ n : Nat, k < n → eCn G b n = eCn F b n + 1
  | 0, h => by omega
  | n + 1, h => by
    unfold eCn
    by_cases c : k = n
    · subst c
      have e : eCn G b k = eCn F b k := by
        have a := eCn_le (F := F) (G := G) (b := b) k (fun i hi hb => by rw [h3 i (by omega)]; exact hb)
        have d := eCn_le (F := G) (G := F) (b := b) k (fun i hi hb => by rw [← h3 i (by omega)]; exact hb)
        omega
      rw [e, h1, h2]; simp
    · rw [eCn_up h1 h2 h3 n (by omega), h3 n (fun z => c z.symm)]; omega
theorem L_lc0 {F0 : Int → Int} {N0 N1 : Int} (H0 : 0 ≤ -N1) : eLcn F0 N0 N1 := by
  have := eCn_nn (F := F0) (b := fun v => decide (0 ≤ v)) N0.toNat
  unfold eLcn; omega
theorem L_lcA {F0 F1 : Int → Int} {N0 N1 N2 N3 : Int} (H0 : ∀ x : Int, F1 x = if x = N2 then N3 else F0 x) (H1 : eLcn F0 N0 N1) (H2 : 0 ≤ N3) : eLcn F1 N0 N1 := by
  have := eCn_le (F := F0) (G := F1) (b := fun v => decide (0 ≤ v)) N0.toNat (fun i _ hb => by
    rw [H0]; split
    · exact decide_eq_true H2
    · exact hb)
  unfold eLcn at *; omega
theorem L_lcB {F0 F1 : Int → Int} {N0 N1 N2 N3 : Int} (H0 : ∀ x : Int, F1 x = if x = N2 then N3 else F0 x) (H1 : eLcn F0 N0 N1) (H2 : N0 ≤ N2) : eLcn F1 N0 N1 := by
  have := eCn_le (F := F0) (G := F1) (b := fun v => decide (0 ≤ v)) N0.toNat (fun i hi hb => by
    rw [H0, if_neg (by omega)]; exact hb)
  unfold eLcn at *; omega
theorem L_lcZ {F0 : Int → Int} {N0 N1 N2 N3 : Int} (H0 : eLcn F0 N2 N3) (H1 : N2 ≤ N0) (H2 : N1 ≤ N3) : eLcn F0 N0 N1 := by
  have := eCn_mono (F := F0) (b := fun v => decide (0 ≤ v)) N2.toNat (N0.toNat - N2.toNat)
  rw [show N2.toNat + (N0.toNat - N2.toNat) = N0.toNat by omega] at this
  unfold eLcn at *; omega
theorem L_lcU {F0 : Int → Int} {N0 N1 : Int} (H0 : eLcn F0 N0 N1) (H1 : 0 ≤ N0) : N1 ≤ N0 := by
  have := eCn_bd (F := F0) (b := fun v => decide (0 ≤ v)) N0.toNat
  unfold eLcn at *; omega
theorem L_lcX {F0 F1 : Int → Int} {N0 N1 N2 N3 N4 : Int} (H0 : ∀ x : Int, F1 x = if x = N2 then N3 else F0 x) (H1 : N4 = N1 - 1) (H2 : eLcn F0 N0 N4) (H3 : 0 ≤ N3) (H4 : 0 ≤ N2) (H5 : N2 < N0) (H6 : F0 N2 < 0) : eLcn F1 N0 N1 := by
  have := eCn_up (F := F0) (G := F1) (b := fun v => decide (0 ≤ v)) (k := N2.toNat)
    (by rw [show (N2.toNat : Int) = N2 by omega]; exact decide_eq_false (by omega))
    (by rw [show (N2.toNat : Int) = N2 by omega, H0, if_pos rfl]; exact decide_eq_true H3)
    (fun i hi => by rw [H0, if_neg (by omega)]) N0.toNat (by omega)
  unfold eLcn at *; omega
theorem L_cs0b {F0 : Int → Int} {N0 N1 : Int} (H0 : N0 ≤ 0) (H1 : 0 ≤ N1) : eCsn F0 N0 N1 := by
  unfold eCsn; rw [show N0.toNat = 0 by omega]; exact H1
theorem L_csW {F0 F1 : Int → Int} {N0 N1 N2 N3 : Int} (H0 : ∀ x : Int, F1 x = if x = N2 then N3 else F0 x) (H1 : eCsn F0 N0 N1) (H2 : N0 ≤ N2) : eCsn F1 N0 N1 := by
  have := eCn_le (F := F1) (G := F0) (b := fun v => decide (v ≤ 4)) N0.toNat (fun i hi hb => by
    rw [H0, if_neg (by omega)] at hb; exact hb)
  unfold eCsn at *; omega
theorem L_csX {F0 : Int → Int} {N0 N1 N2 N3 : Int} (H0 : N2 = N0 - 1) (H1 : eCsn F0 N2 N1) (H2 : 0 ≤ N2) (H3 : F0 N2 = N3) (H4 : 5 ≤ N3) : eCsn F0 N0 N1 := by
  unfold eCsn at *
  rw [show N0.toNat = N2.toNat + 1 by omega]
  unfold eCn
  rw [show (N2.toNat : Int) = N2 by omega, H3, if_neg (by simp; omega)]; omega
theorem L_csY {F0 : Int → Int} {N0 N1 N2 N3 : Int} (H0 : N2 = N0 - 1) (H1 : N3 = N1 - 1) (H2 : eCsn F0 N2 N3) (H3 : 0 ≤ N2) : eCsn F0 N0 N1 := by
  unfold eCsn at *
  rw [show N0.toNat = N2.toNat + 1 by omega]
  unfold eCn
  split <;> omega
theorem L_csZ {F0 : Int → Int} {N0 N1 N2 N3 : Int} (H0 : eCsn F0 N2 N3) (H1 : N0 ≤ N2) (H2 : N3 ≤ N1) : eCsn F0 N0 N1 := by
  have := eCn_mono (F := F0) (b := fun v => decide (v ≤ 4)) N0.toNat (N2.toNat - N0.toNat)
  rw [show N0.toNat + (N2.toNat - N0.toNat) = N2.toNat by omega] at this
  unfold eCsn at *; omega
/-! names -/
def ePlx (N P A : Int → Int) (l k : Int) : Prop := ∀ j : Int, 0 ≤ j → j < k → N j = P (A l + j)
/-- the name of token t, a local one behind the label l: so many of its letters are taken -/
def eTkp (N Ln P TS _TL NL NA : Int → Int) (t l p k : Int) : Prop := ((Ln (TS t) = 46 ∧ 0 ≤ l ∧ p = NL l) ∨ (¬ (Ln (TS t) = 46 ∧ 0 ≤ l) ∧ p = 0)) ∧ (∀ j : Int, 0 ≤ j → j < p → N j = P (NA l + j)) ∧ ∀ j : Int, 0 ≤ j → j < k → N (p + j) = Ln (TS t + j)
def eTkn (N Ln P TS TL NL NA : Int → Int) (t l s e : Int) : Prop := 1 ≤ e ∨ ∃ p : Int, eTkp N Ln P TS TL NL NA t l p (TL t) ∧ s = p + TL t
def eMt (NL NA P N : Int → Int) (s z : Int) : Prop := NL s = z ∧ ∀ j : Int, 0 ≤ j → j < z → P (NA s + j) = N j
def eCap (NL NA P N : Int → Int) (s z k b : Int) : Prop := (1 ≤ b ∧ NL s = z ∧ ∀ j : Int, 0 ≤ j → j < k → P (NA s + j) = N j) ∨ (b ≤ 0 ∧ ¬ eMt NL NA P N s z)
def eCal (NL NA P N : Int → Int) (s z r : Int) : Prop := (1 ≤ r ∧ eMt NL NA P N s z) ∨ (r ≤ 0 ∧ ¬ eMt NL NA P N s z)
def eSnp (NL NA P N FS : Int → Int) (z u s : Int) : Prop := FS u ≤ s ∧ ∀ i : Int, FS u ≤ i → i < s → ¬ eMt NL NA P N i z
def eSn (NL NA P N FS : Int → Int) (z u n r : Int) : Prop := (0 ≤ r ∧ FS u ≤ r ∧ r < n ∧ eMt NL NA P N r z ∧ ∀ i : Int, FS u ≤ i → i < r → ¬ eMt NL NA P N i z) ∨ (r < 0 ∧ ∀ i : Int, FS u ≤ i → i < n → ¬ eMt NL NA P N i z)
def eFre (N NL NA P FS L : Int → Int) (z u n e : Int) : Prop := 1 ≤ e ∨ ∀ r : Int, eSn NL NA P N FS z u n r → r < 0 ∨ L r < 0
def eFr2 (Ln P TS TL NL NA FS L : Int → Int) (t l u n : Int) : Prop := ∀ (N : Int → Int) (z : Int), eTkn N Ln P TS TL NL NA t l z 0 → eFre N NL NA P FS L z u n 0
def eCnd (N NL NA P FS L M : Int → Int) (z u n r : Int) : Prop := eFre N NL NA P FS L z u n 0 → M r < 0
theorem L_plx0 {F0 F1 F2 : Int → Int} {N0 N1 : Int} (H0 : N1 ≤ 0) : ePlx F0 F1 F2 N0 N1 := fun j a b => by omega
theorem L_plx1 {F0 F1 F2 F3 : Int → Int} {N0 N1 N2 N3 N4 N5 N6 : Int} (H0 : ∀ x : Int, F3 x = if x = N2 then N3 else F0 x) (H1 : N1 = N2 + 1) (H2 : ePlx F0 F1 F2 N0 N2) (H3 : F2 N0 = N4) (H4 : N5 = N4 + N2) (H5 : F1 N5 = N6) (H6 : N6 = N3) : ePlx F3 F1 F2 N0 N1 := by
  intro j a b
  rw [H0]; split
  · next c => rw [c, H3, ← H4, H5, H6]
  · next c => exact H2 j a (by omega)
theorem L_tk0 {F0 F1 F2 F3 F4 F5 F6 : Int → Int} {N0 N1 N2 N3 : Int} (H0 : ¬ (F1 (F3 N0) = 46 ∧ 0 ≤ N1)) (H1 : N2 = 0) (H2 : N3 = 0) : eTkp F0 F1 F2 F3 F4 F5 F6 N0 N1 N2 N3 :=
  ⟨Or.inr ⟨H0, H1⟩, fun j a b => by omega, fun j a b => by omega⟩
theorem L_tk1 {F0 F1 F2 F3 F4 F5 F6 : Int → Int} {N0 N1 N2 N3 N7 : Int} (H0 : F1 (F3 N0) = 46) (H1 : 0 ≤ N1) (H2 : N2 = F5 N1) (H3 : ePlx F0 F2 F6 N1 N7) (H4 : N2 ≤ N7) (H5 : N3 = 0) : eTkp F0 F1 F2 F3 F4 F5 F6 N0 N1 N2 N3 :=
  ⟨Or.inl ⟨H0, H1, H2⟩, fun j a b => H3 j a (by omega), fun j a b => by omega⟩
theorem L_tk2 {F0 F1 F2 F3 F4 F5 F6 F7 : Int → Int} {N0 N1 N2 N3 N4 N5 N6 : Int} (H0 : ∀ x : Int, F7 x = if x = N4 then N5 else F0 x) (H1 : N6 = N3 - 1) (H2 : eTkp F0 F1 F2 F3 F4 F5 F6 N0 N1 N2 N6) (H3 : N4 = N2 + N6) (H4 : 0 ≤ N2) (H5 : 0 ≤ N6) (H6 : F1 (F3 N0 + N6) = N5) : eTkp F7 F1 F2 F3 F4 F5 F6 N0 N1 N2 N3 := by
  obtain ⟨a, b, c⟩ := H2
  refine ⟨a, fun j d e => ?_, fun j d e => ?_⟩
  · rw [H0, if_neg (by omega)]; exact b j d e
  · rw [H0]; split
    · next k => rw [show j = N6 by omega, H6]
    · next k => exact c j d (by omega)
theorem L_tkE {F0 F1 F2 F3 F4 F5 F6 : Int → Int} {N0 N1 N2 N3 N4 N5 N6 : Int} (H0 : eTkp F0 F1 F2 F3 F4 F5 F6 N0 N1 N4 N5) (H1 : F4 N0 = N6) (H2 : N6 ≤ N5) (H3 : N2 = N4 + N6) : eTkn F0 F1 F2 F3 F4 F5 F6 N0 N1 N2 N3 :=
  Or.inr ⟨N4, ⟨H0.1, H0.2.1, fun j a b => H0.2.2 j a (by omega)⟩, by omega⟩
theorem L_tkG {F0 F1 F2 F3 F4 F5 F6 : Int → Int} {N0 N1 N2 N3 : Int} (H0 : 1 ≤ N3) : eTkn F0 F1 F2 F3 F4 F5 F6 N0 N1 N2 N3 := Or.inl H0
theorem L_ca0 {F0 F1 F2 F3 : Int → Int} {N0 N1 N2 N3 : Int} (H0 : F0 N0 = N1) (H1 : N2 = 0) (H2 : N3 = 1) : eCap F0 F1 F2 F3 N0 N1 N2 N3 := Or.inl ⟨by omega, H0, fun j a b => by omega⟩
theorem L_ca1 {F0 F1 F2 F3 : Int → Int} {N0 N1 N2 N3 : Int} (H0 : F0 N0 ≠ N1) (H1 : N3 = 0) : eCap F0 F1 F2 F3 N0 N1 N2 N3 := Or.inr ⟨by omega, fun h => H0 h.1⟩
theorem L_ca2 {F0 F1 F2 F3 : Int → Int} {N0 N1 N2 N3 N4 N5 : Int} (H0 : N4 = N2 - 1) (H1 : eCap F0 F1 F2 F3 N0 N1 N4 N5) (H2 : 1 ≤ N5) (H3 : F2 (F1 N0 + N4) = F3 N4) (H4 : N3 = 1) : eCap F0 F1 F2 F3 N0 N1 N2 N3 := by
  rcases H1 with ⟨_, a, b⟩ | ⟨a, _⟩
  · refine Or.inl ⟨by omega, a, fun j c d => ?_⟩
    by_cases k : j = N4
    · rw [k]; exact H3
    · exact b j c (by omega)
  · omega
theorem L_ca3 {F0 F1 F2 F3 : Int → Int} {N0 N1 N2 N3 N4 : Int} (H3 : F2 (F1 N0 + N4) ≠ F3 N4) (H4 : 0 ≤ N4) (H5 : N4 < N1) (H6 : N3 = 0) : eCap F0 F1 F2 F3 N0 N1 N2 N3 := Or.inr ⟨by omega, fun h => H3 (h.2 N4 H4 H5)⟩
theorem L_caE1 {F0 F1 F2 F3 : Int → Int} {N0 N1 N2 N3 N4 : Int} (H0 : eCap F0 F1 F2 F3 N0 N1 N3 N4) (H1 : 1 ≤ N4) (H2 : N1 ≤ N3) (H3 : 1 ≤ N2) : eCal F0 F1 F2 F3 N0 N1 N2 := by
  rcases H0 with ⟨_, a, b⟩ | ⟨a, _⟩
  · exact Or.inl ⟨H3, a, fun j c d => b j c (by omega)⟩
  · omega
theorem L_caE0 {F0 F1 F2 F3 : Int → Int} {N0 N1 N2 N3 N4 : Int} (H0 : eCap F0 F1 F2 F3 N0 N1 N3 N4) (H1 : N4 ≤ 0) (H3 : N2 ≤ 0) : eCal F0 F1 F2 F3 N0 N1 N2 := by
  rcases H0 with ⟨a, _⟩ | ⟨_, a⟩
  · omega
  · exact Or.inr ⟨H3, a⟩
theorem L_sn0 {F0 F1 F2 F3 F4 : Int → Int} {N0 N1 N2 : Int} (H0 : F4 N1 = N2) : eSnp F0 F1 F2 F3 F4 N0 N1 N2 := ⟨by omega, fun i a b => by omega⟩
theorem L_sn1 {F0 F1 F2 F3 F4 : Int → Int} {N0 N1 N2 N3 N5 : Int} (H0 : N3 = N2 - 1) (H1 : eSnp F0 F1 F2 F3 F4 N0 N1 N3) (H2 : eCal F0 F1 F2 F3 N3 N0 N5) (H3 : N5 ≤ 0) : eSnp F0 F1 F2 F3 F4 N0 N1 N2 := by
  refine ⟨by have := H1.1; omega, fun i a b => ?_⟩
  by_cases c : i = N3
  · rcases H2 with ⟨k, _⟩ | ⟨_, k⟩
    · omega
    · rw [c]; exact k
  · exact H1.2 i a (by omega)
theorem L_snE {F0 F1 F2 F3 F4 : Int → Int} {N0 N1 N2 N3 N7 : Int} (H0 : eSnp F0 F1 F2 F3 F4 N0 N1 N3) (H1 : 0 ≤ N3) (H2 : N3 < N2) (H3 : eCal F0 F1 F2 F3 N3 N0 N7) (H4 : 1 ≤ N7) : eSn F0 F1 F2 F3 F4 N0 N1 N2 N3 := by
  rcases H3 with ⟨_, k⟩ | ⟨k, _⟩
  · exact Or.inl ⟨H1, H0.1, H2, k, H0.2⟩
  · omega
theorem L_snN {F0 F1 F2 F3 F4 : Int → Int} {N0 N1 N2 N3 N4 : Int} (H0 : eSnp F0 F1 F2 F3 F4 N0 N1 N4) (H1 : N2 ≤ N4) (H2 : N3 < 0) : eSn F0 F1 F2 F3 F4 N0 N1 N2 N3 := Or.inr ⟨H2, fun i a b => H0.2 i a (by omega)⟩
theorem eSn_one {NL NA P N FS : Int → Int} {z u n r q : Int} (h : eSn NL NA P N FS z u n r) (k : eSn NL NA P N FS z u n q) : r = q ∨ (r < 0 ∧ q < 0) := by
  rcases h with ⟨a, b, c, d, e⟩ | ⟨a, b⟩ <;> rcases k with ⟨a', b', c', d', e'⟩ | ⟨a', b'⟩
  · left
    by_cases x : r < q
    · exact absurd d (e' r b x)
    · by_cases y : q < r
      · exact absurd d' (e q b' y)
      · omega
  · exact absurd d (b' r b c)
  · exact absurd d' (b q b' c')
  · exact Or.inr ⟨a, a'⟩
theorem L_frE {F0 F1 F2 F3 F4 F5 : Int → Int} {N0 N1 N2 N3 : Int} (H0 : 1 ≤ N3) : eFre F3 F0 F1 F2 F4 F5 N0 N1 N2 N3 := Or.inl H0
theorem L_frA {F0 F1 F2 F3 F4 F5 : Int → Int} {N0 N1 N2 N3 N4 : Int} (H0 : eSn F0 F1 F2 F3 F4 N0 N1 N2 N4) (H1 : N4 < 0) : eFre F3 F0 F1 F2 F4 F5 N0 N1 N2 N3 := Or.inr (fun r h => Or.inl (by rcases eSn_one H0 h with e | e <;> omega))
theorem L_frB {F0 F1 F2 F3 F4 F5 : Int → Int} {N0 N1 N2 N3 N4 : Int} (H0 : eSn F0 F1 F2 F3 F4 N0 N1 N2 N4) (H1 : F5 N4 < 0) : eFre F3 F0 F1 F2 F4 F5 N0 N1 N2 N3 := Or.inr (fun r h => by
  rcases eSn_one H0 h with e | e
  · exact Or.inr (by rw [← e]; exact H1)
  · exact Or.inl e.2)
theorem eMt_cg {NL NA P N M : Int → Int} {s z : Int} (h : ∀ j : Int, 0 ≤ j → j < z → N j = M j) (k : eMt NL NA P N s z) : eMt NL NA P M s z := ⟨k.1, fun j a b => (k.2 j a b).trans (h j a b)⟩
theorem eSn_cg {NL NA P N M FS : Int → Int} {z u n r : Int} (h : ∀ j : Int, 0 ≤ j → j < z → N j = M j) (k : eSn NL NA P N FS z u n r) : eSn NL NA P M FS z u n r := by
  have h' : ∀ j : Int, 0 ≤ j → j < z → M j = N j := fun j a b => (h j a b).symm
  rcases k with ⟨a, b, c, d, e⟩ | ⟨a, b⟩
  · exact Or.inl ⟨a, b, c, eMt_cg h d, fun i x y w => e i x y (eMt_cg h' w)⟩
  · exact Or.inr ⟨a, fun i x y w => b i x y (eMt_cg h' w)⟩
theorem eTk_cg {N M Ln P TS TL NL NA : Int → Int} {t l p q k : Int} (h : eTkp N Ln P TS TL NL NA t l p k) (g : eTkp M Ln P TS TL NL NA t l q k) : p = q ∧ ∀ j : Int, 0 ≤ j → j < p + k → N j = M j := by
  obtain ⟨a, b, c⟩ := h
  obtain ⟨a', b', c'⟩ := g
  have e : p = q := by
    rcases a with ⟨x, y, z⟩ | ⟨x, y⟩ <;> rcases a' with ⟨x', y', z'⟩ | ⟨x', y'⟩
    · omega
    · exact absurd ⟨x, y⟩ x'
    · exact absurd ⟨x', y'⟩ x
    · omega
  subst e
  refine ⟨rfl, fun j d f => ?_⟩
  by_cases g : j < p
  · rw [b j d g, b' j d g]
  · have u := c (j - p) (by omega) (by omega)
    have v := c' (j - p) (by omega) (by omega)
    rw [show p + (j - p) = j by omega] at u v
    rw [u, v]
theorem L_fr2 {F0 F1 F2 F3 F4 F5 F6 F7 F8 : Int → Int} {N0 N1 N2 N3 N4 N5 N7 : Int} (H0 : eTkn F0 F1 F2 F3 F4 F5 F6 N0 N1 N4 N5) (H1 : N5 ≤ 0) (H2 : eFre F0 F5 F6 F2 F7 F8 N4 N2 N3 N7) (H3 : N7 ≤ 0) : eFr2 F1 F2 F3 F4 F5 F6 F7 F8 N0 N1 N2 N3 := by
  intro N z hz
  rcases H0 with a | ⟨p, hp, ep⟩
  · omega
  rcases hz with a | ⟨q, hq, eq⟩
  · omega
  obtain ⟨e, c⟩ := eTk_cg hp hq
  have ez : z = N4 := by omega
  rcases H2 with a | H2
  · omega
  refine Or.inr (fun r hr => H2 r ?_)
  rw [ez] at hr
  exact eSn_cg (fun j x y => (c j x (by omega)).symm) hr
theorem L_fr3 {F0 F1 F2 F3 F4 F5 F6 F7 F8 : Int → Int} {N0 N1 N2 N3 N4 N5 N6 : Int} (H0 : eFr2 F1 F2 F3 F4 F5 F6 F7 F8 N4 N5 N1 N2) (H1 : eTkn F0 F1 F2 F3 F4 F5 F6 N4 N5 N0 N6) (H2 : N6 ≤ 0) : eFre F0 F5 F6 F2 F7 F8 N0 N1 N2 N3 := by
  rcases H1 with a | h
  · omega
  · rcases H0 F0 N0 (Or.inr h) with a | k
    · omega
    · exact Or.inr k
theorem L_cnA {F0 F1 F2 F3 F4 F5 : Int → Int} {N0 N1 N2 N3 : Int} (H0 : eSn F0 F1 F2 F3 F4 N0 N1 N2 N3) (H1 : 0 ≤ N3) : eCnd F3 F0 F1 F2 F4 F5 F5 N0 N1 N2 N3 := by
  intro h
  rcases h with a | h
  · omega
  · rcases h N3 H0 with a | a
    · omega
    · exact a
theorem L_cnB {F0 F1 F2 F3 F4 F5 F6 F7 : Int → Int} {N0 N1 N2 N3 N4 N5 : Int} (H0 : ∀ x : Int, F6 x = if x = N4 then N5 else F7 x) (H1 : N4 = N3) (H2 : N5 < 0) : eCnd F3 F0 F1 F2 F4 F5 F6 N0 N1 N2 N3 := by
  intro _
  rw [H0, if_pos H1.symm]; exact H2
theorem L_lcY {F0 F1 F2 F3 F4 F5 F6 F7 : Int → Int} {N0 N1 N2 N3 N4 N5 N6 N7 N8 : Int} (H0 : ∀ x : Int, F1 x = if x = N2 then N3 else F0 x) (H1 : N4 = N1 - 1) (H2 : eLcn F0 N0 N4) (H3 : 0 ≤ N3) (H4 : 0 ≤ N2) (H5 : N2 < N0) (H6 : eCnd F2 F3 F4 F5 F6 F7 F0 N5 N6 N7 N8) (H7 : N8 = N2) (H8 : eFre F2 F3 F4 F5 F6 F7 N5 N6 N7 0) : eLcn F1 N0 N1 :=
  L_lcX H0 H1 H2 H3 H4 H5 (by rw [← H7]; exact H6 H8)
