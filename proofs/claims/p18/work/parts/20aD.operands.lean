/-! OPERANDS -/
def eSk (K V : Int → Int) (a b t : Int) : Prop :=
  ((∃ r, dEv 1031 [K] [a, t] = some r ∧ r ≤ 0) ∧ b = a) ∨
  ((∃ r, dEv 1031 [K] [a, t] = some r ∧ 1 ≤ r) ∧ ∃ q, dEv 1029 [] [V a, 1652126821, 431500522084, 487335096932] = some q ∧ ((q ≤ 0 ∧ b = a) ∨ (1 ≤ q ∧ b = a + 1)))
/-- an operand from a to b -/
def eOo (K V : Int → Int) (a b t w : Int) : Prop :=
  (∃ s, dEv 1032 [K, V] [a, 91, t] = some s ∧ 1 ≤ s) ∧ dEv 1025 [K, V] [a + 1, t] = some b ∧ ePad K V (a + 1) (b - 1) t w ∧ a + 3 ≤ b ∧ b ≤ t ∨
  (∃ s, dEv 1032 [K, V] [a, 91, t] = some s ∧ s ≤ 0) ∧ b ≤ t ∧ a + 1 ≤ b ∧
    (((∃ r, dEv 1031 [K] [a, t] = some r ∧ 1 ≤ r) ∧ (∃ q, dEv 1027 [] [V a] = some q ∧ 0 ≤ q) ∧ b = a + 1) ∨
     (((∃ r, dEv 1031 [K] [a, t] = some r ∧ r ≤ 0) ∨ ((∃ r, dEv 1031 [K] [a, t] = some r ∧ 1 ≤ r) ∧ ∃ q, dEv 1027 [] [V a] = some q ∧ q ≤ -1)) ∧ dEv 1023 [K, V] [a, 0, t] = some b ∧ RunT K V a b 0 0))
def eOs (K V : Int → Int) (t w a b : Int) : Prop := ∃ m, eSk K V a m t ∧ eOo K V m (b - 1) t w
def eOpx (F K V : Int → Int) (n b t w : Int) : Prop := n ≤ 2 ∨ ∃ k : Nat, eIt (eOs K V t w) k (F 2 + 1) b
def eOpp (F G K V : Int → Int) (n b t w : Int) : Prop := b ≤ -1 ∨ F n = 1 ∨ (F n = 3 ∧ RunT K V (G n) b 0 0 ∧ 0 ≤ G n ∧ b ≤ t ∧ G n + 1 ≤ b) ∨ (F n = 2 ∧ ePad K V (G n + 1) (b - 1) t w ∧ 0 ≤ G n ∧ b ≤ t ∧ G n + 3 ≤ b)
def eOpq (F G H K V : Int → Int) (n t w : Int) : Prop := ∀ j : Int, 0 ≤ j → j < n → j ≤ 2 → (F j = 2 → ePad K V (G j + 1) (H j - 1) t w ∧ 0 ≤ G j ∧ H j ≤ t ∧ G j + 3 ≤ H j) ∧ (F j = 3 → RunT K V (G j) (H j) 0 0 ∧ 0 ≤ G j ∧ H j ≤ t ∧ G j + 1 ≤ H j)
def eOpy (F G K V : Int → Int) (n b t w : Int) : Prop := n ≤ 2 ∨ ∃ (k : Nat) (x : Int), eIt (eOs K V t w) k (G 2 + 1) x ∧ eSk K V x (F b) t
def eOoy (F K V : Int → Int) (n b t w : Int) : Prop := b ≤ -1 ∨ eOo K V (F n) b t w
theorem eSk_f {K V : Int → Int} {a b c t : Int} (h : eSk K V a b t) (g : eSk K V a c t) : b = c := by
  rcases h with ⟨⟨r, h1, h2⟩, h3⟩ | ⟨⟨r, h1, h2⟩, q, h3, h4⟩ <;> rcases g with ⟨⟨r', g1, g2⟩, g3⟩ | ⟨⟨r', g1, g2⟩, q', g3, g4⟩
  · omega
  · have := eDv h1 g1; omega
  · have := eDv h1 g1; omega
  · have := eDv h3 g3; omega
theorem eSk_i {K V : Int → Int} {a b t : Int} (h : eSk K V a b t) : a ≤ b := by
  rcases h with ⟨-, h3⟩ | ⟨-, q, -, h4⟩ <;> omega
theorem eOo_f {K V : Int → Int} {a b c t w : Int} (h : eOo K V a b t w) (g : eOo K V a c t w) : b = c := by
  rcases h with ⟨⟨s, h1, h2⟩, h3, -⟩ | ⟨⟨s, h1, h2⟩, -, -, h4⟩ <;> rcases g with ⟨⟨s', g1, g2⟩, g3, -⟩ | ⟨⟨s', g1, g2⟩, -, -, g4⟩
  · exact eDv h3 g3
  · have := eDv h1 g1; omega
  · have := eDv h1 g1; omega
  · rcases h4 with ⟨⟨r, a1, a2⟩, ⟨q, a3, a4⟩, a5⟩ | ⟨a1, a2, -⟩ <;> rcases g4 with ⟨⟨r', b1, b2⟩, ⟨q', b3, b4⟩, b5⟩ | ⟨b1, b2, -⟩
    · omega
    · rcases b1 with ⟨r', c1, c2⟩ | ⟨-, q', c1, c2⟩
      · have := eDv a1 c1; omega
      · have := eDv a3 c1; omega
    · rcases a1 with ⟨r', c1, c2⟩ | ⟨-, q', c1, c2⟩
      · have := eDv b1 c1; omega
      · have := eDv b3 c1; omega
    · exact eDv a2 b2
theorem eOo_i {K V : Int → Int} {a b t w : Int} (h : eOo K V a b t w) : a + 1 ≤ b := by
  rcases h with ⟨-, -, -, h4, -⟩ | ⟨-, -, h4, -⟩ <;> omega
theorem eOs_f {K V : Int → Int} {t w : Int} : ∀ a b c, eOs K V t w a b → eOs K V t w a c → b = c := by
  rintro a b c ⟨m, h1, h2⟩ ⟨n, g1, g2⟩
  have e := eSk_f h1 g1
  subst e
  have := eOo_f h2 g2
  omega
theorem eOs_i {K V : Int → Int} {t w : Int} : ∀ a b, eOs K V t w a b → a < b := by
  rintro a b ⟨m, h1, h2⟩
  have := eSk_i h1
  have := eOo_i h2
  omega
theorem eOpx_no {F K V : Int → Int} {n b t w : Int} (h : eOpx F K V n b t w) (g : 3 ≤ n) : ∃ k : Nat, eIt (eOs K V t w) k (F 2 + 1) b := by
  rcases h with h | h
  · omega
  · exact h
theorem eOpx_next {F K V : Int → Int} {n m b c d t w : Int} (h : eOpx F K V n b t w) (g : 3 ≤ n) (h2 : eOpx F K V m c t w) (g2 : 3 ≤ m) (hc : b + 1 ≤ c) (s : eSk K V b d t) : ∃ x, eOo K V d x t w ∧ x + 1 ≤ c := by
  obtain ⟨k, h⟩ := eOpx_no h g
  obtain ⟨l, h2⟩ := eOpx_no h2 g2
  obtain ⟨x, ⟨m, x1, x2⟩, x3⟩ := eIt_next eOs_f eOs_i h h2 (by omega)
  have e := eSk_f x1 s
  subst e
  exact ⟨x - 1, x2, by omega⟩
