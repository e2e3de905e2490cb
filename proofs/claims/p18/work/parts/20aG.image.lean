/-! WHAT IS LEFT OF UNITS, SHORT BRANCHES, LAYOUT, IMAGE -/
/-- the addresses of the statements of the first i items that have any, in order. A addresses, B places of sections, E sections, O offsets, K kinds, N what is needed, I first items of units -/
def eImc (A B E O K N I : Int → Int) (u i m : Int) : Prop :=
  (0 ≤ m ∧ m ≤ eCn K (fun v => decide (v ≤ 4)) i.toNat) ∧ eSrt A m ∧
  (∀ x : Int, 0 ≤ x → x < m → ∃ v j : Int, 0 ≤ v ∧ v < u ∧ I v ≤ j ∧ j < I (v + 1) ∧ j < i ∧ (K j = 3 ∨ K j = 4) ∧ E j = 0 ∧ 1 ≤ N (4*v) ∧ A x = B (4*v) + O j) ∧
  ∀ v j : Int, 0 ≤ v → v < u → I v ≤ j → j < I (v + 1) → j < i → (K j = 3 ∨ K j = 4) → E j = 0 → 1 ≤ N (4*v) → ∃ x : Int, 0 ≤ x ∧ x < m ∧ A x = B (4*v) + O j
def eImu (A B E O K N I : Int → Int) (u v m : Int) : Prop := eImc A B E O K N I u (I v) m
