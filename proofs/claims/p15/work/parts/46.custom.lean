/-! RULES OF THE CUSTOM PREDICATES -/
section
variable {fs : List (Int → Int)} {zs : List Int}
theorem s_isLet {i j : Nat} : SnOk fs zs (1003, [0, i, j], []) ↔ (cLet (nthZ zs i) ∧ nthZ zs j = 1) ∨ (¬ cLet (nthZ zs i) ∧ nthZ zs j = 0) := Iff.rfl
theorem s_isDig {i j : Nat} : SnOk fs zs (1004, [0, i, j], []) ↔ (cDig (nthZ zs i) ∧ nthZ zs j = 1) ∨ (¬ cDig (nthZ zs i) ∧ nthZ zs j = 0) := Iff.rfl
theorem s_isNam {i j : Nat} : SnOk fs zs (1005, [0, i, j], []) ↔ ((cLet (nthZ zs i) ∨ cDig (nthZ zs i)) ∧ nthZ zs j = 1) ∨ (¬ (cLet (nthZ zs i) ∨ cDig (nthZ zs i)) ∧ nthZ zs j = 0) := Iff.rfl
theorem s_arrLet {a i : Nat} : SnOk fs zs (1006, [1, a, i], []) ↔ cLet (nthF fs a (nthZ zs i)) := Iff.rfl
theorem s_arrNam {a i : Nat} : SnOk fs zs (1007, [1, a, i], []) ↔ cLet (nthF fs a (nthZ zs i)) ∨ cDig (nthF fs a (nthZ zs i)) := Iff.rfl
theorem s_sgn {a b i j : Nat} : SnOk fs zs (1008, [2, a, b, i, j], []) ↔ nthF fs a (nthZ zs i) = 4 ∧ nthF fs b (nthZ zs i) = nthZ zs j := Iff.rfl
theorem s_una {a b i : Nat} : SnOk fs zs (1009, [2, a, b, i], []) ↔ nthF fs a (nthZ zs i) = 4 ∧ 1 ≤ nthF fs b (nthZ zs i) ∧ nthF fs b (nthZ zs i) ≤ 999 ∧ nthF fs b (nthZ zs i) ≠ 36 ∧ nthF fs b (nthZ zs i) ≠ 40 := Iff.rfl
theorem s_valT {a b i : Nat} : SnOk fs zs (1010, [2, a, b, i], []) ↔ nthF fs a (nthZ zs i) = 1 ∨ nthF fs a (nthZ zs i) = 2 ∨ (nthF fs a (nthZ zs i) = 4 ∧ nthF fs b (nthZ zs i) = 36) := Iff.rfl
theorem s_bin {i : Nat} : SnOk fs zs (1011, [0, i], []) ↔ 1 ≤ nthZ zs i ∧ nthZ zs i ≤ 999 ∧ nthZ zs i ≠ 40 ∧ nthZ zs i ≠ 41 := Iff.rfl
theorem s_runT {a b i j k l : Nat} : SnOk fs zs (1012, [2, a, b, i, j, k, l], []) ↔ RunT (nthF fs a) (nthF fs b) (nthZ zs i) (nthZ zs j) (nthZ zs k) (nthZ zs l) := Iff.rfl
theorem s_exprT {a b i j : Nat} : SnOk fs zs (1013, [2, a, b, i, j], []) ↔ RunT (nthF fs a) (nthF fs b) (nthZ zs i) (nthZ zs j) 0 0 := Iff.rfl
theorem s_chr {a b c i j : Nat} : SnOk fs zs (1014, [3, a, b, c, i, j], []) ↔ nthZ zs j = cChr (nthF fs a) (nthF fs b) (nthF fs c) (nthZ zs i) := Iff.rfl
theorem s_expr {a b c i : Nat} : SnOk fs zs (1015, [3, a, b, c, i], []) ↔ RunP (nthF fs a) (nthF fs b) (nthF fs c) (nthZ zs i) 0 0 := Iff.rfl
theorem s_ev {a b c d i j k l m : Nat} : SnOk fs zs (1016, [4, a, b, c, d, i, j, k, l, m], []) ↔ EvS (nthF fs a) (nthF fs b) (nthF fs c) (nthF fs d) (nthZ zs i) (nthZ zs j) (nthZ zs k) (nthZ zs l) (nthZ zs m) := Iff.rfl
theorem s_lf {i j : Nat} : SnOk fs zs (1017, [0, i, j], []) ↔ nthZ zs j ≤ 0 ∨ nthZ zs i = 0 ∨ nthZ zs i = 36 := Iff.rfl
theorem s_ncl {i : Nat} : SnOk fs zs (1018, [0, i], []) ↔ nthZ zs i ≠ 41 := Iff.rfl
theorem s_rd {a i j : Nat} {l : List Int} : SnOk fs zs (1, [a, i, j], l) ↔ nthF fs a (nthZ zs i) = nthZ zs j := Iff.rfl
theorem s_wr {a b i j : Nat} {l : List Int} : SnOk fs zs (2, [a, b, i, j], l) ↔ ∀ x : Int, nthF fs a x = if x = nthZ zs i then nthZ zs j else nthF fs b x := Iff.rfl
end
theorem sp_0 {fs : List (Int → Int)} {zs : List Int} {c : Int} : SnOk fs zs (sp c []) ↔ 0 ≤ c := by
  rw [sp_ok]; show 0 ≤ c + 0 ↔ _; omega
theorem sp_1 {fs : List (Int → Int)} {zs : List Int} {c x : Int} {a : Nat} : SnOk fs zs (sp c [(a, x)]) ↔ 0 ≤ c + x * nthZ zs a := by
  rw [sp_ok]; show 0 ≤ c + (x * nthZ zs a + 0) ↔ _; rw [Int.add_zero]
theorem sp_2 {fs : List (Int → Int)} {zs : List Int} {c x y : Int} {a b : Nat} : SnOk fs zs (sp c [(a, x), (b, y)]) ↔ 0 ≤ c + (x * nthZ zs a + y * nthZ zs b) := by
  rw [sp_ok]; show 0 ≤ c + (x * nthZ zs a + (y * nthZ zs b + 0)) ↔ _; rw [Int.add_zero]
theorem sp_3 {fs : List (Int → Int)} {zs : List Int} {c x y z : Int} {a b d : Nat} : SnOk fs zs (sp c [(a, x), (b, y), (d, z)]) ↔ 0 ≤ c + (x * nthZ zs a + (y * nthZ zs b + z * nthZ zs d)) := by
  rw [sp_ok]; show 0 ≤ c + (x * nthZ zs a + (y * nthZ zs b + (z * nthZ zs d + 0))) ↔ _; rw [Int.add_zero]
/-- equal to a number -/
theorem eqZ {P : Int → Prop} {a b : Int} (h : P a) (e : b = a) : P b := e ▸ h
theorem s_le {fs : List (Int → Int)} {zs : List Int} {a i j k : Nat} : SnOk fs zs (6, [1, a, i, j, k], []) ↔ ∀ x, nthZ zs i ≤ x → x < nthZ zs j → (nthF fs a x ≤ nthZ zs k) := by
  show fOk ((1, 3), ([(0, 1, 0, [], [])], [(0, 0, [(2, 1)], [(0, (-1))])])) [nthF fs a] [nthZ zs i, nthZ zs j, nthZ zs k] ↔ _
  have e0 : ∀ x : Int, (0 : Int) + 1 * x + 0 + 0 = x := fun x => by omega
  constructor
  · intro h x h1 h2
    obtain ⟨l0, hl, q⟩ := h x h1 h2
    rcases List.mem_cons.mp hl with hl | hl
    · subst hl; replace q : 0 ≤ (0 : Int) + 0 * x + (1 * nthZ zs k + 0) + (-1 * nthF fs a (0 + 1 * x + 0 + 0) + 0) := q; rw [e0] at q; omega
    · cases hl
  · intro h x h1 h2
    have q := h x h1 h2
    refine ⟨_, (List.mem_cons_self), ?_⟩; show 0 ≤ (0 : Int) + 0 * x + (1 * nthZ zs k + 0) + (-1 * nthF fs a (0 + 1 * x + 0 + 0) + 0); rw [e0]; omega
theorem s_ge_or {fs : List (Int → Int)} {zs : List Int} {a i j k m : Nat} : SnOk fs zs (19, [1, a, i, j, k, m], []) ↔ ∀ x, nthZ zs i ≤ x → x < nthZ zs j → (nthZ zs k ≤ nthF fs a x ∨ 0 ≤ nthZ zs m) := by
  show fOk ((1, 4), ([(0, 1, 0, [], [])], [(0, 0, [(2, (-1))], [(0, 1)]), (0, 0, [(3, 1)], [])])) [nthF fs a] [nthZ zs i, nthZ zs j, nthZ zs k, nthZ zs m] ↔ _
  have e0 : ∀ x : Int, (0 : Int) + 1 * x + 0 + 0 = x := fun x => by omega
  constructor
  · intro h x h1 h2
    obtain ⟨l0, hl, q⟩ := h x h1 h2
    rcases List.mem_cons.mp hl with hl | hl
    · subst hl; replace q : 0 ≤ (0 : Int) + 0 * x + (-1 * nthZ zs k + 0) + (1 * nthF fs a (0 + 1 * x + 0 + 0) + 0) := q; rw [e0] at q; left; omega
    · skip
      rcases List.mem_cons.mp hl with hl | hl
      · subst hl; replace q : 0 ≤ (0 : Int) + 0 * x + (1 * nthZ zs m + 0) + 0 := q; right; omega
      · cases hl
  · intro h x h1 h2
    have q := h x h1 h2
    rcases q with q | q
    · refine ⟨_, (List.mem_cons_self), ?_⟩; show 0 ≤ (0 : Int) + 0 * x + (-1 * nthZ zs k + 0) + (1 * nthF fs a (0 + 1 * x + 0 + 0) + 0); rw [e0]; omega
    · refine ⟨_, (List.mem_cons_of_mem _ (List.mem_cons_self)), ?_⟩; show 0 ≤ (0 : Int) + 0 * x + (1 * nthZ zs m + 0) + 0; omega
theorem s_le_or {fs : List (Int → Int)} {zs : List Int} {a i j k m : Nat} : SnOk fs zs (13, [1, a, i, j, k, m], []) ↔ ∀ x, nthZ zs i ≤ x → x < nthZ zs j → (nthF fs a x ≤ nthZ zs k ∨ 0 ≤ nthZ zs m) := by
  show fOk ((1, 4), ([(0, 1, 0, [], [])], [(0, 0, [(2, 1)], [(0, (-1))]), (0, 0, [(3, 1)], [])])) [nthF fs a] [nthZ zs i, nthZ zs j, nthZ zs k, nthZ zs m] ↔ _
  have e0 : ∀ x : Int, (0 : Int) + 1 * x + 0 + 0 = x := fun x => by omega
  constructor
  · intro h x h1 h2
    obtain ⟨l0, hl, q⟩ := h x h1 h2
    rcases List.mem_cons.mp hl with hl | hl
    · subst hl; replace q : 0 ≤ (0 : Int) + 0 * x + (1 * nthZ zs k + 0) + (-1 * nthF fs a (0 + 1 * x + 0 + 0) + 0) := q; rw [e0] at q; left; omega
    · skip
      rcases List.mem_cons.mp hl with hl | hl
      · subst hl; replace q : 0 ≤ (0 : Int) + 0 * x + (1 * nthZ zs m + 0) + 0 := q; right; omega
      · cases hl
  · intro h x h1 h2
    have q := h x h1 h2
    rcases q with q | q
    · refine ⟨_, (List.mem_cons_self), ?_⟩; show 0 ≤ (0 : Int) + 0 * x + (1 * nthZ zs k + 0) + (-1 * nthF fs a (0 + 1 * x + 0 + 0) + 0); rw [e0]; omega
    · refine ⟨_, (List.mem_cons_of_mem _ (List.mem_cons_self)), ?_⟩; show 0 ≤ (0 : Int) + 0 * x + (1 * nthZ zs m + 0) + 0; omega
theorem s_or2 {fs : List (Int → Int)} {zs : List Int} {i j k m : Nat} : SnOk fs zs (3, [0, i, j, k, m], []) ↔ ∀ x, nthZ zs i ≤ x → x < nthZ zs j → (0 ≤ nthZ zs k ∨ 0 ≤ nthZ zs m) := by
  show fOk ((0, 4), ([], [(0, 0, [(2, 1)], []), (0, 0, [(3, 1)], [])])) [] [nthZ zs i, nthZ zs j, nthZ zs k, nthZ zs m] ↔ _
  have e0 : ∀ x : Int, (0 : Int) + 1 * x + 0 + 0 = x := fun x => by omega
  constructor
  · intro h x h1 h2
    obtain ⟨l0, hl, q⟩ := h x h1 h2
    rcases List.mem_cons.mp hl with hl | hl
    · subst hl; replace q : 0 ≤ (0 : Int) + 0 * x + (1 * nthZ zs k + 0) + 0 := q; left; omega
    · skip
      rcases List.mem_cons.mp hl with hl | hl
      · subst hl; replace q : 0 ≤ (0 : Int) + 0 * x + (1 * nthZ zs m + 0) + 0 := q; right; omega
      · cases hl
  · intro h x h1 h2
    have q := h x h1 h2
    rcases q with q | q
    · refine ⟨_, (List.mem_cons_self), ?_⟩; show 0 ≤ (0 : Int) + 0 * x + (1 * nthZ zs k + 0) + 0; omega
    · refine ⟨_, (List.mem_cons_of_mem _ (List.mem_cons_self)), ?_⟩; show 0 ≤ (0 : Int) + 0 * x + (1 * nthZ zs m + 0) + 0; omega
theorem s_ge_off {fs : List (Int → Int)} {zs : List Int} {a i j k : Nat} : SnOk fs zs (17, [1, a, i, j, k], []) ↔ ∀ x, nthZ zs i ≤ x → x < nthZ zs j → (x + nthZ zs k ≤ nthF fs a x) := by
  show fOk ((1, 3), ([(0, 1, 0, [], [])], [(0, (-1), [(2, (-1))], [(0, 1)])])) [nthF fs a] [nthZ zs i, nthZ zs j, nthZ zs k] ↔ _
  have e0 : ∀ x : Int, (0 : Int) + 1 * x + 0 + 0 = x := fun x => by omega
  constructor
  · intro h x h1 h2
    obtain ⟨l0, hl, q⟩ := h x h1 h2
    rcases List.mem_cons.mp hl with hl | hl
    · subst hl; replace q : 0 ≤ (0 : Int) + -1 * x + (-1 * nthZ zs k + 0) + (1 * nthF fs a (0 + 1 * x + 0 + 0) + 0) := q; rw [e0] at q; omega
    · cases hl
  · intro h x h1 h2
    have q := h x h1 h2
    refine ⟨_, (List.mem_cons_self), ?_⟩; show 0 ≤ (0 : Int) + -1 * x + (-1 * nthZ zs k + 0) + (1 * nthF fs a (0 + 1 * x + 0 + 0) + 0); rw [e0]; omega
theorem s_le_off {fs : List (Int → Int)} {zs : List Int} {a i j k : Nat} : SnOk fs zs (18, [1, a, i, j, k], []) ↔ ∀ x, nthZ zs i ≤ x → x < nthZ zs j → (nthF fs a x ≤ x + nthZ zs k) := by
  show fOk ((1, 3), ([(0, 1, 0, [], [])], [(0, 1, [(2, 1)], [(0, (-1))])])) [nthF fs a] [nthZ zs i, nthZ zs j, nthZ zs k] ↔ _
  have e0 : ∀ x : Int, (0 : Int) + 1 * x + 0 + 0 = x := fun x => by omega
  constructor
  · intro h x h1 h2
    obtain ⟨l0, hl, q⟩ := h x h1 h2
    rcases List.mem_cons.mp hl with hl | hl
    · subst hl; replace q : 0 ≤ (0 : Int) + 1 * x + (1 * nthZ zs k + 0) + (-1 * nthF fs a (0 + 1 * x + 0 + 0) + 0) := q; rw [e0] at q; omega
    · cases hl
  · intro h x h1 h2
    have q := h x h1 h2
    refine ⟨_, (List.mem_cons_self), ?_⟩; show 0 ≤ (0 : Int) + 1 * x + (1 * nthZ zs k + 0) + (-1 * nthF fs a (0 + 1 * x + 0 + 0) + 0); rw [e0]; omega
theorem s_name63 {fs : List (Int → Int)} {zs : List Int} {a b i j : Nat} : SnOk fs zs (7, [2, a, b, i, j], []) ↔ ∀ x, nthZ zs i ≤ x → x < nthZ zs j → (nthF fs a x ≤ 0 ∨ 2 ≤ nthF fs a x ∨ nthF fs b x ≤ 63) := by
  show fOk ((2, 2), ([(0, 1, 0, [], []), (1, 1, 0, [], [])], [(0, 0, [], [(0, (-1))]), ((-2), 0, [], [(0, 1)]), (63, 0, [], [(1, (-1))])])) [nthF fs a, nthF fs b] [nthZ zs i, nthZ zs j] ↔ _
  have e0 : ∀ x : Int, (0 : Int) + 1 * x + 0 + 0 = x := fun x => by omega
  constructor
  · intro h x h1 h2
    obtain ⟨l0, hl, q⟩ := h x h1 h2
    rcases List.mem_cons.mp hl with hl | hl
    · subst hl; replace q : 0 ≤ (0 : Int) + 0 * x + 0 + (-1 * nthF fs a (0 + 1 * x + 0 + 0) + 0) := q; rw [e0] at q; left; omega
    · skip
      rcases List.mem_cons.mp hl with hl | hl
      · subst hl; replace q : 0 ≤ (-2 : Int) + 0 * x + 0 + (1 * nthF fs a (0 + 1 * x + 0 + 0) + 0) := q; rw [e0] at q; right; left; omega
      · skip
        rcases List.mem_cons.mp hl with hl | hl
        · subst hl; replace q : 0 ≤ (63 : Int) + 0 * x + 0 + (-1 * nthF fs b (0 + 1 * x + 0 + 0) + 0) := q; rw [e0] at q; right; right; omega
        · cases hl
  · intro h x h1 h2
    have q := h x h1 h2
    rcases q with q | q | q
    · refine ⟨_, (List.mem_cons_self), ?_⟩; show 0 ≤ (0 : Int) + 0 * x + 0 + (-1 * nthF fs a (0 + 1 * x + 0 + 0) + 0); rw [e0]; omega
    · refine ⟨_, (List.mem_cons_of_mem _ (List.mem_cons_self)), ?_⟩; show 0 ≤ (-2 : Int) + 0 * x + 0 + (1 * nthF fs a (0 + 1 * x + 0 + 0) + 0); rw [e0]; omega
    · refine ⟨_, (List.mem_cons_of_mem _ (List.mem_cons_of_mem _ (List.mem_cons_self))), ?_⟩; show 0 ≤ (63 : Int) + 0 * x + 0 + (-1 * nthF fs b (0 + 1 * x + 0 + 0) + 0); rw [e0]; omega
theorem s_name1 {fs : List (Int → Int)} {zs : List Int} {a b i j : Nat} : SnOk fs zs (8, [2, a, b, i, j], []) ↔ ∀ x, nthZ zs i ≤ x → x < nthZ zs j → (nthF fs a x ≤ 0 ∨ 2 ≤ nthF fs a x ∨ 1 ≤ nthF fs b x) := by
  show fOk ((2, 2), ([(0, 1, 0, [], []), (1, 1, 0, [], [])], [(0, 0, [], [(0, (-1))]), ((-2), 0, [], [(0, 1)]), ((-1), 0, [], [(1, 1)])])) [nthF fs a, nthF fs b] [nthZ zs i, nthZ zs j] ↔ _
  have e0 : ∀ x : Int, (0 : Int) + 1 * x + 0 + 0 = x := fun x => by omega
  constructor
  · intro h x h1 h2
    obtain ⟨l0, hl, q⟩ := h x h1 h2
    rcases List.mem_cons.mp hl with hl | hl
    · subst hl; replace q : 0 ≤ (0 : Int) + 0 * x + 0 + (-1 * nthF fs a (0 + 1 * x + 0 + 0) + 0) := q; rw [e0] at q; left; omega
    · skip
      rcases List.mem_cons.mp hl with hl | hl
      · subst hl; replace q : 0 ≤ (-2 : Int) + 0 * x + 0 + (1 * nthF fs a (0 + 1 * x + 0 + 0) + 0) := q; rw [e0] at q; right; left; omega
      · skip
        rcases List.mem_cons.mp hl with hl | hl
        · subst hl; replace q : 0 ≤ (-1 : Int) + 0 * x + 0 + (1 * nthF fs b (0 + 1 * x + 0 + 0) + 0) := q; rw [e0] at q; right; right; omega
        · cases hl
  · intro h x h1 h2
    have q := h x h1 h2
    rcases q with q | q | q
    · refine ⟨_, (List.mem_cons_self), ?_⟩; show 0 ≤ (0 : Int) + 0 * x + 0 + (-1 * nthF fs a (0 + 1 * x + 0 + 0) + 0); rw [e0]; omega
    · refine ⟨_, (List.mem_cons_of_mem _ (List.mem_cons_self)), ?_⟩; show 0 ≤ (-2 : Int) + 0 * x + 0 + (1 * nthF fs a (0 + 1 * x + 0 + 0) + 0); rw [e0]; omega
    · refine ⟨_, (List.mem_cons_of_mem _ (List.mem_cons_of_mem _ (List.mem_cons_self))), ?_⟩; show 0 ≤ (-1 : Int) + 0 * x + 0 + (1 * nthF fs b (0 + 1 * x + 0 + 0) + 0); rw [e0]; omega
theorem s_name63b {fs : List (Int → Int)} {zs : List Int} {a b i j k : Nat} : SnOk fs zs (14, [2, a, b, i, j, k], []) ↔ ∀ x, nthZ zs i ≤ x → x < nthZ zs j → (nthF fs a x ≤ 0 ∨ 2 ≤ nthF fs a x ∨ nthF fs b x ≤ 63 ∨ 1 ≤ nthZ zs k) := by
  show fOk ((2, 3), ([(0, 1, 0, [], []), (1, 1, 0, [], [])], [(0, 0, [], [(0, (-1))]), ((-2), 0, [], [(0, 1)]), (63, 0, [], [(1, (-1))]), ((-1), 0, [(2, 1)], [])])) [nthF fs a, nthF fs b] [nthZ zs i, nthZ zs j, nthZ zs k] ↔ _
  have e0 : ∀ x : Int, (0 : Int) + 1 * x + 0 + 0 = x := fun x => by omega
  constructor
  · intro h x h1 h2
    obtain ⟨l0, hl, q⟩ := h x h1 h2
    rcases List.mem_cons.mp hl with hl | hl
    · subst hl; replace q : 0 ≤ (0 : Int) + 0 * x + 0 + (-1 * nthF fs a (0 + 1 * x + 0 + 0) + 0) := q; rw [e0] at q; left; omega
    · skip
      rcases List.mem_cons.mp hl with hl | hl
      · subst hl; replace q : 0 ≤ (-2 : Int) + 0 * x + 0 + (1 * nthF fs a (0 + 1 * x + 0 + 0) + 0) := q; rw [e0] at q; right; left; omega
      · skip
        rcases List.mem_cons.mp hl with hl | hl
        · subst hl; replace q : 0 ≤ (63 : Int) + 0 * x + 0 + (-1 * nthF fs b (0 + 1 * x + 0 + 0) + 0) := q; rw [e0] at q; right; right; left; omega
        · skip
          rcases List.mem_cons.mp hl with hl | hl
          · subst hl; replace q : 0 ≤ (-1 : Int) + 0 * x + (1 * nthZ zs k + 0) + 0 := q; right; right; right; omega
          · cases hl
  · intro h x h1 h2
    have q := h x h1 h2
    rcases q with q | q | q | q
    · refine ⟨_, (List.mem_cons_self), ?_⟩; show 0 ≤ (0 : Int) + 0 * x + 0 + (-1 * nthF fs a (0 + 1 * x + 0 + 0) + 0); rw [e0]; omega
    · refine ⟨_, (List.mem_cons_of_mem _ (List.mem_cons_self)), ?_⟩; show 0 ≤ (-2 : Int) + 0 * x + 0 + (1 * nthF fs a (0 + 1 * x + 0 + 0) + 0); rw [e0]; omega
    · refine ⟨_, (List.mem_cons_of_mem _ (List.mem_cons_of_mem _ (List.mem_cons_self))), ?_⟩; show 0 ≤ (63 : Int) + 0 * x + 0 + (-1 * nthF fs b (0 + 1 * x + 0 + 0) + 0); rw [e0]; omega
    · refine ⟨_, (List.mem_cons_of_mem _ (List.mem_cons_of_mem _ (List.mem_cons_of_mem _ (List.mem_cons_self)))), ?_⟩; show 0 ≤ (-1 : Int) + 0 * x + (1 * nthZ zs k + 0) + 0; omega
theorem s_name1b {fs : List (Int → Int)} {zs : List Int} {a b i j k : Nat} : SnOk fs zs (15, [2, a, b, i, j, k], []) ↔ ∀ x, nthZ zs i ≤ x → x < nthZ zs j → (nthF fs a x ≤ 0 ∨ 2 ≤ nthF fs a x ∨ 1 ≤ nthF fs b x ∨ 1 ≤ nthZ zs k) := by
  show fOk ((2, 3), ([(0, 1, 0, [], []), (1, 1, 0, [], [])], [(0, 0, [], [(0, (-1))]), ((-2), 0, [], [(0, 1)]), ((-1), 0, [], [(1, 1)]), ((-1), 0, [(2, 1)], [])])) [nthF fs a, nthF fs b] [nthZ zs i, nthZ zs j, nthZ zs k] ↔ _
  have e0 : ∀ x : Int, (0 : Int) + 1 * x + 0 + 0 = x := fun x => by omega
  constructor
  · intro h x h1 h2
    obtain ⟨l0, hl, q⟩ := h x h1 h2
    rcases List.mem_cons.mp hl with hl | hl
    · subst hl; replace q : 0 ≤ (0 : Int) + 0 * x + 0 + (-1 * nthF fs a (0 + 1 * x + 0 + 0) + 0) := q; rw [e0] at q; left; omega
    · skip
      rcases List.mem_cons.mp hl with hl | hl
      · subst hl; replace q : 0 ≤ (-2 : Int) + 0 * x + 0 + (1 * nthF fs a (0 + 1 * x + 0 + 0) + 0) := q; rw [e0] at q; right; left; omega
      · skip
        rcases List.mem_cons.mp hl with hl | hl
        · subst hl; replace q : 0 ≤ (-1 : Int) + 0 * x + 0 + (1 * nthF fs b (0 + 1 * x + 0 + 0) + 0) := q; rw [e0] at q; right; right; left; omega
        · skip
          rcases List.mem_cons.mp hl with hl | hl
          · subst hl; replace q : 0 ≤ (-1 : Int) + 0 * x + (1 * nthZ zs k + 0) + 0 := q; right; right; right; omega
          · cases hl
  · intro h x h1 h2
    have q := h x h1 h2
    rcases q with q | q | q | q
    · refine ⟨_, (List.mem_cons_self), ?_⟩; show 0 ≤ (0 : Int) + 0 * x + 0 + (-1 * nthF fs a (0 + 1 * x + 0 + 0) + 0); rw [e0]; omega
    · refine ⟨_, (List.mem_cons_of_mem _ (List.mem_cons_self)), ?_⟩; show 0 ≤ (-2 : Int) + 0 * x + 0 + (1 * nthF fs a (0 + 1 * x + 0 + 0) + 0); rw [e0]; omega
    · refine ⟨_, (List.mem_cons_of_mem _ (List.mem_cons_of_mem _ (List.mem_cons_self))), ?_⟩; show 0 ≤ (-1 : Int) + 0 * x + 0 + (1 * nthF fs b (0 + 1 * x + 0 + 0) + 0); rw [e0]; omega
    · refine ⟨_, (List.mem_cons_of_mem _ (List.mem_cons_of_mem _ (List.mem_cons_of_mem _ (List.mem_cons_self)))), ?_⟩; show 0 ≤ (-1 : Int) + 0 * x + (1 * nthZ zs k + 0) + 0; omega

def q_let0 : qRl := ([sp 2147483648 [(0, 1)], sp 45 [(0, (-1))], sp 0 [(1, 1)], sp 0 [(1, (-1))]], [(1003, [0, 0, 1], [])])
theorem q_let0_ok : RlOk q_let0 := by
  intro fs zs h x hx
  obtain ⟨H0, h⟩ := snAll h
  replace H0 := sp_1.mp H0
  obtain ⟨H1, h⟩ := snAll h
  replace H1 := sp_1.mp H1
  obtain ⟨H2, h⟩ := snAll h
  replace H2 := sp_1.mp H2
  obtain ⟨H3, h⟩ := snAll h
  replace H3 := sp_1.mp H3
  rcases List.mem_cons.mp hx with hx | hx
  · rw [hx]; refine s_isLet.mpr ?_; unfold cLet; omega
  · cases hx
def q_let1 : qRl := ([sp (-46) [(0, 1)], sp 46 [(0, (-1))], sp (-1) [(1, 1)], sp 1 [(1, (-1))]], [(1003, [0, 0, 1], [])])
theorem q_let1_ok : RlOk q_let1 := by
  intro fs zs h x hx
  obtain ⟨H0, h⟩ := snAll h
  replace H0 := sp_1.mp H0
  obtain ⟨H1, h⟩ := snAll h
  replace H1 := sp_1.mp H1
  obtain ⟨H2, h⟩ := snAll h
  replace H2 := sp_1.mp H2
  obtain ⟨H3, h⟩ := snAll h
  replace H3 := sp_1.mp H3
  rcases List.mem_cons.mp hx with hx | hx
  · rw [hx]; refine s_isLet.mpr ?_; unfold cLet; omega
  · cases hx
def q_let2 : qRl := ([sp (-47) [(0, 1)], sp 64 [(0, (-1))], sp 0 [(1, 1)], sp 0 [(1, (-1))]], [(1003, [0, 0, 1], [])])
theorem q_let2_ok : RlOk q_let2 := by
  intro fs zs h x hx
  obtain ⟨H0, h⟩ := snAll h
  replace H0 := sp_1.mp H0
  obtain ⟨H1, h⟩ := snAll h
  replace H1 := sp_1.mp H1
  obtain ⟨H2, h⟩ := snAll h
  replace H2 := sp_1.mp H2
  obtain ⟨H3, h⟩ := snAll h
  replace H3 := sp_1.mp H3
  rcases List.mem_cons.mp hx with hx | hx
  · rw [hx]; refine s_isLet.mpr ?_; unfold cLet; omega
  · cases hx
def q_let3 : qRl := ([sp (-65) [(0, 1)], sp 90 [(0, (-1))], sp (-1) [(1, 1)], sp 1 [(1, (-1))]], [(1003, [0, 0, 1], [])])
theorem q_let3_ok : RlOk q_let3 := by
  intro fs zs h x hx
  obtain ⟨H0, h⟩ := snAll h
  replace H0 := sp_1.mp H0
  obtain ⟨H1, h⟩ := snAll h
  replace H1 := sp_1.mp H1
  obtain ⟨H2, h⟩ := snAll h
  replace H2 := sp_1.mp H2
  obtain ⟨H3, h⟩ := snAll h
  replace H3 := sp_1.mp H3
  rcases List.mem_cons.mp hx with hx | hx
  · rw [hx]; refine s_isLet.mpr ?_; unfold cLet; omega
  · cases hx
def q_let4 : qRl := ([sp (-91) [(0, 1)], sp 94 [(0, (-1))], sp 0 [(1, 1)], sp 0 [(1, (-1))]], [(1003, [0, 0, 1], [])])
theorem q_let4_ok : RlOk q_let4 := by
  intro fs zs h x hx
  obtain ⟨H0, h⟩ := snAll h
  replace H0 := sp_1.mp H0
  obtain ⟨H1, h⟩ := snAll h
  replace H1 := sp_1.mp H1
  obtain ⟨H2, h⟩ := snAll h
  replace H2 := sp_1.mp H2
  obtain ⟨H3, h⟩ := snAll h
  replace H3 := sp_1.mp H3
  rcases List.mem_cons.mp hx with hx | hx
  · rw [hx]; refine s_isLet.mpr ?_; unfold cLet; omega
  · cases hx
def q_let5 : qRl := ([sp (-95) [(0, 1)], sp 95 [(0, (-1))], sp (-1) [(1, 1)], sp 1 [(1, (-1))]], [(1003, [0, 0, 1], [])])
theorem q_let5_ok : RlOk q_let5 := by
  intro fs zs h x hx
  obtain ⟨H0, h⟩ := snAll h
  replace H0 := sp_1.mp H0
  obtain ⟨H1, h⟩ := snAll h
  replace H1 := sp_1.mp H1
  obtain ⟨H2, h⟩ := snAll h
  replace H2 := sp_1.mp H2
  obtain ⟨H3, h⟩ := snAll h
  replace H3 := sp_1.mp H3
  rcases List.mem_cons.mp hx with hx | hx
  · rw [hx]; refine s_isLet.mpr ?_; unfold cLet; omega
  · cases hx
def q_let6 : qRl := ([sp (-96) [(0, 1)], sp 96 [(0, (-1))], sp 0 [(1, 1)], sp 0 [(1, (-1))]], [(1003, [0, 0, 1], [])])
theorem q_let6_ok : RlOk q_let6 := by
  intro fs zs h x hx
  obtain ⟨H0, h⟩ := snAll h
  replace H0 := sp_1.mp H0
  obtain ⟨H1, h⟩ := snAll h
  replace H1 := sp_1.mp H1
  obtain ⟨H2, h⟩ := snAll h
  replace H2 := sp_1.mp H2
  obtain ⟨H3, h⟩ := snAll h
  replace H3 := sp_1.mp H3
  rcases List.mem_cons.mp hx with hx | hx
  · rw [hx]; refine s_isLet.mpr ?_; unfold cLet; omega
  · cases hx
def q_let7 : qRl := ([sp (-97) [(0, 1)], sp 122 [(0, (-1))], sp (-1) [(1, 1)], sp 1 [(1, (-1))]], [(1003, [0, 0, 1], [])])
theorem q_let7_ok : RlOk q_let7 := by
  intro fs zs h x hx
  obtain ⟨H0, h⟩ := snAll h
  replace H0 := sp_1.mp H0
  obtain ⟨H1, h⟩ := snAll h
  replace H1 := sp_1.mp H1
  obtain ⟨H2, h⟩ := snAll h
  replace H2 := sp_1.mp H2
  obtain ⟨H3, h⟩ := snAll h
  replace H3 := sp_1.mp H3
  rcases List.mem_cons.mp hx with hx | hx
  · rw [hx]; refine s_isLet.mpr ?_; unfold cLet; omega
  · cases hx
def q_let8 : qRl := ([sp (-123) [(0, 1)], sp 2147483647 [(0, (-1))], sp 0 [(1, 1)], sp 0 [(1, (-1))]], [(1003, [0, 0, 1], [])])
theorem q_let8_ok : RlOk q_let8 := by
  intro fs zs h x hx
  obtain ⟨H0, h⟩ := snAll h
  replace H0 := sp_1.mp H0
  obtain ⟨H1, h⟩ := snAll h
  replace H1 := sp_1.mp H1
  obtain ⟨H2, h⟩ := snAll h
  replace H2 := sp_1.mp H2
  obtain ⟨H3, h⟩ := snAll h
  replace H3 := sp_1.mp H3
  rcases List.mem_cons.mp hx with hx | hx
  · rw [hx]; refine s_isLet.mpr ?_; unfold cLet; omega
  · cases hx
def q_dig0 : qRl := ([sp 2147483648 [(0, 1)], sp 47 [(0, (-1))], sp 0 [(1, 1)], sp 0 [(1, (-1))]], [(1004, [0, 0, 1], [])])
theorem q_dig0_ok : RlOk q_dig0 := by
  intro fs zs h x hx
  obtain ⟨H0, h⟩ := snAll h
  replace H0 := sp_1.mp H0
  obtain ⟨H1, h⟩ := snAll h
  replace H1 := sp_1.mp H1
  obtain ⟨H2, h⟩ := snAll h
  replace H2 := sp_1.mp H2
  obtain ⟨H3, h⟩ := snAll h
  replace H3 := sp_1.mp H3
  rcases List.mem_cons.mp hx with hx | hx
  · rw [hx]; refine s_isDig.mpr ?_; unfold cDig; omega
  · cases hx
def q_dig1 : qRl := ([sp (-48) [(0, 1)], sp 57 [(0, (-1))], sp (-1) [(1, 1)], sp 1 [(1, (-1))]], [(1004, [0, 0, 1], [])])
theorem q_dig1_ok : RlOk q_dig1 := by
  intro fs zs h x hx
  obtain ⟨H0, h⟩ := snAll h
  replace H0 := sp_1.mp H0
  obtain ⟨H1, h⟩ := snAll h
  replace H1 := sp_1.mp H1
  obtain ⟨H2, h⟩ := snAll h
  replace H2 := sp_1.mp H2
  obtain ⟨H3, h⟩ := snAll h
  replace H3 := sp_1.mp H3
  rcases List.mem_cons.mp hx with hx | hx
  · rw [hx]; refine s_isDig.mpr ?_; unfold cDig; omega
  · cases hx
def q_dig2 : qRl := ([sp (-58) [(0, 1)], sp 2147483647 [(0, (-1))], sp 0 [(1, 1)], sp 0 [(1, (-1))]], [(1004, [0, 0, 1], [])])
theorem q_dig2_ok : RlOk q_dig2 := by
  intro fs zs h x hx
  obtain ⟨H0, h⟩ := snAll h
  replace H0 := sp_1.mp H0
  obtain ⟨H1, h⟩ := snAll h
  replace H1 := sp_1.mp H1
  obtain ⟨H2, h⟩ := snAll h
  replace H2 := sp_1.mp H2
  obtain ⟨H3, h⟩ := snAll h
  replace H3 := sp_1.mp H3
  rcases List.mem_cons.mp hx with hx | hx
  · rw [hx]; refine s_isDig.mpr ?_; unfold cDig; omega
  · cases hx
def q_nam1 : qRl := ([(1003, [0, 0, 2], []), sp (-1) [(2, 1)], sp (-1) [(1, 1)], sp 1 [(1, (-1))]], [(1005, [0, 0, 1], [])])
theorem q_nam1_ok : RlOk q_nam1 := by
  intro fs zs h x hx
  obtain ⟨H0, h⟩ := snAll h
  replace H0 := s_isLet.mp H0
  obtain ⟨H1, h⟩ := snAll h
  replace H1 := sp_1.mp H1
  obtain ⟨H2, h⟩ := snAll h
  replace H2 := sp_1.mp H2
  obtain ⟨H3, h⟩ := snAll h
  replace H3 := sp_1.mp H3
  rcases List.mem_cons.mp hx with hx | hx
  · rw [hx]; refine s_isNam.mpr ?_; unfold cLet cDig at *; omega
  · cases hx
def q_nam2 : qRl := ([(1004, [0, 0, 2], []), sp (-1) [(2, 1)], sp (-1) [(1, 1)], sp 1 [(1, (-1))]], [(1005, [0, 0, 1], [])])
theorem q_nam2_ok : RlOk q_nam2 := by
  intro fs zs h x hx
  obtain ⟨H0, h⟩ := snAll h
  replace H0 := s_isDig.mp H0
  obtain ⟨H1, h⟩ := snAll h
  replace H1 := sp_1.mp H1
  obtain ⟨H2, h⟩ := snAll h
  replace H2 := sp_1.mp H2
  obtain ⟨H3, h⟩ := snAll h
  replace H3 := sp_1.mp H3
  rcases List.mem_cons.mp hx with hx | hx
  · rw [hx]; refine s_isNam.mpr ?_; unfold cLet cDig at *; omega
  · cases hx
def q_nam0 : qRl := ([(1003, [0, 0, 2], []), (1004, [0, 0, 3], []), sp 0 [(2, (-1))], sp 0 [(3, (-1))], sp 0 [(1, 1)], sp 0 [(1, (-1))]], [(1005, [0, 0, 1], [])])
theorem q_nam0_ok : RlOk q_nam0 := by
  intro fs zs h x hx
  obtain ⟨H0, h⟩ := snAll h
  replace H0 := s_isLet.mp H0
  obtain ⟨H1, h⟩ := snAll h
  replace H1 := s_isDig.mp H1
  obtain ⟨H2, h⟩ := snAll h
  replace H2 := sp_1.mp H2
  obtain ⟨H3, h⟩ := snAll h
  replace H3 := sp_1.mp H3
  obtain ⟨H4, h⟩ := snAll h
  replace H4 := sp_1.mp H4
  obtain ⟨H5, h⟩ := snAll h
  replace H5 := sp_1.mp H5
  rcases List.mem_cons.mp hx with hx | hx
  · rw [hx]; refine s_isNam.mpr ?_; unfold cLet cDig at *; omega
  · cases hx
def q_namE : qRl := ([(1005, [0, 0, 1], []), (1005, [0, 2, 3], []), sp 0 [(0, 1), (2, (-1))], sp 0 [(2, 1), (0, (-1))]], [sp 0 [(1, 1), (3, (-1))], sp 0 [(3, 1), (1, (-1))]])
theorem q_namE_ok : RlOk q_namE := by
  intro fs zs h x hx
  obtain ⟨H0, h⟩ := snAll h
  replace H0 := s_isNam.mp H0
  obtain ⟨H1, h⟩ := snAll h
  replace H1 := s_isNam.mp H1
  obtain ⟨H2, h⟩ := snAll h
  replace H2 := sp_2.mp H2
  obtain ⟨H3, h⟩ := snAll h
  replace H3 := sp_2.mp H3
  rcases List.mem_cons.mp hx with hx | hx
  · rw [hx]; refine sp_2.mpr ?_; unfold cLet cDig at *; omega
  rcases List.mem_cons.mp hx with hx | hx
  · rw [hx]; refine sp_2.mpr ?_; unfold cLet cDig at *; omega
  · cases hx
def q_letN : qRl := ([(1003, [0, 0, 1], []), (1005, [0, 2, 3], []), sp 0 [(0, 1), (2, (-1))], sp 0 [(2, 1), (0, (-1))], sp (-1) [(1, 1)]], [sp (-1) [(3, 1)]])
theorem q_letN_ok : RlOk q_letN := by
  intro fs zs h x hx
  obtain ⟨H0, h⟩ := snAll h
  replace H0 := s_isLet.mp H0
  obtain ⟨H1, h⟩ := snAll h
  replace H1 := s_isNam.mp H1
  obtain ⟨H2, h⟩ := snAll h
  replace H2 := sp_2.mp H2
  obtain ⟨H3, h⟩ := snAll h
  replace H3 := sp_2.mp H3
  obtain ⟨H4, h⟩ := snAll h
  replace H4 := sp_1.mp H4
  rcases List.mem_cons.mp hx with hx | hx
  · rw [hx]; refine sp_1.mpr ?_; unfold cLet cDig at *; omega
  · cases hx
def q_arrL : qRl := ([(1003, [0, 1, 2], []), sp (-1) [(2, 1)], (1, [0, 0, 1], [])], [(1006, [1, 0, 0], [])])
theorem q_arrL_ok : RlOk q_arrL := by
  intro fs zs h x hx
  obtain ⟨H0, h⟩ := snAll h
  replace H0 := s_isLet.mp H0
  obtain ⟨H1, h⟩ := snAll h
  replace H1 := sp_1.mp H1
  obtain ⟨H2, h⟩ := snAll h
  replace H2 := s_rd.mp H2
  rcases List.mem_cons.mp hx with hx | hx
  · rw [hx]; refine s_arrLet.mpr ?_; rw [H2]; unfold cLet at *; omega
  · cases hx
def q_arrN : qRl := ([(1006, [1, 0, 0], []), (1, [0, 0, 3], []), (1005, [0, 1, 2], []), sp 0 [(1, 1), (3, (-1))], sp 0 [(3, 1), (1, (-1))]], [sp (-1) [(2, 1)]])
theorem q_arrN_ok : RlOk q_arrN := by
  intro fs zs h x hx
  obtain ⟨H0, h⟩ := snAll h
  replace H0 := s_arrLet.mp H0
  obtain ⟨H1, h⟩ := snAll h
  replace H1 := s_rd.mp H1
  obtain ⟨H2, h⟩ := snAll h
  replace H2 := s_isNam.mp H2
  obtain ⟨H3, h⟩ := snAll h
  replace H3 := sp_2.mp H3
  obtain ⟨H4, h⟩ := snAll h
  replace H4 := sp_2.mp H4
  rcases List.mem_cons.mp hx with hx | hx
  · rw [hx]; refine sp_1.mpr ?_; have r := H1; rw [r] at H0; unfold cLet cDig at *; omega
  · cases hx
def q_arrM : qRl := ([(1005, [0, 1, 2], []), sp (-1) [(2, 1)], (1, [0, 0, 1], [])], [(1007, [1, 0, 0], [])])
theorem q_arrM_ok : RlOk q_arrM := by
  intro fs zs h x hx
  obtain ⟨H0, h⟩ := snAll h
  replace H0 := s_isNam.mp H0
  obtain ⟨H1, h⟩ := snAll h
  replace H1 := sp_1.mp H1
  obtain ⟨H2, h⟩ := snAll h
  replace H2 := s_rd.mp H2
  rcases List.mem_cons.mp hx with hx | hx
  · rw [hx]; refine s_arrNam.mpr ?_; rw [H2]; unfold cLet cDig at *; omega
  · cases hx
def q_arrO : qRl := ([(1007, [1, 0, 0], []), (1, [0, 0, 3], []), (1005, [0, 1, 2], []), sp 0 [(1, 1), (3, (-1))], sp 0 [(3, 1), (1, (-1))]], [sp (-1) [(2, 1)]])
theorem q_arrO_ok : RlOk q_arrO := by
  intro fs zs h x hx
  obtain ⟨H0, h⟩ := snAll h
  replace H0 := s_arrNam.mp H0
  obtain ⟨H1, h⟩ := snAll h
  replace H1 := s_rd.mp H1
  obtain ⟨H2, h⟩ := snAll h
  replace H2 := s_isNam.mp H2
  obtain ⟨H3, h⟩ := snAll h
  replace H3 := sp_2.mp H3
  obtain ⟨H4, h⟩ := snAll h
  replace H4 := sp_2.mp H4
  rcases List.mem_cons.mp hx with hx | hx
  · rw [hx]; refine sp_1.mpr ?_; have r := H1; rw [r] at H0; unfold cLet cDig at *; omega
  · cases hx
def q_sgn : qRl := ([(1, [0, 0, 2], []), sp (-4) [(2, 1)], sp 4 [(2, (-1))], (1, [1, 0, 3], []), sp 0 [(1, 1), (3, (-1))], sp 0 [(3, 1), (1, (-1))]], [(1008, [2, 0, 1, 0, 1], [])])
theorem q_sgn_ok : RlOk q_sgn := by
  intro fs zs h x hx
  obtain ⟨H0, h⟩ := snAll h
  replace H0 := s_rd.mp H0
  obtain ⟨H1, h⟩ := snAll h
  replace H1 := sp_1.mp H1
  obtain ⟨H2, h⟩ := snAll h
  replace H2 := sp_1.mp H2
  obtain ⟨H3, h⟩ := snAll h
  replace H3 := s_rd.mp H3
  obtain ⟨H4, h⟩ := snAll h
  replace H4 := sp_2.mp H4
  obtain ⟨H5, h⟩ := snAll h
  replace H5 := sp_2.mp H5
  rcases List.mem_cons.mp hx with hx | hx
  · rw [hx]; refine s_sgn.mpr ?_; exact ⟨by omega, by omega⟩
  · cases hx
def q_una0 : qRl := ([(1008, [2, 0, 1, 0, 1], []), sp (-1) [(1, 1)], sp 35 [(1, (-1))]], [(1009, [2, 0, 1, 0], [])])
theorem q_una0_ok : RlOk q_una0 := by
  intro fs zs h x hx
  obtain ⟨H0, h⟩ := snAll h
  replace H0 := s_sgn.mp H0
  obtain ⟨H1, h⟩ := snAll h
  replace H1 := sp_1.mp H1
  obtain ⟨H2, h⟩ := snAll h
  replace H2 := sp_1.mp H2
  rcases List.mem_cons.mp hx with hx | hx
  · rw [hx]; refine s_una.mpr ?_; exact ⟨H0.1, by omega, by omega, by omega, by omega⟩
  · cases hx
def q_una1 : qRl := ([(1008, [2, 0, 1, 0, 1], []), sp (-37) [(1, 1)], sp 39 [(1, (-1))]], [(1009, [2, 0, 1, 0], [])])
theorem q_una1_ok : RlOk q_una1 := by
  intro fs zs h x hx
  obtain ⟨H0, h⟩ := snAll h
  replace H0 := s_sgn.mp H0
  obtain ⟨H1, h⟩ := snAll h
  replace H1 := sp_1.mp H1
  obtain ⟨H2, h⟩ := snAll h
  replace H2 := sp_1.mp H2
  rcases List.mem_cons.mp hx with hx | hx
  · rw [hx]; refine s_una.mpr ?_; exact ⟨H0.1, by omega, by omega, by omega, by omega⟩
  · cases hx
def q_una2 : qRl := ([(1008, [2, 0, 1, 0, 1], []), sp (-41) [(1, 1)], sp 999 [(1, (-1))]], [(1009, [2, 0, 1, 0], [])])
theorem q_una2_ok : RlOk q_una2 := by
  intro fs zs h x hx
  obtain ⟨H0, h⟩ := snAll h
  replace H0 := s_sgn.mp H0
  obtain ⟨H1, h⟩ := snAll h
  replace H1 := sp_1.mp H1
  obtain ⟨H2, h⟩ := snAll h
  replace H2 := sp_1.mp H2
  rcases List.mem_cons.mp hx with hx | hx
  · rw [hx]; refine s_una.mpr ?_; exact ⟨H0.1, by omega, by omega, by omega, by omega⟩
  · cases hx
def q_val0 : qRl := ([(1, [0, 0, 1], []), sp (-1) [(1, 1)], sp 2 [(1, (-1))]], [(1010, [2, 0, 1, 0], [])])
theorem q_val0_ok : RlOk q_val0 := by
  intro fs zs h x hx
  obtain ⟨H0, h⟩ := snAll h
  replace H0 := s_rd.mp H0
  obtain ⟨H1, h⟩ := snAll h
  replace H1 := sp_1.mp H1
  obtain ⟨H2, h⟩ := snAll h
  replace H2 := sp_1.mp H2
  rcases List.mem_cons.mp hx with hx | hx
  · rw [hx]; refine s_valT.mpr ?_; omega
  · cases hx
def q_val1 : qRl := ([(1008, [2, 0, 1, 0, 1], []), sp (-36) [(1, 1)], sp 36 [(1, (-1))]], [(1010, [2, 0, 1, 0], [])])
theorem q_val1_ok : RlOk q_val1 := by
  intro fs zs h x hx
  obtain ⟨H0, h⟩ := snAll h
  replace H0 := s_sgn.mp H0
  obtain ⟨H1, h⟩ := snAll h
  replace H1 := sp_1.mp H1
  obtain ⟨H2, h⟩ := snAll h
  replace H2 := sp_1.mp H2
  rcases List.mem_cons.mp hx with hx | hx
  · rw [hx]; refine s_valT.mpr ?_; exact Or.inr (Or.inr ⟨H0.1, by omega⟩)
  · cases hx
def q_bin0 : qRl := ([sp (-1) [(0, 1)], sp 39 [(0, (-1))]], [(1011, [0, 0], [])])
theorem q_bin0_ok : RlOk q_bin0 := by
  intro fs zs h x hx
  obtain ⟨H0, h⟩ := snAll h
  replace H0 := sp_1.mp H0
  obtain ⟨H1, h⟩ := snAll h
  replace H1 := sp_1.mp H1
  rcases List.mem_cons.mp hx with hx | hx
  · rw [hx]; refine s_bin.mpr ?_; exact ⟨by omega, by omega, by omega, by omega⟩
  · cases hx
def q_bin1 : qRl := ([sp (-42) [(0, 1)], sp 999 [(0, (-1))]], [(1011, [0, 0], [])])
theorem q_bin1_ok : RlOk q_bin1 := by
  intro fs zs h x hx
  obtain ⟨H0, h⟩ := snAll h
  replace H0 := sp_1.mp H0
  obtain ⟨H1, h⟩ := snAll h
  replace H1 := sp_1.mp H1
  rcases List.mem_cons.mp hx with hx | hx
  · rw [hx]; refine s_bin.mpr ?_; exact ⟨by omega, by omega, by omega, by omega⟩
  · cases hx
def q_rt0 : qRl := ([sp 0 [(0, 1), (1, (-1))], sp 0 [(1, 1), (0, (-1))], sp 0 [(2, 1)], sp 0 [(2, (-1))], sp (-1) [(3, 1)], sp 1 [(3, (-1))]], [(1012, [2, 0, 1, 0, 1, 2, 3], [])])
theorem q_rt0_ok : RlOk q_rt0 := by
  intro fs zs h x hx
  obtain ⟨H0, h⟩ := snAll h
  replace H0 := sp_2.mp H0
  obtain ⟨H1, h⟩ := snAll h
  replace H1 := sp_2.mp H1
  obtain ⟨H2, h⟩ := snAll h
  replace H2 := sp_1.mp H2
  obtain ⟨H3, h⟩ := snAll h
  replace H3 := sp_1.mp H3
  obtain ⟨H4, h⟩ := snAll h
  replace H4 := sp_1.mp H4
  obtain ⟨H5, h⟩ := snAll h
  replace H5 := sp_1.mp H5
  rcases List.mem_cons.mp hx with hx | hx
  · rw [hx]; refine s_runT.mpr ?_
    have e1 : nthZ zs 1 = nthZ zs 0 := by omega
    have e2 : nthZ zs 2 = 0 := by omega
    have e3 : nthZ zs 3 = 1 := by omega
    rw [e1, e2, e3]; exact RunT.zero
  · cases hx
def q_rtO : qRl := ([(1012, [2, 0, 1, 0, 11, 12, 13], []), sp (-1) [(1, 1), (11, (-1))], sp 1 [(11, 1), (1, (-1))], sp (-1) [(13, 1)], sp 1 [(13, (-1))], sp (-1) [(3, 1)], sp 1 [(3, (-1))], sp (-1) [(2, 1), (12, (-1))], sp 1 [(12, 1), (2, (-1))], (1008, [2, 0, 1, 11, 4], []), sp (-40) [(4, 1)], sp 40 [(4, (-1))]], [(1012, [2, 0, 1, 0, 1, 2, 3], [])])
theorem q_rtO_ok : RlOk q_rtO := by
  intro fs zs h x hx
  obtain ⟨H0, h⟩ := snAll h
  replace H0 := s_runT.mp H0
  obtain ⟨H1, h⟩ := snAll h
  replace H1 := sp_2.mp H1
  obtain ⟨H2, h⟩ := snAll h
  replace H2 := sp_2.mp H2
  obtain ⟨H3, h⟩ := snAll h
  replace H3 := sp_1.mp H3
  obtain ⟨H4, h⟩ := snAll h
  replace H4 := sp_1.mp H4
  obtain ⟨H5, h⟩ := snAll h
  replace H5 := sp_1.mp H5
  obtain ⟨H6, h⟩ := snAll h
  replace H6 := sp_1.mp H6
  obtain ⟨H7, h⟩ := snAll h
  replace H7 := sp_2.mp H7
  obtain ⟨H8, h⟩ := snAll h
  replace H8 := sp_2.mp H8
  obtain ⟨H9, h⟩ := snAll h
  replace H9 := s_sgn.mp H9
  obtain ⟨H10, h⟩ := snAll h
  replace H10 := sp_1.mp H10
  obtain ⟨H11, h⟩ := snAll h
  replace H11 := sp_1.mp H11
  rcases List.mem_cons.mp hx with hx | hx
  · rw [hx]; refine s_runT.mpr ?_
    have e1 : nthZ zs 1 = nthZ zs 11 + 1 := by omega
    have e2 : nthZ zs 2 = nthZ zs 12 + 1 := by omega
    have e3 : nthZ zs 3 = 1 := by omega
    have e4 : nthZ zs 13 = 1 := by omega
    rw [e4] at H0; rw [e1, e2, e3]; exact H0.go (Or.inl ⟨rfl, H9.1, by omega, rfl, rfl⟩)
  · cases hx
def q_rtV : qRl := ([(1012, [2, 0, 1, 0, 11, 12, 13], []), sp (-1) [(1, 1), (11, (-1))], sp 1 [(11, 1), (1, (-1))], sp (-1) [(13, 1)], sp 1 [(13, (-1))], sp 0 [(3, 1)], sp 0 [(3, (-1))], sp 0 [(2, 1), (12, (-1))], sp 0 [(12, 1), (2, (-1))], (1010, [2, 0, 1, 11], [])], [(1012, [2, 0, 1, 0, 1, 2, 3], [])])
theorem q_rtV_ok : RlOk q_rtV := by
  intro fs zs h x hx
  obtain ⟨H0, h⟩ := snAll h
  replace H0 := s_runT.mp H0
  obtain ⟨H1, h⟩ := snAll h
  replace H1 := sp_2.mp H1
  obtain ⟨H2, h⟩ := snAll h
  replace H2 := sp_2.mp H2
  obtain ⟨H3, h⟩ := snAll h
  replace H3 := sp_1.mp H3
  obtain ⟨H4, h⟩ := snAll h
  replace H4 := sp_1.mp H4
  obtain ⟨H5, h⟩ := snAll h
  replace H5 := sp_1.mp H5
  obtain ⟨H6, h⟩ := snAll h
  replace H6 := sp_1.mp H6
  obtain ⟨H7, h⟩ := snAll h
  replace H7 := sp_2.mp H7
  obtain ⟨H8, h⟩ := snAll h
  replace H8 := sp_2.mp H8
  obtain ⟨H9, h⟩ := snAll h
  replace H9 := s_valT.mp H9
  rcases List.mem_cons.mp hx with hx | hx
  · rw [hx]; refine s_runT.mpr ?_
    have e1 : nthZ zs 1 = nthZ zs 11 + 1 := by omega
    have e2 : nthZ zs 2 = nthZ zs 12 := by omega
    have e3 : nthZ zs 3 = 0 := by omega
    have e4 : nthZ zs 13 = 1 := by omega
    rw [e4] at H0; rw [e1, e2, e3]; exact H0.go (Or.inr (Or.inl ⟨rfl, H9, rfl, rfl⟩))
  · cases hx
def q_rtF : qRl := ([(1012, [2, 0, 1, 0, 11, 12, 13], []), sp (-1) [(1, 1), (11, (-1))], sp 1 [(11, 1), (1, (-1))], sp (-1) [(13, 1)], sp 1 [(13, (-1))], sp (-1) [(3, 1)], sp 1 [(3, (-1))], sp 0 [(2, 1), (12, (-1))], sp 0 [(12, 1), (2, (-1))], (1009, [2, 0, 1, 11], [])], [(1012, [2, 0, 1, 0, 1, 2, 3], [])])
theorem q_rtF_ok : RlOk q_rtF := by
  intro fs zs h x hx
  obtain ⟨H0, h⟩ := snAll h
  replace H0 := s_runT.mp H0
  obtain ⟨H1, h⟩ := snAll h
  replace H1 := sp_2.mp H1
  obtain ⟨H2, h⟩ := snAll h
  replace H2 := sp_2.mp H2
  obtain ⟨H3, h⟩ := snAll h
  replace H3 := sp_1.mp H3
  obtain ⟨H4, h⟩ := snAll h
  replace H4 := sp_1.mp H4
  obtain ⟨H5, h⟩ := snAll h
  replace H5 := sp_1.mp H5
  obtain ⟨H6, h⟩ := snAll h
  replace H6 := sp_1.mp H6
  obtain ⟨H7, h⟩ := snAll h
  replace H7 := sp_2.mp H7
  obtain ⟨H8, h⟩ := snAll h
  replace H8 := sp_2.mp H8
  obtain ⟨H9, h⟩ := snAll h
  replace H9 := s_una.mp H9
  rcases List.mem_cons.mp hx with hx | hx
  · rw [hx]; refine s_runT.mpr ?_
    have e1 : nthZ zs 1 = nthZ zs 11 + 1 := by omega
    have e2 : nthZ zs 2 = nthZ zs 12 := by omega
    have e3 : nthZ zs 3 = 1 := by omega
    have e4 : nthZ zs 13 = 1 := by omega
    rw [e4] at H0; rw [e1, e2, e3]; exact H0.go (Or.inr (Or.inr (Or.inl ⟨rfl, H9.1, H9.2.1, H9.2.2.1, H9.2.2.2.1, H9.2.2.2.2, rfl, rfl⟩)))
  · cases hx
def q_rtC : qRl := ([(1012, [2, 0, 1, 0, 11, 12, 13], []), sp (-1) [(1, 1), (11, (-1))], sp 1 [(11, 1), (1, (-1))], sp 0 [(13, 1)], sp 0 [(13, (-1))], sp 0 [(3, 1)], sp 0 [(3, (-1))], sp 1 [(2, 1), (12, (-1))], sp (-1) [(12, 1), (2, (-1))], sp (-1) [(12, 1)], (1008, [2, 0, 1, 11, 4], []), sp (-41) [(4, 1)], sp 41 [(4, (-1))]], [(1012, [2, 0, 1, 0, 1, 2, 3], [])])
theorem q_rtC_ok : RlOk q_rtC := by
  intro fs zs h x hx
  obtain ⟨H0, h⟩ := snAll h
  replace H0 := s_runT.mp H0
  obtain ⟨H1, h⟩ := snAll h
  replace H1 := sp_2.mp H1
  obtain ⟨H2, h⟩ := snAll h
  replace H2 := sp_2.mp H2
  obtain ⟨H3, h⟩ := snAll h
  replace H3 := sp_1.mp H3
  obtain ⟨H4, h⟩ := snAll h
  replace H4 := sp_1.mp H4
  obtain ⟨H5, h⟩ := snAll h
  replace H5 := sp_1.mp H5
  obtain ⟨H6, h⟩ := snAll h
  replace H6 := sp_1.mp H6
  obtain ⟨H7, h⟩ := snAll h
  replace H7 := sp_2.mp H7
  obtain ⟨H8, h⟩ := snAll h
  replace H8 := sp_2.mp H8
  obtain ⟨H9, h⟩ := snAll h
  replace H9 := sp_1.mp H9
  obtain ⟨H10, h⟩ := snAll h
  replace H10 := s_sgn.mp H10
  obtain ⟨H11, h⟩ := snAll h
  replace H11 := sp_1.mp H11
  obtain ⟨H12, h⟩ := snAll h
  replace H12 := sp_1.mp H12
  rcases List.mem_cons.mp hx with hx | hx
  · rw [hx]; refine s_runT.mpr ?_
    have e1 : nthZ zs 1 = nthZ zs 11 + 1 := by omega
    have e2 : nthZ zs 2 = nthZ zs 12 - 1 := by omega
    have e3 : nthZ zs 3 = 0 := by omega
    have e4 : nthZ zs 13 = 0 := by omega
    rw [e4] at H0; rw [e1, e2, e3]; exact H0.go (Or.inr (Or.inr (Or.inr (Or.inl ⟨rfl, H10.1, by omega, by omega, rfl, rfl⟩))))
  · cases hx
def q_rtB : qRl := ([(1012, [2, 0, 1, 0, 11, 12, 13], []), sp (-1) [(1, 1), (11, (-1))], sp 1 [(11, 1), (1, (-1))], sp 0 [(13, 1)], sp 0 [(13, (-1))], sp (-1) [(3, 1)], sp 1 [(3, (-1))], sp 0 [(2, 1), (12, (-1))], sp 0 [(12, 1), (2, (-1))], (1, [0, 11, 4], []), sp (-4) [(4, 1)], sp 4 [(4, (-1))], (1, [1, 11, 5], []), (1011, [0, 5], [])], [(1012, [2, 0, 1, 0, 1, 2, 3], [])])
theorem q_rtB_ok : RlOk q_rtB := by
  intro fs zs h x hx
  obtain ⟨H0, h⟩ := snAll h
  replace H0 := s_runT.mp H0
  obtain ⟨H1, h⟩ := snAll h
  replace H1 := sp_2.mp H1
  obtain ⟨H2, h⟩ := snAll h
  replace H2 := sp_2.mp H2
  obtain ⟨H3, h⟩ := snAll h
  replace H3 := sp_1.mp H3
  obtain ⟨H4, h⟩ := snAll h
  replace H4 := sp_1.mp H4
  obtain ⟨H5, h⟩ := snAll h
  replace H5 := sp_1.mp H5
  obtain ⟨H6, h⟩ := snAll h
  replace H6 := sp_1.mp H6
  obtain ⟨H7, h⟩ := snAll h
  replace H7 := sp_2.mp H7
  obtain ⟨H8, h⟩ := snAll h
  replace H8 := sp_2.mp H8
  obtain ⟨H9, h⟩ := snAll h
  replace H9 := s_rd.mp H9
  obtain ⟨H10, h⟩ := snAll h
  replace H10 := sp_1.mp H10
  obtain ⟨H11, h⟩ := snAll h
  replace H11 := sp_1.mp H11
  obtain ⟨H12, h⟩ := snAll h
  replace H12 := s_rd.mp H12
  obtain ⟨H13, h⟩ := snAll h
  replace H13 := s_bin.mp H13
  rcases List.mem_cons.mp hx with hx | hx
  · rw [hx]; refine s_runT.mpr ?_
    have e1 : nthZ zs 1 = nthZ zs 11 + 1 := by omega
    have e2 : nthZ zs 2 = nthZ zs 12 := by omega
    have e3 : nthZ zs 3 = 1 := by omega
    have e4 : nthZ zs 13 = 0 := by omega
    rw [e4] at H0; rw [e1, e2, e3]; exact H0.go (Or.inr (Or.inr (Or.inr (Or.inr ⟨rfl, by omega, by omega, by omega, by omega, by omega, rfl, rfl⟩))))
  · cases hx
def q_rtE : qRl := ([(1012, [2, 0, 1, 0, 1, 2, 3], []), sp 0 [(2, (-1))], sp 0 [(2, 1)], sp 0 [(3, (-1))], sp 0 [(3, 1)]], [(1013, [2, 0, 1, 0, 1], [])])
theorem q_rtE_ok : RlOk q_rtE := by
  intro fs zs h x hx
  obtain ⟨H0, h⟩ := snAll h
  replace H0 := s_runT.mp H0
  obtain ⟨H1, h⟩ := snAll h
  replace H1 := sp_1.mp H1
  obtain ⟨H2, h⟩ := snAll h
  replace H2 := sp_1.mp H2
  obtain ⟨H3, h⟩ := snAll h
  replace H3 := sp_1.mp H3
  obtain ⟨H4, h⟩ := snAll h
  replace H4 := sp_1.mp H4
  rcases List.mem_cons.mp hx with hx | hx
  · rw [hx]; refine s_exprT.mpr ?_
    have e2 : nthZ zs 2 = 0 := by omega
    have e3 : nthZ zs 3 = 0 := by omega
    rw [e2, e3] at H0; exact H0
  · cases hx
def q_chN : qRl := ([(1, [0, 0, 2], []), sp (-1) [(2, (-1))], sp 1 [(3, 1), (2, 1)], sp (-1) [(3, (-1)), (2, (-1))], sp 0 [(1, 1), (3, (-1))], sp 0 [(3, 1), (1, (-1))]], [(1014, [3, 0, 1, 2, 0, 1], [])])
theorem q_chN_ok : RlOk q_chN := by
  intro fs zs h x hx
  obtain ⟨H0, h⟩ := snAll h
  replace H0 := s_rd.mp H0
  obtain ⟨H1, h⟩ := snAll h
  replace H1 := sp_1.mp H1
  obtain ⟨H2, h⟩ := snAll h
  replace H2 := sp_2.mp H2
  obtain ⟨H3, h⟩ := snAll h
  replace H3 := sp_2.mp H3
  obtain ⟨H4, h⟩ := snAll h
  replace H4 := sp_2.mp H4
  obtain ⟨H5, h⟩ := snAll h
  replace H5 := sp_2.mp H5
  rcases List.mem_cons.mp hx with hx | hx
  · rw [hx]; refine s_chr.mpr ?_; unfold cChr; rw [if_pos (by omega)]; omega
  · cases hx
def q_chS : qRl := ([(1, [0, 0, 2], []), sp 0 [(2, 1)], (1, [1, 2, 3], []), sp (-4) [(3, 1)], sp 4 [(3, (-1))], (1, [2, 2, 4], []), sp 0 [(1, 1), (4, (-1))], sp 0 [(4, 1), (1, (-1))]], [(1014, [3, 0, 1, 2, 0, 1], [])])
theorem q_chS_ok : RlOk q_chS := by
  intro fs zs h x hx
  obtain ⟨H0, h⟩ := snAll h
  replace H0 := s_rd.mp H0
  obtain ⟨H1, h⟩ := snAll h
  replace H1 := sp_1.mp H1
  obtain ⟨H2, h⟩ := snAll h
  replace H2 := s_rd.mp H2
  obtain ⟨H3, h⟩ := snAll h
  replace H3 := sp_1.mp H3
  obtain ⟨H4, h⟩ := snAll h
  replace H4 := sp_1.mp H4
  obtain ⟨H5, h⟩ := snAll h
  replace H5 := s_rd.mp H5
  obtain ⟨H6, h⟩ := snAll h
  replace H6 := sp_2.mp H6
  obtain ⟨H7, h⟩ := snAll h
  replace H7 := sp_2.mp H7
  rcases List.mem_cons.mp hx with hx | hx
  · rw [hx]; refine s_chr.mpr ?_; unfold cChr; rw [H0, if_neg (by omega), if_pos (by omega)]; omega
  · cases hx
def q_chL : qRl := ([(1, [0, 0, 2], []), sp 0 [(2, 1)], (1, [1, 2, 3], []), sp 3 [(3, (-1))], sp 0 [(1, 1)], sp 0 [(1, (-1))]], [(1014, [3, 0, 1, 2, 0, 1], [])])
theorem q_chL_ok : RlOk q_chL := by
  intro fs zs h x hx
  obtain ⟨H0, h⟩ := snAll h
  replace H0 := s_rd.mp H0
  obtain ⟨H1, h⟩ := snAll h
  replace H1 := sp_1.mp H1
  obtain ⟨H2, h⟩ := snAll h
  replace H2 := s_rd.mp H2
  obtain ⟨H3, h⟩ := snAll h
  replace H3 := sp_1.mp H3
  obtain ⟨H4, h⟩ := snAll h
  replace H4 := sp_1.mp H4
  obtain ⟨H5, h⟩ := snAll h
  replace H5 := sp_1.mp H5
  rcases List.mem_cons.mp hx with hx | hx
  · rw [hx]; refine s_chr.mpr ?_; unfold cChr; rw [H0, if_neg (by omega), if_neg (by omega)]; omega
  · cases hx
def q_chG : qRl := ([(1, [0, 0, 2], []), sp 0 [(2, 1)], (1, [1, 2, 3], []), sp (-5) [(3, 1)], sp 0 [(1, 1)], sp 0 [(1, (-1))]], [(1014, [3, 0, 1, 2, 0, 1], [])])
theorem q_chG_ok : RlOk q_chG := by
  intro fs zs h x hx
  obtain ⟨H0, h⟩ := snAll h
  replace H0 := s_rd.mp H0
  obtain ⟨H1, h⟩ := snAll h
  replace H1 := sp_1.mp H1
  obtain ⟨H2, h⟩ := snAll h
  replace H2 := s_rd.mp H2
  obtain ⟨H3, h⟩ := snAll h
  replace H3 := sp_1.mp H3
  obtain ⟨H4, h⟩ := snAll h
  replace H4 := sp_1.mp H4
  obtain ⟨H5, h⟩ := snAll h
  replace H5 := sp_1.mp H5
  rcases List.mem_cons.mp hx with hx | hx
  · rw [hx]; refine s_chr.mpr ?_; unfold cChr; rw [H0, if_neg (by omega), if_neg (by omega)]; omega
  · cases hx
def q_exC : qRl := ([(1013, [2, 1, 2, 1, 2], []), sp 0 [(1, 1)], (17, [1, 0, 3, 4, 5], []), (18, [1, 0, 3, 4, 5], []), sp 0 [(3, (-1))], sp 0 [(5, 1), (1, (-1))], sp 0 [(1, 1), (5, (-1))], sp 0 [(4, 1), (0, (-1))], sp 0 [(2, 1), (1, (-1)), (0, (-1))], sp 0 [(1, 1), (0, 1), (2, (-1))]], [(1015, [3, 0, 1, 2, 0], [])])
theorem q_exC_ok : RlOk q_exC := by
  intro fs zs h x hx
  obtain ⟨H0, h⟩ := snAll h
  replace H0 := s_exprT.mp H0
  obtain ⟨H1, h⟩ := snAll h
  replace H1 := sp_1.mp H1
  obtain ⟨H2, h⟩ := snAll h
  replace H2 := s_ge_off.mp H2
  obtain ⟨H3, h⟩ := snAll h
  replace H3 := s_le_off.mp H3
  obtain ⟨H4, h⟩ := snAll h
  replace H4 := sp_1.mp H4
  obtain ⟨H5, h⟩ := snAll h
  replace H5 := sp_2.mp H5
  obtain ⟨H6, h⟩ := snAll h
  replace H6 := sp_2.mp H6
  obtain ⟨H7, h⟩ := snAll h
  replace H7 := sp_2.mp H7
  obtain ⟨H8, h⟩ := snAll h
  replace H8 := sp_3.mp H8
  obtain ⟨H9, h⟩ := snAll h
  replace H9 := sp_3.mp H9
  rcases List.mem_cons.mp hx with hx | hx
  · rw [hx]; refine s_expr.mpr ?_
    rw [show nthZ zs 0 = nthZ zs 2 - nthZ zs 1 by omega]
    refine H0.toP (by omega) fun j a b => ?_
    have g1 := H2 j (by omega) (by omega)
    have g2 := H3 j (by omega) (by omega)
    omega
  · cases hx
def q_ev0 : qRl := ([(1015, [3, 1, 2, 3, 4], []), sp 0 [(0, 1)], sp 0 [(0, (-1))], sp (-1) [(1, 1)], sp 1 [(1, (-1))], sp 0 [(2, 1)], sp 0 [(2, (-1))], sp 0 [(3, 1)], sp 0 [(3, (-1))]], [(1016, [4, 0, 1, 2, 3, 0, 1, 2, 3, 4], [])])
theorem q_ev0_ok : RlOk q_ev0 := by
  intro fs zs h x hx
  obtain ⟨H0, h⟩ := snAll h
  replace H0 := s_expr.mp H0
  obtain ⟨H1, h⟩ := snAll h
  replace H1 := sp_1.mp H1
  obtain ⟨H2, h⟩ := snAll h
  replace H2 := sp_1.mp H2
  obtain ⟨H3, h⟩ := snAll h
  replace H3 := sp_1.mp H3
  obtain ⟨H4, h⟩ := snAll h
  replace H4 := sp_1.mp H4
  obtain ⟨H5, h⟩ := snAll h
  replace H5 := sp_1.mp H5
  obtain ⟨H6, h⟩ := snAll h
  replace H6 := sp_1.mp H6
  obtain ⟨H7, h⟩ := snAll h
  replace H7 := sp_1.mp H7
  obtain ⟨H8, h⟩ := snAll h
  replace H8 := sp_1.mp H8
  rcases List.mem_cons.mp hx with hx | hx
  · rw [hx]; refine s_ev.mpr ?_
    have e0 : nthZ zs 0 = 0 := by omega
    have e1 : nthZ zs 1 = 1 := by omega
    have e2 : nthZ zs 2 = 0 := by omega
    have e3 : nthZ zs 3 = 0 := by omega
    rw [e0, e1, e2, e3]; exact ev_ini H0
  · cases hx
def q_evO : qRl := ([(2, [4, 0, 6, 7], []), sp 0 [(5, 1), (7, (-1))], sp 0 [(5, (-1)), (7, 1)], (1016, [4, 0, 1, 2, 3, 0, 1, 2, 3, 4], []), (1014, [3, 1, 2, 3, 0, 5], []), sp (-1) [(4, 1), (0, (-1))], sp (-1) [(1, 1)], sp 1 [(1, (-1))], sp (-40) [(5, 1)], sp 40 [(5, (-1))], sp (-40) [(7, 1)], sp 40 [(7, (-1))], sp 0 [(6, 1), (2, (-1))], sp 0 [(2, 1), (6, (-1))], sp (-1) [(10, 1), (0, (-1))], sp 1 [(0, 1), (10, (-1))], sp (-1) [(11, 1)], sp 1 [(11, (-1))], sp (-1) [(12, 1), (2, (-1))], sp 1 [(2, 1), (12, (-1))], sp 0 [(13, 1), (3, (-1))], sp 0 [(3, 1), (13, (-1))]], [(1016, [4, 4, 1, 2, 3, 10, 11, 12, 13, 4], [])])
theorem q_evO_ok : RlOk q_evO := by
  intro fs zs h x hx
  obtain ⟨H0, h⟩ := snAll h
  replace H0 := s_wr.mp H0
  obtain ⟨H1, h⟩ := snAll h
  replace H1 := sp_2.mp H1
  obtain ⟨H2, h⟩ := snAll h
  replace H2 := sp_2.mp H2
  obtain ⟨H3, h⟩ := snAll h
  replace H3 := s_ev.mp H3
  obtain ⟨H4, h⟩ := snAll h
  replace H4 := s_chr.mp H4
  obtain ⟨H5, h⟩ := snAll h
  replace H5 := sp_2.mp H5
  obtain ⟨H6, h⟩ := snAll h
  replace H6 := sp_1.mp H6
  obtain ⟨H7, h⟩ := snAll h
  replace H7 := sp_1.mp H7
  obtain ⟨H8, h⟩ := snAll h
  replace H8 := sp_1.mp H8
  obtain ⟨H9, h⟩ := snAll h
  replace H9 := sp_1.mp H9
  obtain ⟨H10, h⟩ := snAll h
  replace H10 := sp_1.mp H10
  obtain ⟨H11, h⟩ := snAll h
  replace H11 := sp_1.mp H11
  obtain ⟨H12, h⟩ := snAll h
  replace H12 := sp_2.mp H12
  obtain ⟨H13, h⟩ := snAll h
  replace H13 := sp_2.mp H13
  obtain ⟨H14, h⟩ := snAll h
  replace H14 := sp_2.mp H14
  obtain ⟨H15, h⟩ := snAll h
  replace H15 := sp_2.mp H15
  obtain ⟨H16, h⟩ := snAll h
  replace H16 := sp_1.mp H16
  obtain ⟨H17, h⟩ := snAll h
  replace H17 := sp_1.mp H17
  obtain ⟨H18, h⟩ := snAll h
  replace H18 := sp_2.mp H18
  obtain ⟨H19, h⟩ := snAll h
  replace H19 := sp_2.mp H19
  obtain ⟨H20, h⟩ := snAll h
  replace H20 := sp_2.mp H20
  obtain ⟨H21, h⟩ := snAll h
  replace H21 := sp_2.mp H21
  rcases List.mem_cons.mp hx with hx | hx
  · rw [hx]; refine s_ev.mpr ?_
    have e1 : nthZ zs 1 = 1 := by omega
    rw [e1] at H3; have e10 : nthZ zs 10 = nthZ zs 0 + 1 := by omega
    have e11 : nthZ zs 11 = 1 := by omega
    have e12 : nthZ zs 12 = nthZ zs 2 + 1 := by omega
    have e13 : nthZ zs 13 = nthZ zs 3 := by omega
    rw [e10, e11, e12, e13]; exact ev_op H3 (by omega) (by omega) (by rw [H0, if_pos (by omega)]; omega) (fun i hi => by rw [H0, if_neg (by omega)])
  · cases hx
def q_evU0 : qRl := ([(2, [4, 0, 6, 7], []), sp 1000 [(5, 1), (7, (-1))], sp (-1000) [(5, (-1)), (7, 1)], (1016, [4, 0, 1, 2, 3, 0, 1, 2, 3, 4], []), (1014, [3, 1, 2, 3, 0, 5], []), sp (-1) [(4, 1), (0, (-1))], sp (-1) [(1, 1)], sp 1 [(1, (-1))], sp 2147483648 [(5, 1)], sp (-1) [(5, (-1))], sp (-1000) [(7, 1), (5, (-1))], sp 1000 [(5, 1), (7, (-1))], sp 0 [(6, 1), (2, (-1))], sp 0 [(2, 1), (6, (-1))], sp (-1) [(10, 1), (0, (-1))], sp 1 [(0, 1), (10, (-1))], sp (-1) [(11, 1)], sp 1 [(11, (-1))], sp (-1) [(12, 1), (2, (-1))], sp 1 [(2, 1), (12, (-1))], sp 0 [(13, 1), (3, (-1))], sp 0 [(3, 1), (13, (-1))]], [(1016, [4, 4, 1, 2, 3, 10, 11, 12, 13, 4], [])])
theorem q_evU0_ok : RlOk q_evU0 := by
  intro fs zs h x hx
  obtain ⟨H0, h⟩ := snAll h
  replace H0 := s_wr.mp H0
  obtain ⟨H1, h⟩ := snAll h
  replace H1 := sp_2.mp H1
  obtain ⟨H2, h⟩ := snAll h
  replace H2 := sp_2.mp H2
  obtain ⟨H3, h⟩ := snAll h
  replace H3 := s_ev.mp H3
  obtain ⟨H4, h⟩ := snAll h
  replace H4 := s_chr.mp H4
  obtain ⟨H5, h⟩ := snAll h
  replace H5 := sp_2.mp H5
  obtain ⟨H6, h⟩ := snAll h
  replace H6 := sp_1.mp H6
  obtain ⟨H7, h⟩ := snAll h
  replace H7 := sp_1.mp H7
  obtain ⟨H8, h⟩ := snAll h
  replace H8 := sp_1.mp H8
  obtain ⟨H9, h⟩ := snAll h
  replace H9 := sp_1.mp H9
  obtain ⟨H10, h⟩ := snAll h
  replace H10 := sp_2.mp H10
  obtain ⟨H11, h⟩ := snAll h
  replace H11 := sp_2.mp H11
  obtain ⟨H12, h⟩ := snAll h
  replace H12 := sp_2.mp H12
  obtain ⟨H13, h⟩ := snAll h
  replace H13 := sp_2.mp H13
  obtain ⟨H14, h⟩ := snAll h
  replace H14 := sp_2.mp H14
  obtain ⟨H15, h⟩ := snAll h
  replace H15 := sp_2.mp H15
  obtain ⟨H16, h⟩ := snAll h
  replace H16 := sp_1.mp H16
  obtain ⟨H17, h⟩ := snAll h
  replace H17 := sp_1.mp H17
  obtain ⟨H18, h⟩ := snAll h
  replace H18 := sp_2.mp H18
  obtain ⟨H19, h⟩ := snAll h
  replace H19 := sp_2.mp H19
  obtain ⟨H20, h⟩ := snAll h
  replace H20 := sp_2.mp H20
  obtain ⟨H21, h⟩ := snAll h
  replace H21 := sp_2.mp H21
  rcases List.mem_cons.mp hx with hx | hx
  · rw [hx]; refine s_ev.mpr ?_
    have e1 : nthZ zs 1 = 1 := by omega
    rw [e1] at H3; have e10 : nthZ zs 10 = nthZ zs 0 + 1 := by omega
    have e11 : nthZ zs 11 = 1 := by omega
    have e12 : nthZ zs 12 = nthZ zs 2 + 1 := by omega
    have e13 : nthZ zs 13 = nthZ zs 3 := by omega
    rw [e10, e11, e12, e13]; exact ev_un H3 (by omega) (by omega) (by omega) (by omega) (by rw [H0, if_pos (by omega)]; omega) (fun i hi => by rw [H0, if_neg (by omega)])
  · cases hx
def q_evU1 : qRl := ([(2, [4, 0, 6, 7], []), sp 1000 [(5, 1), (7, (-1))], sp (-1000) [(5, (-1)), (7, 1)], (1016, [4, 0, 1, 2, 3, 0, 1, 2, 3, 4], []), (1014, [3, 1, 2, 3, 0, 5], []), sp (-1) [(4, 1), (0, (-1))], sp (-1) [(1, 1)], sp 1 [(1, (-1))], sp (-1) [(5, 1)], sp 35 [(5, (-1))], sp (-1000) [(7, 1), (5, (-1))], sp 1000 [(5, 1), (7, (-1))], sp 0 [(6, 1), (2, (-1))], sp 0 [(2, 1), (6, (-1))], sp (-1) [(10, 1), (0, (-1))], sp 1 [(0, 1), (10, (-1))], sp (-1) [(11, 1)], sp 1 [(11, (-1))], sp (-1) [(12, 1), (2, (-1))], sp 1 [(2, 1), (12, (-1))], sp 0 [(13, 1), (3, (-1))], sp 0 [(3, 1), (13, (-1))]], [(1016, [4, 4, 1, 2, 3, 10, 11, 12, 13, 4], [])])
theorem q_evU1_ok : RlOk q_evU1 := by
  intro fs zs h x hx
  obtain ⟨H0, h⟩ := snAll h
  replace H0 := s_wr.mp H0
  obtain ⟨H1, h⟩ := snAll h
  replace H1 := sp_2.mp H1
  obtain ⟨H2, h⟩ := snAll h
  replace H2 := sp_2.mp H2
  obtain ⟨H3, h⟩ := snAll h
  replace H3 := s_ev.mp H3
  obtain ⟨H4, h⟩ := snAll h
  replace H4 := s_chr.mp H4
  obtain ⟨H5, h⟩ := snAll h
  replace H5 := sp_2.mp H5
  obtain ⟨H6, h⟩ := snAll h
  replace H6 := sp_1.mp H6
  obtain ⟨H7, h⟩ := snAll h
  replace H7 := sp_1.mp H7
  obtain ⟨H8, h⟩ := snAll h
  replace H8 := sp_1.mp H8
  obtain ⟨H9, h⟩ := snAll h
  replace H9 := sp_1.mp H9
  obtain ⟨H10, h⟩ := snAll h
  replace H10 := sp_2.mp H10
  obtain ⟨H11, h⟩ := snAll h
  replace H11 := sp_2.mp H11
  obtain ⟨H12, h⟩ := snAll h
  replace H12 := sp_2.mp H12
  obtain ⟨H13, h⟩ := snAll h
  replace H13 := sp_2.mp H13
  obtain ⟨H14, h⟩ := snAll h
  replace H14 := sp_2.mp H14
  obtain ⟨H15, h⟩ := snAll h
  replace H15 := sp_2.mp H15
  obtain ⟨H16, h⟩ := snAll h
  replace H16 := sp_1.mp H16
  obtain ⟨H17, h⟩ := snAll h
  replace H17 := sp_1.mp H17
  obtain ⟨H18, h⟩ := snAll h
  replace H18 := sp_2.mp H18
  obtain ⟨H19, h⟩ := snAll h
  replace H19 := sp_2.mp H19
  obtain ⟨H20, h⟩ := snAll h
  replace H20 := sp_2.mp H20
  obtain ⟨H21, h⟩ := snAll h
  replace H21 := sp_2.mp H21
  rcases List.mem_cons.mp hx with hx | hx
  · rw [hx]; refine s_ev.mpr ?_
    have e1 : nthZ zs 1 = 1 := by omega
    rw [e1] at H3; have e10 : nthZ zs 10 = nthZ zs 0 + 1 := by omega
    have e11 : nthZ zs 11 = 1 := by omega
    have e12 : nthZ zs 12 = nthZ zs 2 + 1 := by omega
    have e13 : nthZ zs 13 = nthZ zs 3 := by omega
    rw [e10, e11, e12, e13]; exact ev_un H3 (by omega) (by omega) (by omega) (by omega) (by rw [H0, if_pos (by omega)]; omega) (fun i hi => by rw [H0, if_neg (by omega)])
  · cases hx
def q_evU2 : qRl := ([(2, [4, 0, 6, 7], []), sp 1000 [(5, 1), (7, (-1))], sp (-1000) [(5, (-1)), (7, 1)], (1016, [4, 0, 1, 2, 3, 0, 1, 2, 3, 4], []), (1014, [3, 1, 2, 3, 0, 5], []), sp (-1) [(4, 1), (0, (-1))], sp (-1) [(1, 1)], sp 1 [(1, (-1))], sp (-37) [(5, 1)], sp 39 [(5, (-1))], sp (-1000) [(7, 1), (5, (-1))], sp 1000 [(5, 1), (7, (-1))], sp 0 [(6, 1), (2, (-1))], sp 0 [(2, 1), (6, (-1))], sp (-1) [(10, 1), (0, (-1))], sp 1 [(0, 1), (10, (-1))], sp (-1) [(11, 1)], sp 1 [(11, (-1))], sp (-1) [(12, 1), (2, (-1))], sp 1 [(2, 1), (12, (-1))], sp 0 [(13, 1), (3, (-1))], sp 0 [(3, 1), (13, (-1))]], [(1016, [4, 4, 1, 2, 3, 10, 11, 12, 13, 4], [])])
theorem q_evU2_ok : RlOk q_evU2 := by
  intro fs zs h x hx
  obtain ⟨H0, h⟩ := snAll h
  replace H0 := s_wr.mp H0
  obtain ⟨H1, h⟩ := snAll h
  replace H1 := sp_2.mp H1
  obtain ⟨H2, h⟩ := snAll h
  replace H2 := sp_2.mp H2
  obtain ⟨H3, h⟩ := snAll h
  replace H3 := s_ev.mp H3
  obtain ⟨H4, h⟩ := snAll h
  replace H4 := s_chr.mp H4
  obtain ⟨H5, h⟩ := snAll h
  replace H5 := sp_2.mp H5
  obtain ⟨H6, h⟩ := snAll h
  replace H6 := sp_1.mp H6
  obtain ⟨H7, h⟩ := snAll h
  replace H7 := sp_1.mp H7
  obtain ⟨H8, h⟩ := snAll h
  replace H8 := sp_1.mp H8
  obtain ⟨H9, h⟩ := snAll h
  replace H9 := sp_1.mp H9
  obtain ⟨H10, h⟩ := snAll h
  replace H10 := sp_2.mp H10
  obtain ⟨H11, h⟩ := snAll h
  replace H11 := sp_2.mp H11
  obtain ⟨H12, h⟩ := snAll h
  replace H12 := sp_2.mp H12
  obtain ⟨H13, h⟩ := snAll h
  replace H13 := sp_2.mp H13
  obtain ⟨H14, h⟩ := snAll h
  replace H14 := sp_2.mp H14
  obtain ⟨H15, h⟩ := snAll h
  replace H15 := sp_2.mp H15
  obtain ⟨H16, h⟩ := snAll h
  replace H16 := sp_1.mp H16
  obtain ⟨H17, h⟩ := snAll h
  replace H17 := sp_1.mp H17
  obtain ⟨H18, h⟩ := snAll h
  replace H18 := sp_2.mp H18
  obtain ⟨H19, h⟩ := snAll h
  replace H19 := sp_2.mp H19
  obtain ⟨H20, h⟩ := snAll h
  replace H20 := sp_2.mp H20
  obtain ⟨H21, h⟩ := snAll h
  replace H21 := sp_2.mp H21
  rcases List.mem_cons.mp hx with hx | hx
  · rw [hx]; refine s_ev.mpr ?_
    have e1 : nthZ zs 1 = 1 := by omega
    rw [e1] at H3; have e10 : nthZ zs 10 = nthZ zs 0 + 1 := by omega
    have e11 : nthZ zs 11 = 1 := by omega
    have e12 : nthZ zs 12 = nthZ zs 2 + 1 := by omega
    have e13 : nthZ zs 13 = nthZ zs 3 := by omega
    rw [e10, e11, e12, e13]; exact ev_un H3 (by omega) (by omega) (by omega) (by omega) (by rw [H0, if_pos (by omega)]; omega) (fun i hi => by rw [H0, if_neg (by omega)])
  · cases hx
def q_evU3 : qRl := ([(2, [4, 0, 6, 7], []), sp 1000 [(5, 1), (7, (-1))], sp (-1000) [(5, (-1)), (7, 1)], (1016, [4, 0, 1, 2, 3, 0, 1, 2, 3, 4], []), (1014, [3, 1, 2, 3, 0, 5], []), sp (-1) [(4, 1), (0, (-1))], sp (-1) [(1, 1)], sp 1 [(1, (-1))], sp (-41) [(5, 1)], sp 2147483647 [(5, (-1))], sp (-1000) [(7, 1), (5, (-1))], sp 1000 [(5, 1), (7, (-1))], sp 0 [(6, 1), (2, (-1))], sp 0 [(2, 1), (6, (-1))], sp (-1) [(10, 1), (0, (-1))], sp 1 [(0, 1), (10, (-1))], sp (-1) [(11, 1)], sp 1 [(11, (-1))], sp (-1) [(12, 1), (2, (-1))], sp 1 [(2, 1), (12, (-1))], sp 0 [(13, 1), (3, (-1))], sp 0 [(3, 1), (13, (-1))]], [(1016, [4, 4, 1, 2, 3, 10, 11, 12, 13, 4], [])])
theorem q_evU3_ok : RlOk q_evU3 := by
  intro fs zs h x hx
  obtain ⟨H0, h⟩ := snAll h
  replace H0 := s_wr.mp H0
  obtain ⟨H1, h⟩ := snAll h
  replace H1 := sp_2.mp H1
  obtain ⟨H2, h⟩ := snAll h
  replace H2 := sp_2.mp H2
  obtain ⟨H3, h⟩ := snAll h
  replace H3 := s_ev.mp H3
  obtain ⟨H4, h⟩ := snAll h
  replace H4 := s_chr.mp H4
  obtain ⟨H5, h⟩ := snAll h
  replace H5 := sp_2.mp H5
  obtain ⟨H6, h⟩ := snAll h
  replace H6 := sp_1.mp H6
  obtain ⟨H7, h⟩ := snAll h
  replace H7 := sp_1.mp H7
  obtain ⟨H8, h⟩ := snAll h
  replace H8 := sp_1.mp H8
  obtain ⟨H9, h⟩ := snAll h
  replace H9 := sp_1.mp H9
  obtain ⟨H10, h⟩ := snAll h
  replace H10 := sp_2.mp H10
  obtain ⟨H11, h⟩ := snAll h
  replace H11 := sp_2.mp H11
  obtain ⟨H12, h⟩ := snAll h
  replace H12 := sp_2.mp H12
  obtain ⟨H13, h⟩ := snAll h
  replace H13 := sp_2.mp H13
  obtain ⟨H14, h⟩ := snAll h
  replace H14 := sp_2.mp H14
  obtain ⟨H15, h⟩ := snAll h
  replace H15 := sp_2.mp H15
  obtain ⟨H16, h⟩ := snAll h
  replace H16 := sp_1.mp H16
  obtain ⟨H17, h⟩ := snAll h
  replace H17 := sp_1.mp H17
  obtain ⟨H18, h⟩ := snAll h
  replace H18 := sp_2.mp H18
  obtain ⟨H19, h⟩ := snAll h
  replace H19 := sp_2.mp H19
  obtain ⟨H20, h⟩ := snAll h
  replace H20 := sp_2.mp H20
  obtain ⟨H21, h⟩ := snAll h
  replace H21 := sp_2.mp H21
  rcases List.mem_cons.mp hx with hx | hx
  · rw [hx]; refine s_ev.mpr ?_
    have e1 : nthZ zs 1 = 1 := by omega
    rw [e1] at H3; have e10 : nthZ zs 10 = nthZ zs 0 + 1 := by omega
    have e11 : nthZ zs 11 = 1 := by omega
    have e12 : nthZ zs 12 = nthZ zs 2 + 1 := by omega
    have e13 : nthZ zs 13 = nthZ zs 3 := by omega
    rw [e10, e11, e12, e13]; exact ev_un H3 (by omega) (by omega) (by omega) (by omega) (by rw [H0, if_pos (by omega)]; omega) (fun i hi => by rw [H0, if_neg (by omega)])
  · cases hx
def q_lf0 : qRl := ([sp 0 [(1, (-1))]], [(1017, [0, 0, 1], [])])
theorem q_lf0_ok : RlOk q_lf0 := by
  intro fs zs h x hx
  obtain ⟨H0, h⟩ := snAll h
  replace H0 := sp_1.mp H0
  rcases List.mem_cons.mp hx with hx | hx
  · rw [hx]; refine s_lf.mpr ?_; omega
  · cases hx
def q_lf1 : qRl := ([sp 0 [(0, (-1))], sp 0 [(0, 1)]], [(1017, [0, 0, 1], [])])
theorem q_lf1_ok : RlOk q_lf1 := by
  intro fs zs h x hx
  obtain ⟨H0, h⟩ := snAll h
  replace H0 := sp_1.mp H0
  obtain ⟨H1, h⟩ := snAll h
  replace H1 := sp_1.mp H1
  rcases List.mem_cons.mp hx with hx | hx
  · rw [hx]; refine s_lf.mpr ?_; omega
  · cases hx
def q_lf2 : qRl := ([sp (-36) [(0, 1)], sp 36 [(0, (-1))]], [(1017, [0, 0, 1], [])])
theorem q_lf2_ok : RlOk q_lf2 := by
  intro fs zs h x hx
  obtain ⟨H0, h⟩ := snAll h
  replace H0 := sp_1.mp H0
  obtain ⟨H1, h⟩ := snAll h
  replace H1 := sp_1.mp H1
  rcases List.mem_cons.mp hx with hx | hx
  · rw [hx]; refine s_lf.mpr ?_; omega
  · cases hx
def q_ncl0 : qRl := ([sp 40 [(0, (-1))]], [(1018, [0, 0], [])])
theorem q_ncl0_ok : RlOk q_ncl0 := by
  intro fs zs h x hx
  obtain ⟨H0, h⟩ := snAll h
  replace H0 := sp_1.mp H0
  rcases List.mem_cons.mp hx with hx | hx
  · rw [hx]; refine s_ncl.mpr ?_; omega
  · cases hx
def q_ncl1 : qRl := ([sp (-42) [(0, 1)]], [(1018, [0, 0], [])])
theorem q_ncl1_ok : RlOk q_ncl1 := by
  intro fs zs h x hx
  obtain ⟨H0, h⟩ := snAll h
  replace H0 := sp_1.mp H0
  rcases List.mem_cons.mp hx with hx | hx
  · rw [hx]; refine s_ncl.mpr ?_; omega
  · cases hx
def q_evL : qRl := ([(1016, [4, 0, 1, 2, 3, 0, 1, 2, 3, 4], []), (1014, [3, 1, 2, 3, 0, 5], []), sp (-1) [(4, 1), (0, (-1))], (1017, [0, 5, 1], []), sp (-1) [(1, 1)], sp 1 [(1, (-1))], sp (-1) [(10, 1), (0, (-1))], sp 1 [(0, 1), (10, (-1))], sp 0 [(11, 1)], sp 0 [(11, (-1))], sp 0 [(12, 1), (2, (-1))], sp 0 [(2, 1), (12, (-1))], sp (-1) [(13, 1), (3, (-1))], sp 1 [(3, 1), (13, (-1))]], [(1016, [4, 0, 1, 2, 3, 10, 11, 12, 13, 4], [])])
theorem q_evL_ok : RlOk q_evL := by
  intro fs zs h x hx
  obtain ⟨H0, h⟩ := snAll h
  replace H0 := s_ev.mp H0
  obtain ⟨H1, h⟩ := snAll h
  replace H1 := s_chr.mp H1
  obtain ⟨H2, h⟩ := snAll h
  replace H2 := sp_2.mp H2
  obtain ⟨H3, h⟩ := snAll h
  replace H3 := s_lf.mp H3
  obtain ⟨H4, h⟩ := snAll h
  replace H4 := sp_1.mp H4
  obtain ⟨H5, h⟩ := snAll h
  replace H5 := sp_1.mp H5
  obtain ⟨H6, h⟩ := snAll h
  replace H6 := sp_2.mp H6
  obtain ⟨H7, h⟩ := snAll h
  replace H7 := sp_2.mp H7
  obtain ⟨H8, h⟩ := snAll h
  replace H8 := sp_1.mp H8
  obtain ⟨H9, h⟩ := snAll h
  replace H9 := sp_1.mp H9
  obtain ⟨H10, h⟩ := snAll h
  replace H10 := sp_2.mp H10
  obtain ⟨H11, h⟩ := snAll h
  replace H11 := sp_2.mp H11
  obtain ⟨H12, h⟩ := snAll h
  replace H12 := sp_2.mp H12
  obtain ⟨H13, h⟩ := snAll h
  replace H13 := sp_2.mp H13
  rcases List.mem_cons.mp hx with hx | hx
  · rw [hx]; refine s_ev.mpr ?_
    have e1 : nthZ zs 1 = 1 := by omega
    rw [e1] at H0; have e10 : nthZ zs 10 = nthZ zs 0 + 1 := by omega
    have e11 : nthZ zs 11 = 0 := by omega
    have e12 : nthZ zs 12 = nthZ zs 2 := by omega
    have e13 : nthZ zs 13 = nthZ zs 3 + 1 := by omega
    rw [e10, e11, e12, e13]; exact ev_leaf H0 (by omega) (by omega)
  · cases hx
def q_evP : qRl := ([(1016, [4, 0, 1, 2, 3, 0, 1, 2, 3, 4], []), (1014, [3, 1, 2, 3, 0, 5], []), sp (-1) [(4, 1), (0, (-1))], sp 0 [(1, 1)], sp 0 [(1, (-1))], sp (-41) [(5, 1)], sp 41 [(5, (-1))], sp 1 [(8, 1), (2, (-1))], sp (-1) [(8, (-1)), (2, 1)], (1, [0, 8, 7], []), sp (-40) [(7, 1)], sp 40 [(7, (-1))], sp (-1) [(10, 1), (0, (-1))], sp 1 [(0, 1), (10, (-1))], sp 0 [(11, 1)], sp 0 [(11, (-1))], sp 1 [(12, 1), (2, (-1))], sp (-1) [(2, 1), (12, (-1))], sp 0 [(13, 1), (3, (-1))], sp 0 [(3, 1), (13, (-1))]], [(1016, [4, 0, 1, 2, 3, 10, 11, 12, 13, 4], [])])
theorem q_evP_ok : RlOk q_evP := by
  intro fs zs h x hx
  obtain ⟨H0, h⟩ := snAll h
  replace H0 := s_ev.mp H0
  obtain ⟨H1, h⟩ := snAll h
  replace H1 := s_chr.mp H1
  obtain ⟨H2, h⟩ := snAll h
  replace H2 := sp_2.mp H2
  obtain ⟨H3, h⟩ := snAll h
  replace H3 := sp_1.mp H3
  obtain ⟨H4, h⟩ := snAll h
  replace H4 := sp_1.mp H4
  obtain ⟨H5, h⟩ := snAll h
  replace H5 := sp_1.mp H5
  obtain ⟨H6, h⟩ := snAll h
  replace H6 := sp_1.mp H6
  obtain ⟨H7, h⟩ := snAll h
  replace H7 := sp_2.mp H7
  obtain ⟨H8, h⟩ := snAll h
  replace H8 := sp_2.mp H8
  obtain ⟨H9, h⟩ := snAll h
  replace H9 := s_rd.mp H9
  obtain ⟨H10, h⟩ := snAll h
  replace H10 := sp_1.mp H10
  obtain ⟨H11, h⟩ := snAll h
  replace H11 := sp_1.mp H11
  obtain ⟨H12, h⟩ := snAll h
  replace H12 := sp_2.mp H12
  obtain ⟨H13, h⟩ := snAll h
  replace H13 := sp_2.mp H13
  obtain ⟨H14, h⟩ := snAll h
  replace H14 := sp_1.mp H14
  obtain ⟨H15, h⟩ := snAll h
  replace H15 := sp_1.mp H15
  obtain ⟨H16, h⟩ := snAll h
  replace H16 := sp_2.mp H16
  obtain ⟨H17, h⟩ := snAll h
  replace H17 := sp_2.mp H17
  obtain ⟨H18, h⟩ := snAll h
  replace H18 := sp_2.mp H18
  obtain ⟨H19, h⟩ := snAll h
  replace H19 := sp_2.mp H19
  rcases List.mem_cons.mp hx with hx | hx
  · rw [hx]; refine s_ev.mpr ?_
    have e1 : nthZ zs 1 = 0 := by omega
    rw [e1] at H0; have e10 : nthZ zs 10 = nthZ zs 0 + 1 := by omega
    have e11 : nthZ zs 11 = 0 := by omega
    have e12 : nthZ zs 12 = nthZ zs 2 - 1 := by omega
    have e13 : nthZ zs 13 = nthZ zs 3 := by omega
    rw [e10, e11, e12, e13]; exact ev_pop H0 (by omega) (by omega) (by rw [show nthZ zs 2 - 1 = nthZ zs 8 by omega, H9]; omega)
  · cases hx
def q_evB : qRl := ([(2, [4, 0, 6, 7], []), sp 0 [(5, 1), (7, (-1))], sp 0 [(5, (-1)), (7, 1)], (1016, [4, 0, 1, 2, 3, 0, 1, 2, 3, 4], []), (1014, [3, 1, 2, 3, 0, 5], []), sp (-1) [(4, 1), (0, (-1))], sp 0 [(1, 1)], sp 0 [(1, (-1))], (1018, [0, 5], []), sp 0 [(7, 1), (5, (-1))], sp 0 [(5, 1), (7, (-1))], sp 0 [(6, 1), (2, (-1))], sp 0 [(2, 1), (6, (-1))], sp (-1) [(10, 1), (0, (-1))], sp 1 [(0, 1), (10, (-1))], sp (-1) [(11, 1)], sp 1 [(11, (-1))], sp (-1) [(12, 1), (2, (-1))], sp 1 [(2, 1), (12, (-1))], sp 0 [(13, 1), (3, (-1))], sp 0 [(3, 1), (13, (-1))]], [(1016, [4, 4, 1, 2, 3, 10, 11, 12, 13, 4], [])])
theorem q_evB_ok : RlOk q_evB := by
  intro fs zs h x hx
  obtain ⟨H0, h⟩ := snAll h
  replace H0 := s_wr.mp H0
  obtain ⟨H1, h⟩ := snAll h
  replace H1 := sp_2.mp H1
  obtain ⟨H2, h⟩ := snAll h
  replace H2 := sp_2.mp H2
  obtain ⟨H3, h⟩ := snAll h
  replace H3 := s_ev.mp H3
  obtain ⟨H4, h⟩ := snAll h
  replace H4 := s_chr.mp H4
  obtain ⟨H5, h⟩ := snAll h
  replace H5 := sp_2.mp H5
  obtain ⟨H6, h⟩ := snAll h
  replace H6 := sp_1.mp H6
  obtain ⟨H7, h⟩ := snAll h
  replace H7 := sp_1.mp H7
  obtain ⟨H8, h⟩ := snAll h
  replace H8 := s_ncl.mp H8
  obtain ⟨H9, h⟩ := snAll h
  replace H9 := sp_2.mp H9
  obtain ⟨H10, h⟩ := snAll h
  replace H10 := sp_2.mp H10
  obtain ⟨H11, h⟩ := snAll h
  replace H11 := sp_2.mp H11
  obtain ⟨H12, h⟩ := snAll h
  replace H12 := sp_2.mp H12
  obtain ⟨H13, h⟩ := snAll h
  replace H13 := sp_2.mp H13
  obtain ⟨H14, h⟩ := snAll h
  replace H14 := sp_2.mp H14
  obtain ⟨H15, h⟩ := snAll h
  replace H15 := sp_1.mp H15
  obtain ⟨H16, h⟩ := snAll h
  replace H16 := sp_1.mp H16
  obtain ⟨H17, h⟩ := snAll h
  replace H17 := sp_2.mp H17
  obtain ⟨H18, h⟩ := snAll h
  replace H18 := sp_2.mp H18
  obtain ⟨H19, h⟩ := snAll h
  replace H19 := sp_2.mp H19
  obtain ⟨H20, h⟩ := snAll h
  replace H20 := sp_2.mp H20
  rcases List.mem_cons.mp hx with hx | hx
  · rw [hx]; refine s_ev.mpr ?_
    have e1 : nthZ zs 1 = 0 := by omega
    rw [e1] at H3; have e10 : nthZ zs 10 = nthZ zs 0 + 1 := by omega
    have e11 : nthZ zs 11 = 1 := by omega
    have e12 : nthZ zs 12 = nthZ zs 2 + 1 := by omega
    have e13 : nthZ zs 13 = nthZ zs 3 := by omega
    rw [e10, e11, e12, e13]; exact ev_bin H3 (by omega) (by omega) (by rw [H0, if_pos (by omega)]; omega) (fun i hi => by rw [H0, if_neg (by omega)])
  · cases hx
def q_evR1 : qRl := ([(1016, [4, 0, 1, 2, 3, 0, 1, 2, 3, 4], []), sp 1 [(8, 1), (2, (-1))], sp (-1) [(8, (-1)), (2, 1)], (1, [0, 8, 7], []), sp (-1) [(2, 1)], sp (-1001) [(7, 1)], sp 0 [(1, 1)], sp 0 [(1, (-1))], sp 0 [(10, 1), (0, (-1))], sp 0 [(0, 1), (10, (-1))], sp 0 [(11, 1)], sp 0 [(11, (-1))], sp 1 [(12, 1), (2, (-1))], sp (-1) [(2, 1), (12, (-1))], sp 0 [(13, 1), (3, (-1))], sp 0 [(3, 1), (13, (-1))]], [(1016, [4, 0, 1, 2, 3, 10, 11, 12, 13, 4], [])])
theorem q_evR1_ok : RlOk q_evR1 := by
  intro fs zs h x hx
  obtain ⟨H0, h⟩ := snAll h
  replace H0 := s_ev.mp H0
  obtain ⟨H1, h⟩ := snAll h
  replace H1 := sp_2.mp H1
  obtain ⟨H2, h⟩ := snAll h
  replace H2 := sp_2.mp H2
  obtain ⟨H3, h⟩ := snAll h
  replace H3 := s_rd.mp H3
  obtain ⟨H4, h⟩ := snAll h
  replace H4 := sp_1.mp H4
  obtain ⟨H5, h⟩ := snAll h
  replace H5 := sp_1.mp H5
  obtain ⟨H6, h⟩ := snAll h
  replace H6 := sp_1.mp H6
  obtain ⟨H7, h⟩ := snAll h
  replace H7 := sp_1.mp H7
  obtain ⟨H8, h⟩ := snAll h
  replace H8 := sp_2.mp H8
  obtain ⟨H9, h⟩ := snAll h
  replace H9 := sp_2.mp H9
  obtain ⟨H10, h⟩ := snAll h
  replace H10 := sp_1.mp H10
  obtain ⟨H11, h⟩ := snAll h
  replace H11 := sp_1.mp H11
  obtain ⟨H12, h⟩ := snAll h
  replace H12 := sp_2.mp H12
  obtain ⟨H13, h⟩ := snAll h
  replace H13 := sp_2.mp H13
  obtain ⟨H14, h⟩ := snAll h
  replace H14 := sp_2.mp H14
  obtain ⟨H15, h⟩ := snAll h
  replace H15 := sp_2.mp H15
  rcases List.mem_cons.mp hx with hx | hx
  · rw [hx]; refine s_ev.mpr ?_
    have e10 : nthZ zs 10 = nthZ zs 0 := by omega
    have e11 : nthZ zs 11 = nthZ zs 1 := by omega
    have e12 : nthZ zs 12 = nthZ zs 2 - 1 := by omega
    have e13 : nthZ zs 13 = nthZ zs 3 := by omega
    rw [e10, e11, e12, e13]; exact ev_red_un H0 (by omega) (by rw [show nthZ zs 2 - 1 = nthZ zs 8 by omega, H3]; omega)
  · cases hx
def q_evR2 : qRl := ([(1016, [4, 0, 1, 2, 3, 0, 1, 2, 3, 4], []), sp 1 [(8, 1), (2, (-1))], sp (-1) [(8, (-1)), (2, 1)], (1, [0, 8, 7], []), sp (-1) [(2, 1)], sp 2147483648 [(7, 1)], sp 39 [(7, (-1))], sp 0 [(1, 1)], sp 0 [(1, (-1))], sp 0 [(10, 1), (0, (-1))], sp 0 [(0, 1), (10, (-1))], sp 0 [(11, 1)], sp 0 [(11, (-1))], sp 1 [(12, 1), (2, (-1))], sp (-1) [(2, 1), (12, (-1))], sp 1 [(13, 1), (3, (-1))], sp (-1) [(3, 1), (13, (-1))]], [(1016, [4, 0, 1, 2, 3, 10, 11, 12, 13, 4], [])])
theorem q_evR2_ok : RlOk q_evR2 := by
  intro fs zs h x hx
  obtain ⟨H0, h⟩ := snAll h
  replace H0 := s_ev.mp H0
  obtain ⟨H1, h⟩ := snAll h
  replace H1 := sp_2.mp H1
  obtain ⟨H2, h⟩ := snAll h
  replace H2 := sp_2.mp H2
  obtain ⟨H3, h⟩ := snAll h
  replace H3 := s_rd.mp H3
  obtain ⟨H4, h⟩ := snAll h
  replace H4 := sp_1.mp H4
  obtain ⟨H5, h⟩ := snAll h
  replace H5 := sp_1.mp H5
  obtain ⟨H6, h⟩ := snAll h
  replace H6 := sp_1.mp H6
  obtain ⟨H7, h⟩ := snAll h
  replace H7 := sp_1.mp H7
  obtain ⟨H8, h⟩ := snAll h
  replace H8 := sp_1.mp H8
  obtain ⟨H9, h⟩ := snAll h
  replace H9 := sp_2.mp H9
  obtain ⟨H10, h⟩ := snAll h
  replace H10 := sp_2.mp H10
  obtain ⟨H11, h⟩ := snAll h
  replace H11 := sp_1.mp H11
  obtain ⟨H12, h⟩ := snAll h
  replace H12 := sp_1.mp H12
  obtain ⟨H13, h⟩ := snAll h
  replace H13 := sp_2.mp H13
  obtain ⟨H14, h⟩ := snAll h
  replace H14 := sp_2.mp H14
  obtain ⟨H15, h⟩ := snAll h
  replace H15 := sp_2.mp H15
  obtain ⟨H16, h⟩ := snAll h
  replace H16 := sp_2.mp H16
  rcases List.mem_cons.mp hx with hx | hx
  · rw [hx]; refine s_ev.mpr ?_
    have e10 : nthZ zs 10 = nthZ zs 0 := by omega
    have e11 : nthZ zs 11 = nthZ zs 1 := by omega
    have e12 : nthZ zs 12 = nthZ zs 2 - 1 := by omega
    have e13 : nthZ zs 13 = nthZ zs 3 - 1 := by omega
    rw [e10, e11, e12, e13]; exact ev_red_bi H0 (by omega) (by rw [show nthZ zs 2 - 1 = nthZ zs 8 by omega, H3]; omega) (by rw [show nthZ zs 2 - 1 = nthZ zs 8 by omega, H3]; omega)
  · cases hx
def q_evR3 : qRl := ([(1016, [4, 0, 1, 2, 3, 0, 1, 2, 3, 4], []), sp 1 [(8, 1), (2, (-1))], sp (-1) [(8, (-1)), (2, 1)], (1, [0, 8, 7], []), sp (-1) [(2, 1)], sp (-41) [(7, 1)], sp 1000 [(7, (-1))], sp 0 [(1, 1)], sp 0 [(1, (-1))], sp 0 [(10, 1), (0, (-1))], sp 0 [(0, 1), (10, (-1))], sp 0 [(11, 1)], sp 0 [(11, (-1))], sp 1 [(12, 1), (2, (-1))], sp (-1) [(2, 1), (12, (-1))], sp 1 [(13, 1), (3, (-1))], sp (-1) [(3, 1), (13, (-1))]], [(1016, [4, 0, 1, 2, 3, 10, 11, 12, 13, 4], [])])
theorem q_evR3_ok : RlOk q_evR3 := by
  intro fs zs h x hx
  obtain ⟨H0, h⟩ := snAll h
  replace H0 := s_ev.mp H0
  obtain ⟨H1, h⟩ := snAll h
  replace H1 := sp_2.mp H1
  obtain ⟨H2, h⟩ := snAll h
  replace H2 := sp_2.mp H2
  obtain ⟨H3, h⟩ := snAll h
  replace H3 := s_rd.mp H3
  obtain ⟨H4, h⟩ := snAll h
  replace H4 := sp_1.mp H4
  obtain ⟨H5, h⟩ := snAll h
  replace H5 := sp_1.mp H5
  obtain ⟨H6, h⟩ := snAll h
  replace H6 := sp_1.mp H6
  obtain ⟨H7, h⟩ := snAll h
  replace H7 := sp_1.mp H7
  obtain ⟨H8, h⟩ := snAll h
  replace H8 := sp_1.mp H8
  obtain ⟨H9, h⟩ := snAll h
  replace H9 := sp_2.mp H9
  obtain ⟨H10, h⟩ := snAll h
  replace H10 := sp_2.mp H10
  obtain ⟨H11, h⟩ := snAll h
  replace H11 := sp_1.mp H11
  obtain ⟨H12, h⟩ := snAll h
  replace H12 := sp_1.mp H12
  obtain ⟨H13, h⟩ := snAll h
  replace H13 := sp_2.mp H13
  obtain ⟨H14, h⟩ := snAll h
  replace H14 := sp_2.mp H14
  obtain ⟨H15, h⟩ := snAll h
  replace H15 := sp_2.mp H15
  obtain ⟨H16, h⟩ := snAll h
  replace H16 := sp_2.mp H16
  rcases List.mem_cons.mp hx with hx | hx
  · rw [hx]; refine s_ev.mpr ?_
    have e10 : nthZ zs 10 = nthZ zs 0 := by omega
    have e11 : nthZ zs 11 = nthZ zs 1 := by omega
    have e12 : nthZ zs 12 = nthZ zs 2 - 1 := by omega
    have e13 : nthZ zs 13 = nthZ zs 3 - 1 := by omega
    rw [e10, e11, e12, e13]; exact ev_red_bi H0 (by omega) (by rw [show nthZ zs 2 - 1 = nthZ zs 8 by omega, H3]; omega) (by rw [show nthZ zs 2 - 1 = nthZ zs 8 by omega, H3]; omega)
  · cases hx
def q_evl1 : qRl := ([(1016, [4, 0, 1, 2, 3, 0, 1, 2, 3, 4], []), (1014, [3, 1, 2, 3, 0, 5], []), sp (-1) [(4, 1), (0, (-1))], sp (-1) [(1, 1)], sp 1 [(1, (-1))], sp 0 [(5, 1)], sp 0 [(5, (-1))], (1, [1, 0, 6], [])], [sp 0 [(6, 1)]])
theorem q_evl1_ok : RlOk q_evl1 := by
  intro fs zs h x hx
  obtain ⟨H0, h⟩ := snAll h
  replace H0 := s_ev.mp H0
  obtain ⟨H1, h⟩ := snAll h
  replace H1 := s_chr.mp H1
  obtain ⟨H2, h⟩ := snAll h
  replace H2 := sp_2.mp H2
  obtain ⟨H3, h⟩ := snAll h
  replace H3 := sp_1.mp H3
  obtain ⟨H4, h⟩ := snAll h
  replace H4 := sp_1.mp H4
  obtain ⟨H5, h⟩ := snAll h
  replace H5 := sp_1.mp H5
  obtain ⟨H6, h⟩ := snAll h
  replace H6 := sp_1.mp H6
  obtain ⟨H7, h⟩ := snAll h
  replace H7 := s_rd.mp H7
  rcases List.mem_cons.mp hx with hx | hx
  · rw [hx]; refine sp_1.mpr ?_
    have e1 : nthZ zs 1 = 1 := by omega
    rw [e1] at H0; have q := ev_leaf_tok H0 (by omega) (by omega); rw [H7] at q; omega
  · cases hx
def q_evl2 : qRl := ([(1016, [4, 0, 1, 2, 3, 0, 1, 2, 3, 4], []), (1014, [3, 1, 2, 3, 0, 5], []), sp (-1) [(4, 1), (0, (-1))], sp (-1) [(1, 1)], sp 1 [(1, (-1))], sp 0 [(5, 1)], sp 0 [(5, (-1))], (1, [1, 0, 6], []), (1, [2, 6, 7], [])], [sp (-1) [(7, 1)], sp 2 [(7, (-1))]])
theorem q_evl2_ok : RlOk q_evl2 := by
  intro fs zs h x hx
  obtain ⟨H0, h⟩ := snAll h
  replace H0 := s_ev.mp H0
  obtain ⟨H1, h⟩ := snAll h
  replace H1 := s_chr.mp H1
  obtain ⟨H2, h⟩ := snAll h
  replace H2 := sp_2.mp H2
  obtain ⟨H3, h⟩ := snAll h
  replace H3 := sp_1.mp H3
  obtain ⟨H4, h⟩ := snAll h
  replace H4 := sp_1.mp H4
  obtain ⟨H5, h⟩ := snAll h
  replace H5 := sp_1.mp H5
  obtain ⟨H6, h⟩ := snAll h
  replace H6 := sp_1.mp H6
  obtain ⟨H7, h⟩ := snAll h
  replace H7 := s_rd.mp H7
  obtain ⟨H8, h⟩ := snAll h
  replace H8 := s_rd.mp H8
  rcases List.mem_cons.mp hx with hx | hx
  · rw [hx]; refine sp_1.mpr ?_
    have e1 : nthZ zs 1 = 1 := by omega
    rw [e1] at H0; have q := ev_leaf_tok H0 (by omega) (by omega); rw [H7, H8] at q; omega
  rcases List.mem_cons.mp hx with hx | hx
  · rw [hx]; refine sp_1.mpr ?_
    have e1 : nthZ zs 1 = 1 := by omega
    rw [e1] at H0; have q := ev_leaf_tok H0 (by omega) (by omega); rw [H7, H8] at q; omega
  · cases hx
def q_evb : qRl := ([(1016, [4, 0, 1, 2, 3, 0, 1, 2, 3, 4], []), (1014, [3, 1, 2, 3, 0, 5], []), sp (-1) [(4, 1), (0, (-1))], sp 0 [(1, 1)], sp 0 [(1, (-1))], sp (-41) [(5, 1)], sp 41 [(5, (-1))]], [sp (-1) [(2, 1)]])
theorem q_evb_ok : RlOk q_evb := by
  intro fs zs h x hx
  obtain ⟨H0, h⟩ := snAll h
  replace H0 := s_ev.mp H0
  obtain ⟨H1, h⟩ := snAll h
  replace H1 := s_chr.mp H1
  obtain ⟨H2, h⟩ := snAll h
  replace H2 := sp_2.mp H2
  obtain ⟨H3, h⟩ := snAll h
  replace H3 := sp_1.mp H3
  obtain ⟨H4, h⟩ := snAll h
  replace H4 := sp_1.mp H4
  obtain ⟨H5, h⟩ := snAll h
  replace H5 := sp_1.mp H5
  obtain ⟨H6, h⟩ := snAll h
  replace H6 := sp_1.mp H6
  rcases List.mem_cons.mp hx with hx | hx
  · rw [hx]; refine sp_1.mpr ?_
    have e1 : nthZ zs 1 = 0 := by omega
    rw [e1] at H0; have q := ev_close H0 (by omega) (by omega); omega
  · cases hx
def q_evv : qRl := ([(1016, [4, 0, 1, 2, 3, 0, 1, 2, 3, 4], []), sp 0 [(1, 1)], sp 0 [(1, (-1))]], [sp (-1) [(3, 1)]])
theorem q_evv_ok : RlOk q_evv := by
  intro fs zs h x hx
  obtain ⟨H0, h⟩ := snAll h
  replace H0 := s_ev.mp H0
  obtain ⟨H1, h⟩ := snAll h
  replace H1 := sp_1.mp H1
  obtain ⟨H2, h⟩ := snAll h
  replace H2 := sp_1.mp H2
  rcases List.mem_cons.mp hx with hx | hx
  · rw [hx]; refine sp_1.mpr ?_
    have e1 : nthZ zs 1 = 0 := by omega
    rw [e1] at H0; have q := ev_val H0; omega
  · cases hx
def q_eve : qRl := ([(1016, [4, 0, 1, 2, 3, 0, 1, 2, 3, 4], []), sp 0 [(0, 1), (4, (-1))]], [sp 0 [(1, (-1))]])
theorem q_eve_ok : RlOk q_eve := by
  intro fs zs h x hx
  obtain ⟨H0, h⟩ := snAll h
  replace H0 := s_ev.mp H0
  obtain ⟨H1, h⟩ := snAll h
  replace H1 := sp_2.mp H1
  rcases List.mem_cons.mp hx with hx | hx
  · rw [hx]; refine sp_1.mpr ?_; have q := ev_end H0 (by omega); omega
  · cases hx
def q_evn : qRl := ([(1016, [4, 0, 1, 2, 3, 0, 1, 2, 3, 4], [])], [sp 0 [(2, 1)]])
theorem q_evn_ok : RlOk q_evn := by
  intro fs zs h x hx
  obtain ⟨H0, h⟩ := snAll h
  replace H0 := s_ev.mp H0
  rcases List.mem_cons.mp hx with hx | hx
  · rw [hx]; refine sp_1.mpr ?_; have q := ev_ops H0; omega
  · cases hx
def q_evg1 : qRl := ([(1016, [4, 0, 1, 2, 3, 0, 1, 2, 3, 4], []), sp 0 [(0, 1), (4, (-1))], sp (-1) [(2, 1)], sp 1 [(8, 1), (2, (-1))], sp (-1) [(2, 1), (8, (-1))], sp 0 [(9, 1), (2, (-1))], sp 0 [(2, 1), (9, (-1))], sp (-1001) [(14, 1)], sp 1001 [(14, (-1))], sp 2 [(15, 1), (3, (-1))], sp (-2) [(3, 1), (15, (-1))]], [(19, [1, 0, 8, 9, 14, 15], [])])
theorem q_evg1_ok : RlOk q_evg1 := by
  intro fs zs h x hx
  obtain ⟨H0, h⟩ := snAll h
  replace H0 := s_ev.mp H0
  obtain ⟨H1, h⟩ := snAll h
  replace H1 := sp_2.mp H1
  obtain ⟨H2, h⟩ := snAll h
  replace H2 := sp_1.mp H2
  obtain ⟨H3, h⟩ := snAll h
  replace H3 := sp_2.mp H3
  obtain ⟨H4, h⟩ := snAll h
  replace H4 := sp_2.mp H4
  obtain ⟨H5, h⟩ := snAll h
  replace H5 := sp_2.mp H5
  obtain ⟨H6, h⟩ := snAll h
  replace H6 := sp_2.mp H6
  obtain ⟨H7, h⟩ := snAll h
  replace H7 := sp_1.mp H7
  obtain ⟨H8, h⟩ := snAll h
  replace H8 := sp_1.mp H8
  obtain ⟨H9, h⟩ := snAll h
  replace H9 := sp_2.mp H9
  obtain ⟨H10, h⟩ := snAll h
  replace H10 := sp_2.mp H10
  rcases List.mem_cons.mp hx with hx | hx
  · rw [hx]; refine s_ge_or.mpr ?_
    have w0 := (ev_end H0 (by omega)).1
    have u : nthF fs 0 (nthZ zs 2 - 1) ≠ 40 := (ev_end H0 (by omega)).2 (by omega)
    rw [w0] at H0
    have v := ev_top H0 (by omega) u
    intro x a b
    rw [show x = nthZ zs 2 - 1 by omega]
    omega
  · cases hx
def q_evg2 : qRl := ([(1016, [4, 0, 1, 2, 3, 0, 1, 2, 3, 4], []), sp 0 [(1, 1)], sp 0 [(1, (-1))], sp (-1) [(2, 1)], sp 1 [(8, 1), (2, (-1))], sp (-1) [(2, 1), (8, (-1))], (1, [0, 8, 7], []), sp 2147483648 [(7, 1)], sp 39 [(7, (-1))], sp 0 [(9, 1), (2, (-1))], sp 0 [(2, 1), (9, (-1))], sp (-1001) [(14, 1)], sp 1001 [(14, (-1))], sp 2 [(15, 1), (3, (-1))], sp (-2) [(3, 1), (15, (-1))]], [(19, [1, 0, 8, 9, 14, 15], [])])
theorem q_evg2_ok : RlOk q_evg2 := by
  intro fs zs h x hx
  obtain ⟨H0, h⟩ := snAll h
  replace H0 := s_ev.mp H0
  obtain ⟨H1, h⟩ := snAll h
  replace H1 := sp_1.mp H1
  obtain ⟨H2, h⟩ := snAll h
  replace H2 := sp_1.mp H2
  obtain ⟨H3, h⟩ := snAll h
  replace H3 := sp_1.mp H3
  obtain ⟨H4, h⟩ := snAll h
  replace H4 := sp_2.mp H4
  obtain ⟨H5, h⟩ := snAll h
  replace H5 := sp_2.mp H5
  obtain ⟨H6, h⟩ := snAll h
  replace H6 := s_rd.mp H6
  obtain ⟨H7, h⟩ := snAll h
  replace H7 := sp_1.mp H7
  obtain ⟨H8, h⟩ := snAll h
  replace H8 := sp_1.mp H8
  obtain ⟨H9, h⟩ := snAll h
  replace H9 := sp_2.mp H9
  obtain ⟨H10, h⟩ := snAll h
  replace H10 := sp_2.mp H10
  obtain ⟨H11, h⟩ := snAll h
  replace H11 := sp_1.mp H11
  obtain ⟨H12, h⟩ := snAll h
  replace H12 := sp_1.mp H12
  obtain ⟨H13, h⟩ := snAll h
  replace H13 := sp_2.mp H13
  obtain ⟨H14, h⟩ := snAll h
  replace H14 := sp_2.mp H14
  rcases List.mem_cons.mp hx with hx | hx
  · rw [hx]; refine s_ge_or.mpr ?_
    have w0 : nthZ zs 1 = 0 := by omega
    have u : nthF fs 0 (nthZ zs 2 - 1) ≠ 40 := (by rw [show nthZ zs 2 - 1 = nthZ zs 8 by omega, H6]; omega)
    rw [w0] at H0
    have v := ev_top H0 (by omega) u
    intro x a b
    rw [show x = nthZ zs 2 - 1 by omega]
    omega
  · cases hx
def q_evg3 : qRl := ([(1016, [4, 0, 1, 2, 3, 0, 1, 2, 3, 4], []), sp 0 [(1, 1)], sp 0 [(1, (-1))], sp (-1) [(2, 1)], sp 1 [(8, 1), (2, (-1))], sp (-1) [(2, 1), (8, (-1))], (1, [0, 8, 7], []), sp (-41) [(7, 1)], sp 2147483647 [(7, (-1))], sp 0 [(9, 1), (2, (-1))], sp 0 [(2, 1), (9, (-1))], sp (-1001) [(14, 1)], sp 1001 [(14, (-1))], sp 2 [(15, 1), (3, (-1))], sp (-2) [(3, 1), (15, (-1))]], [(19, [1, 0, 8, 9, 14, 15], [])])
theorem q_evg3_ok : RlOk q_evg3 := by
  intro fs zs h x hx
  obtain ⟨H0, h⟩ := snAll h
  replace H0 := s_ev.mp H0
  obtain ⟨H1, h⟩ := snAll h
  replace H1 := sp_1.mp H1
  obtain ⟨H2, h⟩ := snAll h
  replace H2 := sp_1.mp H2
  obtain ⟨H3, h⟩ := snAll h
  replace H3 := sp_1.mp H3
  obtain ⟨H4, h⟩ := snAll h
  replace H4 := sp_2.mp H4
  obtain ⟨H5, h⟩ := snAll h
  replace H5 := sp_2.mp H5
  obtain ⟨H6, h⟩ := snAll h
  replace H6 := s_rd.mp H6
  obtain ⟨H7, h⟩ := snAll h
  replace H7 := sp_1.mp H7
  obtain ⟨H8, h⟩ := snAll h
  replace H8 := sp_1.mp H8
  obtain ⟨H9, h⟩ := snAll h
  replace H9 := sp_2.mp H9
  obtain ⟨H10, h⟩ := snAll h
  replace H10 := sp_2.mp H10
  obtain ⟨H11, h⟩ := snAll h
  replace H11 := sp_1.mp H11
  obtain ⟨H12, h⟩ := snAll h
  replace H12 := sp_1.mp H12
  obtain ⟨H13, h⟩ := snAll h
  replace H13 := sp_2.mp H13
  obtain ⟨H14, h⟩ := snAll h
  replace H14 := sp_2.mp H14
  rcases List.mem_cons.mp hx with hx | hx
  · rw [hx]; refine s_ge_or.mpr ?_
    have w0 : nthZ zs 1 = 0 := by omega
    have u : nthF fs 0 (nthZ zs 2 - 1) ≠ 40 := (by rw [show nthZ zs 2 - 1 = nthZ zs 8 by omega, H6]; omega)
    rw [w0] at H0
    have v := ev_top H0 (by omega) u
    intro x a b
    rw [show x = nthZ zs 2 - 1 by omega]
    omega
  · cases hx
def q_evZ : qRl := ([(1016, [4, 0, 1, 2, 3, 10, 11, 12, 13, 4], []), sp 0 [(10, 1), (4, (-1))], sp 0 [(0, 1), (10, (-1))], sp 0 [(10, 1), (0, (-1))], sp 0 [(1, 1)], sp 0 [(1, (-1))], sp 0 [(2, 1), (12, (-1))], sp 0 [(12, 1), (2, (-1))], sp 0 [(3, 1), (13, (-1))], sp 0 [(13, 1), (3, (-1))]], [(1016, [4, 0, 1, 2, 3, 0, 1, 2, 3, 4], [])])
theorem q_evZ_ok : RlOk q_evZ := by
  intro fs zs h x hx
  obtain ⟨H0, h⟩ := snAll h
  replace H0 := s_ev.mp H0
  obtain ⟨H1, h⟩ := snAll h
  replace H1 := sp_2.mp H1
  obtain ⟨H2, h⟩ := snAll h
  replace H2 := sp_2.mp H2
  obtain ⟨H3, h⟩ := snAll h
  replace H3 := sp_2.mp H3
  obtain ⟨H4, h⟩ := snAll h
  replace H4 := sp_1.mp H4
  obtain ⟨H5, h⟩ := snAll h
  replace H5 := sp_1.mp H5
  obtain ⟨H6, h⟩ := snAll h
  replace H6 := sp_2.mp H6
  obtain ⟨H7, h⟩ := snAll h
  replace H7 := sp_2.mp H7
  obtain ⟨H8, h⟩ := snAll h
  replace H8 := sp_2.mp H8
  obtain ⟨H9, h⟩ := snAll h
  replace H9 := sp_2.mp H9
  rcases List.mem_cons.mp hx with hx | hx
  · rw [hx]; refine s_ev.mpr ?_
    have q := (ev_end H0 (by omega)).1; rw [q] at H0
    have e0 : nthZ zs 0 = nthZ zs 10 := by omega
    have e1 : nthZ zs 1 = 0 := by omega
    have e2 : nthZ zs 2 = nthZ zs 12 := by omega
    have e3 : nthZ zs 3 = nthZ zs 13 := by omega
    rw [e0, e1, e2, e3]; exact H0
  · cases hx
def q_evF1 : qRl := ([(1016, [4, 0, 1, 2, 3, 0, 1, 2, 3, 4], []), sp 0 [(1, 1)], sp 0 [(1, (-1))], (19, [1, 0, 20, 21, 22, 23], []), sp 1 [(20, 1), (2, (-1))], sp (-1) [(2, 1), (20, (-1))], sp 0 [(21, 1), (2, (-1))], sp 0 [(2, 1), (21, (-1))], sp (-1) [(23, (-1))], sp (-1) [(2, 1)], sp (-1001) [(22, 1)], sp 0 [(10, 1), (0, (-1))], sp 0 [(0, 1), (10, (-1))], sp 0 [(11, 1), (1, (-1))], sp 0 [(1, 1), (11, (-1))], sp 1 [(12, 1), (2, (-1))], sp (-1) [(2, 1), (12, (-1))], sp 0 [(13, 1), (3, (-1))], sp 0 [(3, 1), (13, (-1))]], [(1016, [4, 0, 1, 2, 3, 10, 11, 12, 13, 4], [])])
theorem q_evF1_ok : RlOk q_evF1 := by
  intro fs zs h x hx
  obtain ⟨H0, h⟩ := snAll h
  replace H0 := s_ev.mp H0
  obtain ⟨H1, h⟩ := snAll h
  replace H1 := sp_1.mp H1
  obtain ⟨H2, h⟩ := snAll h
  replace H2 := sp_1.mp H2
  obtain ⟨H3, h⟩ := snAll h
  replace H3 := s_ge_or.mp H3
  obtain ⟨H4, h⟩ := snAll h
  replace H4 := sp_2.mp H4
  obtain ⟨H5, h⟩ := snAll h
  replace H5 := sp_2.mp H5
  obtain ⟨H6, h⟩ := snAll h
  replace H6 := sp_2.mp H6
  obtain ⟨H7, h⟩ := snAll h
  replace H7 := sp_2.mp H7
  obtain ⟨H8, h⟩ := snAll h
  replace H8 := sp_1.mp H8
  obtain ⟨H9, h⟩ := snAll h
  replace H9 := sp_1.mp H9
  obtain ⟨H10, h⟩ := snAll h
  replace H10 := sp_1.mp H10
  obtain ⟨H11, h⟩ := snAll h
  replace H11 := sp_2.mp H11
  obtain ⟨H12, h⟩ := snAll h
  replace H12 := sp_2.mp H12
  obtain ⟨H13, h⟩ := snAll h
  replace H13 := sp_2.mp H13
  obtain ⟨H14, h⟩ := snAll h
  replace H14 := sp_2.mp H14
  obtain ⟨H15, h⟩ := snAll h
  replace H15 := sp_2.mp H15
  obtain ⟨H16, h⟩ := snAll h
  replace H16 := sp_2.mp H16
  obtain ⟨H17, h⟩ := snAll h
  replace H17 := sp_2.mp H17
  obtain ⟨H18, h⟩ := snAll h
  replace H18 := sp_2.mp H18
  rcases List.mem_cons.mp hx with hx | hx
  · rw [hx]; refine s_ev.mpr ?_
    have t := H3 (nthZ zs 2 - 1) (by omega) (by omega)
    have e10 : nthZ zs 10 = nthZ zs 0 := by omega
    have e11 : nthZ zs 11 = nthZ zs 1 := by omega
    have e12 : nthZ zs 12 = nthZ zs 2 - 1 := by omega
    have e13 : nthZ zs 13 = nthZ zs 3 := by omega
    rw [e10, e11, e12, e13]; exact ev_red_un H0 (by omega) (by omega)
  · cases hx
def q_evF2 : qRl := ([(1016, [4, 0, 1, 2, 3, 0, 1, 2, 3, 4], []), sp 0 [(0, 1), (4, (-1))], (13, [1, 0, 20, 21, 22, 23], []), sp 1 [(20, 1), (2, (-1))], sp (-1) [(2, 1), (20, (-1))], sp 0 [(21, 1), (2, (-1))], sp 0 [(2, 1), (21, (-1))], sp (-1) [(23, (-1))], sp (-1) [(2, 1)], sp 1000 [(22, (-1))], sp 0 [(10, 1), (0, (-1))], sp 0 [(0, 1), (10, (-1))], sp 0 [(11, 1), (1, (-1))], sp 0 [(1, 1), (11, (-1))], sp 1 [(12, 1), (2, (-1))], sp (-1) [(2, 1), (12, (-1))], sp 1 [(13, 1), (3, (-1))], sp (-1) [(3, 1), (13, (-1))]], [(1016, [4, 0, 1, 2, 3, 10, 11, 12, 13, 4], [])])
theorem q_evF2_ok : RlOk q_evF2 := by
  intro fs zs h x hx
  obtain ⟨H0, h⟩ := snAll h
  replace H0 := s_ev.mp H0
  obtain ⟨H1, h⟩ := snAll h
  replace H1 := sp_2.mp H1
  obtain ⟨H2, h⟩ := snAll h
  replace H2 := s_le_or.mp H2
  obtain ⟨H3, h⟩ := snAll h
  replace H3 := sp_2.mp H3
  obtain ⟨H4, h⟩ := snAll h
  replace H4 := sp_2.mp H4
  obtain ⟨H5, h⟩ := snAll h
  replace H5 := sp_2.mp H5
  obtain ⟨H6, h⟩ := snAll h
  replace H6 := sp_2.mp H6
  obtain ⟨H7, h⟩ := snAll h
  replace H7 := sp_1.mp H7
  obtain ⟨H8, h⟩ := snAll h
  replace H8 := sp_1.mp H8
  obtain ⟨H9, h⟩ := snAll h
  replace H9 := sp_1.mp H9
  obtain ⟨H10, h⟩ := snAll h
  replace H10 := sp_2.mp H10
  obtain ⟨H11, h⟩ := snAll h
  replace H11 := sp_2.mp H11
  obtain ⟨H12, h⟩ := snAll h
  replace H12 := sp_2.mp H12
  obtain ⟨H13, h⟩ := snAll h
  replace H13 := sp_2.mp H13
  obtain ⟨H14, h⟩ := snAll h
  replace H14 := sp_2.mp H14
  obtain ⟨H15, h⟩ := snAll h
  replace H15 := sp_2.mp H15
  obtain ⟨H16, h⟩ := snAll h
  replace H16 := sp_2.mp H16
  obtain ⟨H17, h⟩ := snAll h
  replace H17 := sp_2.mp H17
  rcases List.mem_cons.mp hx with hx | hx
  · rw [hx]; refine s_ev.mpr ?_
    have t := H2 (nthZ zs 2 - 1) (by omega) (by omega)
    have e10 : nthZ zs 10 = nthZ zs 0 := by omega
    have e11 : nthZ zs 11 = nthZ zs 1 := by omega
    have e12 : nthZ zs 12 = nthZ zs 2 - 1 := by omega
    have e13 : nthZ zs 13 = nthZ zs 3 - 1 := by omega
    rw [e10, e11, e12, e13]; exact ev_red_bi H0 (by omega) (by omega) ((ev_end H0 (by omega)).2 (by omega))
  · cases hx
def q_evF3 : qRl := ([(1016, [4, 0, 1, 2, 3, 0, 1, 2, 3, 4], []), sp 0 [(1, 1)], sp 0 [(1, (-1))], sp 1 [(8, 1), (2, (-1))], sp (-1) [(8, (-1)), (2, 1)], (1, [0, 8, 7], []), sp 2147483648 [(7, 1)], sp 39 [(7, (-1))], (13, [1, 0, 20, 21, 22, 23], []), sp 1 [(20, 1), (2, (-1))], sp (-1) [(2, 1), (20, (-1))], sp 0 [(21, 1), (2, (-1))], sp 0 [(2, 1), (21, (-1))], sp (-1) [(23, (-1))], sp (-1) [(2, 1)], sp 1000 [(22, (-1))], sp 0 [(10, 1), (0, (-1))], sp 0 [(0, 1), (10, (-1))], sp 0 [(11, 1), (1, (-1))], sp 0 [(1, 1), (11, (-1))], sp 1 [(12, 1), (2, (-1))], sp (-1) [(2, 1), (12, (-1))], sp 1 [(13, 1), (3, (-1))], sp (-1) [(3, 1), (13, (-1))]], [(1016, [4, 0, 1, 2, 3, 10, 11, 12, 13, 4], [])])
theorem q_evF3_ok : RlOk q_evF3 := by
  intro fs zs h x hx
  obtain ⟨H0, h⟩ := snAll h
  replace H0 := s_ev.mp H0
  obtain ⟨H1, h⟩ := snAll h
  replace H1 := sp_1.mp H1
  obtain ⟨H2, h⟩ := snAll h
  replace H2 := sp_1.mp H2
  obtain ⟨H3, h⟩ := snAll h
  replace H3 := sp_2.mp H3
  obtain ⟨H4, h⟩ := snAll h
  replace H4 := sp_2.mp H4
  obtain ⟨H5, h⟩ := snAll h
  replace H5 := s_rd.mp H5
  obtain ⟨H6, h⟩ := snAll h
  replace H6 := sp_1.mp H6
  obtain ⟨H7, h⟩ := snAll h
  replace H7 := sp_1.mp H7
  obtain ⟨H8, h⟩ := snAll h
  replace H8 := s_le_or.mp H8
  obtain ⟨H9, h⟩ := snAll h
  replace H9 := sp_2.mp H9
  obtain ⟨H10, h⟩ := snAll h
  replace H10 := sp_2.mp H10
  obtain ⟨H11, h⟩ := snAll h
  replace H11 := sp_2.mp H11
  obtain ⟨H12, h⟩ := snAll h
  replace H12 := sp_2.mp H12
  obtain ⟨H13, h⟩ := snAll h
  replace H13 := sp_1.mp H13
  obtain ⟨H14, h⟩ := snAll h
  replace H14 := sp_1.mp H14
  obtain ⟨H15, h⟩ := snAll h
  replace H15 := sp_1.mp H15
  obtain ⟨H16, h⟩ := snAll h
  replace H16 := sp_2.mp H16
  obtain ⟨H17, h⟩ := snAll h
  replace H17 := sp_2.mp H17
  obtain ⟨H18, h⟩ := snAll h
  replace H18 := sp_2.mp H18
  obtain ⟨H19, h⟩ := snAll h
  replace H19 := sp_2.mp H19
  obtain ⟨H20, h⟩ := snAll h
  replace H20 := sp_2.mp H20
  obtain ⟨H21, h⟩ := snAll h
  replace H21 := sp_2.mp H21
  obtain ⟨H22, h⟩ := snAll h
  replace H22 := sp_2.mp H22
  obtain ⟨H23, h⟩ := snAll h
  replace H23 := sp_2.mp H23
  rcases List.mem_cons.mp hx with hx | hx
  · rw [hx]; refine s_ev.mpr ?_
    have t := H8 (nthZ zs 2 - 1) (by omega) (by omega)
    have e10 : nthZ zs 10 = nthZ zs 0 := by omega
    have e11 : nthZ zs 11 = nthZ zs 1 := by omega
    have e12 : nthZ zs 12 = nthZ zs 2 - 1 := by omega
    have e13 : nthZ zs 13 = nthZ zs 3 - 1 := by omega
    rw [e10, e11, e12, e13]; exact ev_red_bi H0 (by omega) (by omega) (by rw [show nthZ zs 2 - 1 = nthZ zs 8 by omega, H5]; omega)
  · cases hx
def q_evF4 : qRl := ([(1016, [4, 0, 1, 2, 3, 0, 1, 2, 3, 4], []), sp 0 [(1, 1)], sp 0 [(1, (-1))], sp 1 [(8, 1), (2, (-1))], sp (-1) [(8, (-1)), (2, 1)], (1, [0, 8, 7], []), sp (-41) [(7, 1)], sp 2147483647 [(7, (-1))], (13, [1, 0, 20, 21, 22, 23], []), sp 1 [(20, 1), (2, (-1))], sp (-1) [(2, 1), (20, (-1))], sp 0 [(21, 1), (2, (-1))], sp 0 [(2, 1), (21, (-1))], sp (-1) [(23, (-1))], sp (-1) [(2, 1)], sp 1000 [(22, (-1))], sp 0 [(10, 1), (0, (-1))], sp 0 [(0, 1), (10, (-1))], sp 0 [(11, 1), (1, (-1))], sp 0 [(1, 1), (11, (-1))], sp 1 [(12, 1), (2, (-1))], sp (-1) [(2, 1), (12, (-1))], sp 1 [(13, 1), (3, (-1))], sp (-1) [(3, 1), (13, (-1))]], [(1016, [4, 0, 1, 2, 3, 10, 11, 12, 13, 4], [])])
theorem q_evF4_ok : RlOk q_evF4 := by
  intro fs zs h x hx
  obtain ⟨H0, h⟩ := snAll h
  replace H0 := s_ev.mp H0
  obtain ⟨H1, h⟩ := snAll h
  replace H1 := sp_1.mp H1
  obtain ⟨H2, h⟩ := snAll h
  replace H2 := sp_1.mp H2
  obtain ⟨H3, h⟩ := snAll h
  replace H3 := sp_2.mp H3
  obtain ⟨H4, h⟩ := snAll h
  replace H4 := sp_2.mp H4
  obtain ⟨H5, h⟩ := snAll h
  replace H5 := s_rd.mp H5
  obtain ⟨H6, h⟩ := snAll h
  replace H6 := sp_1.mp H6
  obtain ⟨H7, h⟩ := snAll h
  replace H7 := sp_1.mp H7
  obtain ⟨H8, h⟩ := snAll h
  replace H8 := s_le_or.mp H8
  obtain ⟨H9, h⟩ := snAll h
  replace H9 := sp_2.mp H9
  obtain ⟨H10, h⟩ := snAll h
  replace H10 := sp_2.mp H10
  obtain ⟨H11, h⟩ := snAll h
  replace H11 := sp_2.mp H11
  obtain ⟨H12, h⟩ := snAll h
  replace H12 := sp_2.mp H12
  obtain ⟨H13, h⟩ := snAll h
  replace H13 := sp_1.mp H13
  obtain ⟨H14, h⟩ := snAll h
  replace H14 := sp_1.mp H14
  obtain ⟨H15, h⟩ := snAll h
  replace H15 := sp_1.mp H15
  obtain ⟨H16, h⟩ := snAll h
  replace H16 := sp_2.mp H16
  obtain ⟨H17, h⟩ := snAll h
  replace H17 := sp_2.mp H17
  obtain ⟨H18, h⟩ := snAll h
  replace H18 := sp_2.mp H18
  obtain ⟨H19, h⟩ := snAll h
  replace H19 := sp_2.mp H19
  obtain ⟨H20, h⟩ := snAll h
  replace H20 := sp_2.mp H20
  obtain ⟨H21, h⟩ := snAll h
  replace H21 := sp_2.mp H21
  obtain ⟨H22, h⟩ := snAll h
  replace H22 := sp_2.mp H22
  obtain ⟨H23, h⟩ := snAll h
  replace H23 := sp_2.mp H23
  rcases List.mem_cons.mp hx with hx | hx
  · rw [hx]; refine s_ev.mpr ?_
    have t := H8 (nthZ zs 2 - 1) (by omega) (by omega)
    have e10 : nthZ zs 10 = nthZ zs 0 := by omega
    have e11 : nthZ zs 11 = nthZ zs 1 := by omega
    have e12 : nthZ zs 12 = nthZ zs 2 - 1 := by omega
    have e13 : nthZ zs 13 = nthZ zs 3 - 1 := by omega
    rw [e10, e11, e12, e13]; exact ev_red_bi H0 (by omega) (by omega) (by rw [show nthZ zs 2 - 1 = nthZ zs 8 by omega, H5]; omega)
  · cases hx
def q_exN : qRl := ([(1013, [2, 0, 1, 0, 1], [])], [sp (-1) [(1, 1), (0, (-1))]])
theorem q_exN_ok : RlOk q_exN := by
  intro fs zs h x hx
  obtain ⟨H0, h⟩ := snAll h
  replace H0 := s_exprT.mp H0
  rcases List.mem_cons.mp hx with hx | hx
  · rw [hx]; refine sp_2.mpr ?_; have := H0.gt; omega
  · cases hx
def q_lfo : qRl := ([(1017, [0, 0, 1], []), sp (-1) [(1, 1)], sp 0 [(4, (-1))], sp 0 [(4, 1)], sp (-1) [(5, 1)], sp 1 [(5, (-1))], sp 0 [(2, 1), (0, 1)], sp 36 [(3, 1), (0, (-1))]], [(3, [0, 4, 5, 2, 3], [])])
theorem q_lfo_ok : RlOk q_lfo := by
  intro fs zs h x hx
  obtain ⟨H0, h⟩ := snAll h
  replace H0 := s_lf.mp H0
  obtain ⟨H1, h⟩ := snAll h
  replace H1 := sp_1.mp H1
  obtain ⟨H2, h⟩ := snAll h
  replace H2 := sp_1.mp H2
  obtain ⟨H3, h⟩ := snAll h
  replace H3 := sp_1.mp H3
  obtain ⟨H4, h⟩ := snAll h
  replace H4 := sp_1.mp H4
  obtain ⟨H5, h⟩ := snAll h
  replace H5 := sp_1.mp H5
  obtain ⟨H6, h⟩ := snAll h
  replace H6 := sp_2.mp H6
  obtain ⟨H7, h⟩ := snAll h
  replace H7 := sp_2.mp H7
  rcases List.mem_cons.mp hx with hx | hx
  · rw [hx]; refine s_or2.mpr ?_; intro x a b; omega
  · cases hx
def q_lfb : qRl := ([(1017, [0, 0, 1], []), sp (-1) [(1, 1)]], [sp 36 [(0, (-1))], sp 0 [(0, 1)]])
theorem q_lfb_ok : RlOk q_lfb := by
  intro fs zs h x hx
  obtain ⟨H0, h⟩ := snAll h
  replace H0 := s_lf.mp H0
  obtain ⟨H1, h⟩ := snAll h
  replace H1 := sp_1.mp H1
  rcases List.mem_cons.mp hx with hx | hx
  · rw [hx]; refine sp_1.mpr ?_; omega
  rcases List.mem_cons.mp hx with hx | hx
  · rw [hx]; refine sp_1.mpr ?_; omega
  · cases hx
def q_n63 : qRl := ([(14, [2, 0, 1, 0, 1, 2], []), sp 0 [(2, (-1))]], [(7, [2, 0, 1, 0, 1], [])])
theorem q_n63_ok : RlOk q_n63 := by
  intro fs zs h x hx
  obtain ⟨H0, h⟩ := snAll h
  replace H0 := s_name63b.mp H0
  obtain ⟨H1, h⟩ := snAll h
  replace H1 := sp_1.mp H1
  rcases List.mem_cons.mp hx with hx | hx
  · rw [hx]; refine s_name63.mpr ?_; intro x a b; have := H0 x a b; omega
  · cases hx
def q_n1 : qRl := ([(15, [2, 0, 1, 0, 1, 2], []), sp 0 [(2, (-1))]], [(8, [2, 0, 1, 0, 1], [])])
theorem q_n1_ok : RlOk q_n1 := by
  intro fs zs h x hx
  obtain ⟨H0, h⟩ := snAll h
  replace H0 := s_name1b.mp H0
  obtain ⟨H1, h⟩ := snAll h
  replace H1 := sp_1.mp H1
  rcases List.mem_cons.mp hx with hx | hx
  · rw [hx]; refine s_name1.mpr ?_; intro x a b; have := H0 x a b; omega
  · cases hx
def q_nbX : qRl := ([sp (-1) [(2, 1)], sp 0 [], sp 0 []], [(14, [2, 0, 1, 0, 1, 2], [])])
theorem q_nbX_ok : RlOk q_nbX := by
  intro fs zs h x hx
  obtain ⟨H0, h⟩ := snAll h
  replace H0 := sp_1.mp H0
  obtain ⟨H1, h⟩ := snAll h
  replace H1 := sp_0.mp H1
  obtain ⟨H2, h⟩ := snAll h
  replace H2 := sp_0.mp H2
  rcases List.mem_cons.mp hx with hx | hx
  · rw [hx]; refine s_name63b.mpr ?_; intro x a b; omega
  · cases hx
def q_nbX1 : qRl := ([sp (-1) [(2, 1)], sp 0 [], sp 0 []], [(15, [2, 0, 1, 0, 1, 2], [])])
theorem q_nbX1_ok : RlOk q_nbX1 := by
  intro fs zs h x hx
  obtain ⟨H0, h⟩ := snAll h
  replace H0 := sp_1.mp H0
  obtain ⟨H1, h⟩ := snAll h
  replace H1 := sp_0.mp H1
  obtain ⟨H2, h⟩ := snAll h
  replace H2 := sp_0.mp H2
  rcases List.mem_cons.mp hx with hx | hx
  · rw [hx]; refine s_name1b.mpr ?_; intro x a b; omega
  · cases hx
def q_nbY : qRl := ([(7, [2, 0, 1, 0, 1], []), sp 0 []], [(14, [2, 0, 1, 0, 1, 2], [])])
theorem q_nbY_ok : RlOk q_nbY := by
  intro fs zs h x hx
  obtain ⟨H0, h⟩ := snAll h
  replace H0 := s_name63.mp H0
  obtain ⟨H1, h⟩ := snAll h
  replace H1 := sp_0.mp H1
  rcases List.mem_cons.mp hx with hx | hx
  · rw [hx]; refine s_name63b.mpr ?_; intro x a b; have := H0 x a b; omega
  · cases hx
def q_nbY1 : qRl := ([(8, [2, 0, 1, 0, 1], []), sp 0 []], [(15, [2, 0, 1, 0, 1, 2], [])])
theorem q_nbY1_ok : RlOk q_nbY1 := by
  intro fs zs h x hx
  obtain ⟨H0, h⟩ := snAll h
  replace H0 := s_name1.mp H0
  obtain ⟨H1, h⟩ := snAll h
  replace H1 := sp_0.mp H1
  rcases List.mem_cons.mp hx with hx | hx
  · rw [hx]; refine s_name1b.mpr ?_; intro x a b; have := H0 x a b; omega
  · cases hx
def q_leo : qRl := ([(6, [1, 0, 0, 1, 2], []), sp 0 []], [(13, [1, 0, 0, 1, 2, 3], [])])
theorem q_leo_ok : RlOk q_leo := by
  intro fs zs h x hx
  obtain ⟨H0, h⟩ := snAll h
  replace H0 := s_le.mp H0
  obtain ⟨H1, h⟩ := snAll h
  replace H1 := sp_0.mp H1
  rcases List.mem_cons.mp hx with hx | hx
  · rw [hx]; refine s_le_or.mpr ?_; intro x a b; exact Or.inl (H0 x a b)
  · cases hx
def q_leo2 : qRl := ([(13, [1, 0, 0, 1, 2, 3], []), sp (-1) [(3, (-1))]], [(6, [1, 0, 0, 1, 2], [])])
theorem q_leo2_ok : RlOk q_leo2 := by
  intro fs zs h x hx
  obtain ⟨H0, h⟩ := snAll h
  replace H0 := s_le_or.mp H0
  obtain ⟨H1, h⟩ := snAll h
  replace H1 := sp_1.mp H1
  rcases List.mem_cons.mp hx with hx | hx
  · rw [hx]; refine s_le.mpr ?_; intro x a b; have := H0 x a b; omega
  · cases hx
