/-! FORMULAS OF THE CLASS IN PLAIN FORM, AND THE RULES THAT WANT THEM (written by wip/p2/gen46v.py) -/
theorem s_slo {fs : List (Int → Int)} {zs : List Int} {a0 i0 i1 i2 : Nat} : SnOk fs zs (40, [1, a0, i0, i1, i2], []) ↔ ∀ x : Int, nthZ zs i0 ≤ x → x < nthZ zs i1 → ((0 ≤ 131072+(-1)*nthF fs a0 (7*x+4)) ∨ (0 ≤ 0+(1)*nthZ zs i2)) := by
  show fOk ((1, 3), ([(0, 7, 4, [], [])], [(131072, 0, [], [(0, (-1))]), (0, 0, [(2, 1)], [])])) [nthF fs a0] [nthZ zs i0, nthZ zs i1, nthZ zs i2] ↔ _
  have e0 : ∀ x : Int, (4 : Int) + 7 * x + 0 + 0 = 7*x+4 := fun x => by omega
  constructor
  · intro h x h1 h2
    obtain ⟨l0, hl, q⟩ := h x h1 h2
    rcases List.mem_cons.mp hl with hl | hl
    · subst hl; replace q : 0 ≤ (131072 : Int) + 0 * x + 0 + ((-1) * nthF fs a0 ((4 : Int) + 7 * x + 0 + 0) + 0) := q; try simp only [e0] at q
      left; omega
    · skip
      rcases List.mem_cons.mp hl with hl | hl
      · subst hl; replace q : 0 ≤ (0 : Int) + 0 * x + (1 * nthZ zs i2 + 0) + 0 := q; try simp only [e0] at q
        right; omega
      · cases hl
  · intro h x h1 h2
    have q := h x h1 h2
    rcases q with q | q
    · refine ⟨_, (List.mem_cons_self), ?_⟩; show 0 ≤ (131072 : Int) + 0 * x + 0 + ((-1) * nthF fs a0 ((4 : Int) + 7 * x + 0 + 0) + 0)
      try simp only [e0]
      omega
    · refine ⟨_, (List.mem_cons_of_mem _ (List.mem_cons_self)), ?_⟩; show 0 ≤ (0 : Int) + 0 * x + (1 * nthZ zs i2 + 0) + 0
      try simp only [e0]
      omega
theorem s_cl {fs : List (Int → Int)} {zs : List Int} {a0 i0 i1 : Nat} : SnOk fs zs (42, [1, a0, i0, i1], []) ↔ ∀ x : Int, nthZ zs i0 ≤ x → x < nthZ zs i1 → ((0 ≤ 2+(-1)*nthF fs a0 (7*x)) ∨ (0 ≤ -4+(1)*nthF fs a0 (7*x)) ∨ (0 ≤ -1+(1)*nthF fs a0 (7*x+4))) := by
  show fOk ((1, 2), ([(0, 7, 0, [], []), (0, 7, 4, [], [])], [(2, 0, [], [(0, (-1))]), ((-4), 0, [], [(0, 1)]), ((-1), 0, [], [(1, 1)])])) [nthF fs a0] [nthZ zs i0, nthZ zs i1] ↔ _
  have e0 : ∀ x : Int, (0 : Int) + 7 * x + 0 + 0 = 7*x := fun x => by omega
  have e1 : ∀ x : Int, (4 : Int) + 7 * x + 0 + 0 = 7*x+4 := fun x => by omega
  constructor
  · intro h x h1 h2
    obtain ⟨l0, hl, q⟩ := h x h1 h2
    rcases List.mem_cons.mp hl with hl | hl
    · subst hl; replace q : 0 ≤ (2 : Int) + 0 * x + 0 + ((-1) * nthF fs a0 ((0 : Int) + 7 * x + 0 + 0) + 0) := q; try simp only [e0, e1] at q
      left; omega
    · skip
      rcases List.mem_cons.mp hl with hl | hl
      · subst hl; replace q : 0 ≤ ((-4) : Int) + 0 * x + 0 + (1 * nthF fs a0 ((0 : Int) + 7 * x + 0 + 0) + 0) := q; try simp only [e0, e1] at q
        right; left; omega
      · skip
        rcases List.mem_cons.mp hl with hl | hl
        · subst hl; replace q : 0 ≤ ((-1) : Int) + 0 * x + 0 + (1 * nthF fs a0 ((4 : Int) + 7 * x + 0 + 0) + 0) := q; try simp only [e0, e1] at q
          right; right; omega
        · cases hl
  · intro h x h1 h2
    have q := h x h1 h2
    rcases q with q | q | q
    · refine ⟨_, (List.mem_cons_self), ?_⟩; show 0 ≤ (2 : Int) + 0 * x + 0 + ((-1) * nthF fs a0 ((0 : Int) + 7 * x + 0 + 0) + 0)
      try simp only [e0, e1]
      omega
    · refine ⟨_, (List.mem_cons_of_mem _ (List.mem_cons_self)), ?_⟩; show 0 ≤ ((-4) : Int) + 0 * x + 0 + (1 * nthF fs a0 ((0 : Int) + 7 * x + 0 + 0) + 0)
      try simp only [e0, e1]
      omega
    · refine ⟨_, (List.mem_cons_of_mem _ (List.mem_cons_of_mem _ (List.mem_cons_self))), ?_⟩; show 0 ≤ ((-1) : Int) + 0 * x + 0 + (1 * nthF fs a0 ((4 : Int) + 7 * x + 0 + 0) + 0)
      try simp only [e0, e1]
      omega
theorem s_po0 {fs : List (Int → Int)} {zs : List Int} {a0 i0 i1 i2 i3 : Nat} : SnOk fs zs (43, [1, a0, i0, i1, i2, i3], []) ↔ ∀ x : Int, nthZ zs i0 ≤ x → x < nthZ zs i1 → ((0 ≤ -1+(1)*nthF fs a0 (7*x)) ∨ (0 ≤ -3+(1)*nthF fs a0 (7*x+1)) ∨ (0 ≤ 0+(1)*nthZ zs i2+(-1)*nthF fs a0 (7*x+5)+(-1)*nthF fs a0 (7*x+4)) ∨ (0 ≤ 0+(1)*nthZ zs i3)) := by
  show fOk ((1, 4), ([(0, 7, 0, [], []), (0, 7, 1, [], []), (0, 7, 5, [], []), (0, 7, 4, [], [])], [((-1), 0, [], [(0, 1)]), ((-3), 0, [], [(1, 1)]), (0, 0, [(2, 1)], [(2, (-1)), (3, (-1))]), (0, 0, [(3, 1)], [])])) [nthF fs a0] [nthZ zs i0, nthZ zs i1, nthZ zs i2, nthZ zs i3] ↔ _
  have e0 : ∀ x : Int, (0 : Int) + 7 * x + 0 + 0 = 7*x := fun x => by omega
  have e1 : ∀ x : Int, (1 : Int) + 7 * x + 0 + 0 = 7*x+1 := fun x => by omega
  have e2 : ∀ x : Int, (5 : Int) + 7 * x + 0 + 0 = 7*x+5 := fun x => by omega
  have e3 : ∀ x : Int, (4 : Int) + 7 * x + 0 + 0 = 7*x+4 := fun x => by omega
  constructor
  · intro h x h1 h2
    obtain ⟨l0, hl, q⟩ := h x h1 h2
    rcases List.mem_cons.mp hl with hl | hl
    · subst hl; replace q : 0 ≤ ((-1) : Int) + 0 * x + 0 + (1 * nthF fs a0 ((0 : Int) + 7 * x + 0 + 0) + 0) := q; try simp only [e0, e1, e2, e3] at q
      left; omega
    · skip
      rcases List.mem_cons.mp hl with hl | hl
      · subst hl; replace q : 0 ≤ ((-3) : Int) + 0 * x + 0 + (1 * nthF fs a0 ((1 : Int) + 7 * x + 0 + 0) + 0) := q; try simp only [e0, e1, e2, e3] at q
        right; left; omega
      · skip
        rcases List.mem_cons.mp hl with hl | hl
        · subst hl; replace q : 0 ≤ (0 : Int) + 0 * x + (1 * nthZ zs i2 + 0) + ((-1) * nthF fs a0 ((5 : Int) + 7 * x + 0 + 0) + ((-1) * nthF fs a0 ((4 : Int) + 7 * x + 0 + 0) + 0)) := q; try simp only [e0, e1, e2, e3] at q
          right; right; left; omega
        · skip
          rcases List.mem_cons.mp hl with hl | hl
          · subst hl; replace q : 0 ≤ (0 : Int) + 0 * x + (1 * nthZ zs i3 + 0) + 0 := q; try simp only [e0, e1, e2, e3] at q
            right; right; right; omega
          · cases hl
  · intro h x h1 h2
    have q := h x h1 h2
    rcases q with q | q | q | q
    · refine ⟨_, (List.mem_cons_self), ?_⟩; show 0 ≤ ((-1) : Int) + 0 * x + 0 + (1 * nthF fs a0 ((0 : Int) + 7 * x + 0 + 0) + 0)
      try simp only [e0, e1, e2, e3]
      omega
    · refine ⟨_, (List.mem_cons_of_mem _ (List.mem_cons_self)), ?_⟩; show 0 ≤ ((-3) : Int) + 0 * x + 0 + (1 * nthF fs a0 ((1 : Int) + 7 * x + 0 + 0) + 0)
      try simp only [e0, e1, e2, e3]
      omega
    · refine ⟨_, (List.mem_cons_of_mem _ (List.mem_cons_of_mem _ (List.mem_cons_self))), ?_⟩; show 0 ≤ (0 : Int) + 0 * x + (1 * nthZ zs i2 + 0) + ((-1) * nthF fs a0 ((5 : Int) + 7 * x + 0 + 0) + ((-1) * nthF fs a0 ((4 : Int) + 7 * x + 0 + 0) + 0))
      try simp only [e0, e1, e2, e3]
      omega
    · refine ⟨_, (List.mem_cons_of_mem _ (List.mem_cons_of_mem _ (List.mem_cons_of_mem _ (List.mem_cons_self)))), ?_⟩; show 0 ≤ (0 : Int) + 0 * x + (1 * nthZ zs i3 + 0) + 0
      try simp only [e0, e1, e2, e3]
      omega
theorem s_po3 {fs : List (Int → Int)} {zs : List Int} {a0 i0 i1 i2 i3 : Nat} : SnOk fs zs (44, [1, a0, i0, i1, i2, i3], []) ↔ ∀ x : Int, nthZ zs i0 ≤ x → x < nthZ zs i1 → ((0 ≤ 2+(-1)*nthF fs a0 (7*x)) ∨ (0 ≤ -4+(1)*nthF fs a0 (7*x)) ∨ (0 ≤ -3+(1)*nthF fs a0 (7*x+1)) ∨ (0 ≤ 0+(1)*nthZ zs i2+(-1)*nthF fs a0 (7*x+5)+(-1)*nthF fs a0 (7*x+4)) ∨ (0 ≤ 0+(1)*nthZ zs i3)) := by
  show fOk ((1, 4), ([(0, 7, 0, [], []), (0, 7, 1, [], []), (0, 7, 5, [], []), (0, 7, 4, [], [])], [(2, 0, [], [(0, (-1))]), ((-4), 0, [], [(0, 1)]), ((-3), 0, [], [(1, 1)]), (0, 0, [(2, 1)], [(2, (-1)), (3, (-1))]), (0, 0, [(3, 1)], [])])) [nthF fs a0] [nthZ zs i0, nthZ zs i1, nthZ zs i2, nthZ zs i3] ↔ _
  have e0 : ∀ x : Int, (0 : Int) + 7 * x + 0 + 0 = 7*x := fun x => by omega
  have e1 : ∀ x : Int, (1 : Int) + 7 * x + 0 + 0 = 7*x+1 := fun x => by omega
  have e2 : ∀ x : Int, (5 : Int) + 7 * x + 0 + 0 = 7*x+5 := fun x => by omega
  have e3 : ∀ x : Int, (4 : Int) + 7 * x + 0 + 0 = 7*x+4 := fun x => by omega
  constructor
  · intro h x h1 h2
    obtain ⟨l0, hl, q⟩ := h x h1 h2
    rcases List.mem_cons.mp hl with hl | hl
    · subst hl; replace q : 0 ≤ (2 : Int) + 0 * x + 0 + ((-1) * nthF fs a0 ((0 : Int) + 7 * x + 0 + 0) + 0) := q; try simp only [e0, e1, e2, e3] at q
      left; omega
    · skip
      rcases List.mem_cons.mp hl with hl | hl
      · subst hl; replace q : 0 ≤ ((-4) : Int) + 0 * x + 0 + (1 * nthF fs a0 ((0 : Int) + 7 * x + 0 + 0) + 0) := q; try simp only [e0, e1, e2, e3] at q
        right; left; omega
      · skip
        rcases List.mem_cons.mp hl with hl | hl
        · subst hl; replace q : 0 ≤ ((-3) : Int) + 0 * x + 0 + (1 * nthF fs a0 ((1 : Int) + 7 * x + 0 + 0) + 0) := q; try simp only [e0, e1, e2, e3] at q
          right; right; left; omega
        · skip
          rcases List.mem_cons.mp hl with hl | hl
          · subst hl; replace q : 0 ≤ (0 : Int) + 0 * x + (1 * nthZ zs i2 + 0) + ((-1) * nthF fs a0 ((5 : Int) + 7 * x + 0 + 0) + ((-1) * nthF fs a0 ((4 : Int) + 7 * x + 0 + 0) + 0)) := q; try simp only [e0, e1, e2, e3] at q
            right; right; right; left; omega
          · skip
            rcases List.mem_cons.mp hl with hl | hl
            · subst hl; replace q : 0 ≤ (0 : Int) + 0 * x + (1 * nthZ zs i3 + 0) + 0 := q; try simp only [e0, e1, e2, e3] at q
              right; right; right; right; omega
            · cases hl
  · intro h x h1 h2
    have q := h x h1 h2
    rcases q with q | q | q | q | q
    · refine ⟨_, (List.mem_cons_self), ?_⟩; show 0 ≤ (2 : Int) + 0 * x + 0 + ((-1) * nthF fs a0 ((0 : Int) + 7 * x + 0 + 0) + 0)
      try simp only [e0, e1, e2, e3]
      omega
    · refine ⟨_, (List.mem_cons_of_mem _ (List.mem_cons_self)), ?_⟩; show 0 ≤ ((-4) : Int) + 0 * x + 0 + (1 * nthF fs a0 ((0 : Int) + 7 * x + 0 + 0) + 0)
      try simp only [e0, e1, e2, e3]
      omega
    · refine ⟨_, (List.mem_cons_of_mem _ (List.mem_cons_of_mem _ (List.mem_cons_self))), ?_⟩; show 0 ≤ ((-3) : Int) + 0 * x + 0 + (1 * nthF fs a0 ((1 : Int) + 7 * x + 0 + 0) + 0)
      try simp only [e0, e1, e2, e3]
      omega
    · refine ⟨_, (List.mem_cons_of_mem _ (List.mem_cons_of_mem _ (List.mem_cons_of_mem _ (List.mem_cons_self)))), ?_⟩; show 0 ≤ (0 : Int) + 0 * x + (1 * nthZ zs i2 + 0) + ((-1) * nthF fs a0 ((5 : Int) + 7 * x + 0 + 0) + ((-1) * nthF fs a0 ((4 : Int) + 7 * x + 0 + 0) + 0))
      try simp only [e0, e1, e2, e3]
      omega
    · refine ⟨_, (List.mem_cons_of_mem _ (List.mem_cons_of_mem _ (List.mem_cons_of_mem _ (List.mem_cons_of_mem _ (List.mem_cons_self))))), ?_⟩; show 0 ≤ (0 : Int) + 0 * x + (1 * nthZ zs i3 + 0) + 0
      try simp only [e0, e1, e2, e3]
      omega
theorem s_pg0 {fs : List (Int → Int)} {zs : List Int} {a0 i0 i1 i2 i3 : Nat} : SnOk fs zs (45, [1, a0, i0, i1, i2, i3], []) ↔ ∀ x : Int, nthZ zs i0 ≤ x → x < nthZ zs i1 → ((0 ≤ -1+(1)*nthF fs a0 (7*x)) ∨ (0 ≤ -3+(1)*nthF fs a0 (7*x+1)) ∨ (0 ≤ 0+(1)*nthF fs a0 (7*x+5)) ∨ (0 ≤ 0+(1)*nthZ zs i3)) := by
  show fOk ((1, 4), ([(0, 7, 0, [], []), (0, 7, 1, [], []), (0, 7, 5, [], []), (0, 7, 4, [], [])], [((-1), 0, [], [(0, 1)]), ((-3), 0, [], [(1, 1)]), (0, 0, [], [(2, 1)]), (0, 0, [(3, 1)], [])])) [nthF fs a0] [nthZ zs i0, nthZ zs i1, nthZ zs i2, nthZ zs i3] ↔ _
  have e0 : ∀ x : Int, (0 : Int) + 7 * x + 0 + 0 = 7*x := fun x => by omega
  have e1 : ∀ x : Int, (1 : Int) + 7 * x + 0 + 0 = 7*x+1 := fun x => by omega
  have e2 : ∀ x : Int, (5 : Int) + 7 * x + 0 + 0 = 7*x+5 := fun x => by omega
  have e3 : ∀ x : Int, (4 : Int) + 7 * x + 0 + 0 = 7*x+4 := fun x => by omega
  constructor
  · intro h x h1 h2
    obtain ⟨l0, hl, q⟩ := h x h1 h2
    rcases List.mem_cons.mp hl with hl | hl
    · subst hl; replace q : 0 ≤ ((-1) : Int) + 0 * x + 0 + (1 * nthF fs a0 ((0 : Int) + 7 * x + 0 + 0) + 0) := q; try simp only [e0, e1, e2, e3] at q
      left; omega
    · skip
      rcases List.mem_cons.mp hl with hl | hl
      · subst hl; replace q : 0 ≤ ((-3) : Int) + 0 * x + 0 + (1 * nthF fs a0 ((1 : Int) + 7 * x + 0 + 0) + 0) := q; try simp only [e0, e1, e2, e3] at q
        right; left; omega
      · skip
        rcases List.mem_cons.mp hl with hl | hl
        · subst hl; replace q : 0 ≤ (0 : Int) + 0 * x + 0 + (1 * nthF fs a0 ((5 : Int) + 7 * x + 0 + 0) + 0) := q; try simp only [e0, e1, e2, e3] at q
          right; right; left; omega
        · skip
          rcases List.mem_cons.mp hl with hl | hl
          · subst hl; replace q : 0 ≤ (0 : Int) + 0 * x + (1 * nthZ zs i3 + 0) + 0 := q; try simp only [e0, e1, e2, e3] at q
            right; right; right; omega
          · cases hl
  · intro h x h1 h2
    have q := h x h1 h2
    rcases q with q | q | q | q
    · refine ⟨_, (List.mem_cons_self), ?_⟩; show 0 ≤ ((-1) : Int) + 0 * x + 0 + (1 * nthF fs a0 ((0 : Int) + 7 * x + 0 + 0) + 0)
      try simp only [e0, e1, e2, e3]
      omega
    · refine ⟨_, (List.mem_cons_of_mem _ (List.mem_cons_self)), ?_⟩; show 0 ≤ ((-3) : Int) + 0 * x + 0 + (1 * nthF fs a0 ((1 : Int) + 7 * x + 0 + 0) + 0)
      try simp only [e0, e1, e2, e3]
      omega
    · refine ⟨_, (List.mem_cons_of_mem _ (List.mem_cons_of_mem _ (List.mem_cons_self))), ?_⟩; show 0 ≤ (0 : Int) + 0 * x + 0 + (1 * nthF fs a0 ((5 : Int) + 7 * x + 0 + 0) + 0)
      try simp only [e0, e1, e2, e3]
      omega
    · refine ⟨_, (List.mem_cons_of_mem _ (List.mem_cons_of_mem _ (List.mem_cons_of_mem _ (List.mem_cons_self)))), ?_⟩; show 0 ≤ (0 : Int) + 0 * x + (1 * nthZ zs i3 + 0) + 0
      try simp only [e0, e1, e2, e3]
      omega
theorem s_pg3 {fs : List (Int → Int)} {zs : List Int} {a0 i0 i1 i2 i3 : Nat} : SnOk fs zs (46, [1, a0, i0, i1, i2, i3], []) ↔ ∀ x : Int, nthZ zs i0 ≤ x → x < nthZ zs i1 → ((0 ≤ 2+(-1)*nthF fs a0 (7*x)) ∨ (0 ≤ -4+(1)*nthF fs a0 (7*x)) ∨ (0 ≤ -3+(1)*nthF fs a0 (7*x+1)) ∨ (0 ≤ 0+(1)*nthF fs a0 (7*x+5)) ∨ (0 ≤ 0+(1)*nthZ zs i3)) := by
  show fOk ((1, 4), ([(0, 7, 0, [], []), (0, 7, 1, [], []), (0, 7, 5, [], []), (0, 7, 4, [], [])], [(2, 0, [], [(0, (-1))]), ((-4), 0, [], [(0, 1)]), ((-3), 0, [], [(1, 1)]), (0, 0, [], [(2, 1)]), (0, 0, [(3, 1)], [])])) [nthF fs a0] [nthZ zs i0, nthZ zs i1, nthZ zs i2, nthZ zs i3] ↔ _
  have e0 : ∀ x : Int, (0 : Int) + 7 * x + 0 + 0 = 7*x := fun x => by omega
  have e1 : ∀ x : Int, (1 : Int) + 7 * x + 0 + 0 = 7*x+1 := fun x => by omega
  have e2 : ∀ x : Int, (5 : Int) + 7 * x + 0 + 0 = 7*x+5 := fun x => by omega
  have e3 : ∀ x : Int, (4 : Int) + 7 * x + 0 + 0 = 7*x+4 := fun x => by omega
  constructor
  · intro h x h1 h2
    obtain ⟨l0, hl, q⟩ := h x h1 h2
    rcases List.mem_cons.mp hl with hl | hl
    · subst hl; replace q : 0 ≤ (2 : Int) + 0 * x + 0 + ((-1) * nthF fs a0 ((0 : Int) + 7 * x + 0 + 0) + 0) := q; try simp only [e0, e1, e2, e3] at q
      left; omega
    · skip
      rcases List.mem_cons.mp hl with hl | hl
      · subst hl; replace q : 0 ≤ ((-4) : Int) + 0 * x + 0 + (1 * nthF fs a0 ((0 : Int) + 7 * x + 0 + 0) + 0) := q; try simp only [e0, e1, e2, e3] at q
        right; left; omega
      · skip
        rcases List.mem_cons.mp hl with hl | hl
        · subst hl; replace q : 0 ≤ ((-3) : Int) + 0 * x + 0 + (1 * nthF fs a0 ((1 : Int) + 7 * x + 0 + 0) + 0) := q; try simp only [e0, e1, e2, e3] at q
          right; right; left; omega
        · skip
          rcases List.mem_cons.mp hl with hl | hl
          · subst hl; replace q : 0 ≤ (0 : Int) + 0 * x + 0 + (1 * nthF fs a0 ((5 : Int) + 7 * x + 0 + 0) + 0) := q; try simp only [e0, e1, e2, e3] at q
            right; right; right; left; omega
          · skip
            rcases List.mem_cons.mp hl with hl | hl
            · subst hl; replace q : 0 ≤ (0 : Int) + 0 * x + (1 * nthZ zs i3 + 0) + 0 := q; try simp only [e0, e1, e2, e3] at q
              right; right; right; right; omega
            · cases hl
  · intro h x h1 h2
    have q := h x h1 h2
    rcases q with q | q | q | q | q
    · refine ⟨_, (List.mem_cons_self), ?_⟩; show 0 ≤ (2 : Int) + 0 * x + 0 + ((-1) * nthF fs a0 ((0 : Int) + 7 * x + 0 + 0) + 0)
      try simp only [e0, e1, e2, e3]
      omega
    · refine ⟨_, (List.mem_cons_of_mem _ (List.mem_cons_self)), ?_⟩; show 0 ≤ ((-4) : Int) + 0 * x + 0 + (1 * nthF fs a0 ((0 : Int) + 7 * x + 0 + 0) + 0)
      try simp only [e0, e1, e2, e3]
      omega
    · refine ⟨_, (List.mem_cons_of_mem _ (List.mem_cons_of_mem _ (List.mem_cons_self))), ?_⟩; show 0 ≤ ((-3) : Int) + 0 * x + 0 + (1 * nthF fs a0 ((1 : Int) + 7 * x + 0 + 0) + 0)
      try simp only [e0, e1, e2, e3]
      omega
    · refine ⟨_, (List.mem_cons_of_mem _ (List.mem_cons_of_mem _ (List.mem_cons_of_mem _ (List.mem_cons_self)))), ?_⟩; show 0 ≤ (0 : Int) + 0 * x + 0 + (1 * nthF fs a0 ((5 : Int) + 7 * x + 0 + 0) + 0)
      try simp only [e0, e1, e2, e3]
      omega
    · refine ⟨_, (List.mem_cons_of_mem _ (List.mem_cons_of_mem _ (List.mem_cons_of_mem _ (List.mem_cons_of_mem _ (List.mem_cons_self))))), ?_⟩; show 0 ≤ (0 : Int) + 0 * x + (1 * nthZ zs i3 + 0) + 0
      try simp only [e0, e1, e2, e3]
      omega
theorem s_pl1 {fs : List (Int → Int)} {zs : List Int} {a0 i0 i1 i2 : Nat} : SnOk fs zs (47, [1, a0, i0, i1, i2], []) ↔ ∀ x : Int, nthZ zs i0 ≤ x → x < nthZ zs i1 → ((0 ≤ 3+(-1)*nthF fs a0 (7*x)) ∨ (0 ≤ -5+(1)*nthF fs a0 (7*x)) ∨ (0 ≤ -5+(1)*nthF fs a0 (7*x+4)) ∨ (0 ≤ 0+(1)*nthZ zs i2)) := by
  show fOk ((1, 3), ([(0, 7, 0, [], []), (0, 7, 4, [], [])], [(3, 0, [], [(0, (-1))]), ((-5), 0, [], [(0, 1)]), ((-5), 0, [], [(1, 1)]), (0, 0, [(2, 1)], [])])) [nthF fs a0] [nthZ zs i0, nthZ zs i1, nthZ zs i2] ↔ _
  have e0 : ∀ x : Int, (0 : Int) + 7 * x + 0 + 0 = 7*x := fun x => by omega
  have e1 : ∀ x : Int, (4 : Int) + 7 * x + 0 + 0 = 7*x+4 := fun x => by omega
  constructor
  · intro h x h1 h2
    obtain ⟨l0, hl, q⟩ := h x h1 h2
    rcases List.mem_cons.mp hl with hl | hl
    · subst hl; replace q : 0 ≤ (3 : Int) + 0 * x + 0 + ((-1) * nthF fs a0 ((0 : Int) + 7 * x + 0 + 0) + 0) := q; try simp only [e0, e1] at q
      left; omega
    · skip
      rcases List.mem_cons.mp hl with hl | hl
      · subst hl; replace q : 0 ≤ ((-5) : Int) + 0 * x + 0 + (1 * nthF fs a0 ((0 : Int) + 7 * x + 0 + 0) + 0) := q; try simp only [e0, e1] at q
        right; left; omega
      · skip
        rcases List.mem_cons.mp hl with hl | hl
        · subst hl; replace q : 0 ≤ ((-5) : Int) + 0 * x + 0 + (1 * nthF fs a0 ((4 : Int) + 7 * x + 0 + 0) + 0) := q; try simp only [e0, e1] at q
          right; right; left; omega
        · skip
          rcases List.mem_cons.mp hl with hl | hl
          · subst hl; replace q : 0 ≤ (0 : Int) + 0 * x + (1 * nthZ zs i2 + 0) + 0 := q; try simp only [e0, e1] at q
            right; right; right; omega
          · cases hl
  · intro h x h1 h2
    have q := h x h1 h2
    rcases q with q | q | q | q
    · refine ⟨_, (List.mem_cons_self), ?_⟩; show 0 ≤ (3 : Int) + 0 * x + 0 + ((-1) * nthF fs a0 ((0 : Int) + 7 * x + 0 + 0) + 0)
      try simp only [e0, e1]
      omega
    · refine ⟨_, (List.mem_cons_of_mem _ (List.mem_cons_self)), ?_⟩; show 0 ≤ ((-5) : Int) + 0 * x + 0 + (1 * nthF fs a0 ((0 : Int) + 7 * x + 0 + 0) + 0)
      try simp only [e0, e1]
      omega
    · refine ⟨_, (List.mem_cons_of_mem _ (List.mem_cons_of_mem _ (List.mem_cons_self))), ?_⟩; show 0 ≤ ((-5) : Int) + 0 * x + 0 + (1 * nthF fs a0 ((4 : Int) + 7 * x + 0 + 0) + 0)
      try simp only [e0, e1]
      omega
    · refine ⟨_, (List.mem_cons_of_mem _ (List.mem_cons_of_mem _ (List.mem_cons_of_mem _ (List.mem_cons_self)))), ?_⟩; show 0 ≤ (0 : Int) + 0 * x + (1 * nthZ zs i2 + 0) + 0
      try simp only [e0, e1]
      omega
theorem s_pl2 {fs : List (Int → Int)} {zs : List Int} {a0 i0 i1 i2 : Nat} : SnOk fs zs (48, [1, a0, i0, i1, i2], []) ↔ ∀ x : Int, nthZ zs i0 ≤ x → x < nthZ zs i1 → ((0 ≤ 3+(-1)*nthF fs a0 (7*x)) ∨ (0 ≤ -5+(1)*nthF fs a0 (7*x)) ∨ (0 ≤ -6+(1)*nthF fs a0 (7*x+4)) ∨ (0 ≤ -1+(-1)*nthF fs a0 (7*x+5)) ∨ (0 ≤ 0+(1)*nthZ zs i2)) := by
  show fOk ((1, 3), ([(0, 7, 0, [], []), (0, 7, 4, [], []), (0, 7, 5, [], [])], [(3, 0, [], [(0, (-1))]), ((-5), 0, [], [(0, 1)]), ((-6), 0, [], [(1, 1)]), ((-1), 0, [], [(2, (-1))]), (0, 0, [(2, 1)], [])])) [nthF fs a0] [nthZ zs i0, nthZ zs i1, nthZ zs i2] ↔ _
  have e0 : ∀ x : Int, (0 : Int) + 7 * x + 0 + 0 = 7*x := fun x => by omega
  have e1 : ∀ x : Int, (4 : Int) + 7 * x + 0 + 0 = 7*x+4 := fun x => by omega
  have e2 : ∀ x : Int, (5 : Int) + 7 * x + 0 + 0 = 7*x+5 := fun x => by omega
  constructor
  · intro h x h1 h2
    obtain ⟨l0, hl, q⟩ := h x h1 h2
    rcases List.mem_cons.mp hl with hl | hl
    · subst hl; replace q : 0 ≤ (3 : Int) + 0 * x + 0 + ((-1) * nthF fs a0 ((0 : Int) + 7 * x + 0 + 0) + 0) := q; try simp only [e0, e1, e2] at q
      left; omega
    · skip
      rcases List.mem_cons.mp hl with hl | hl
      · subst hl; replace q : 0 ≤ ((-5) : Int) + 0 * x + 0 + (1 * nthF fs a0 ((0 : Int) + 7 * x + 0 + 0) + 0) := q; try simp only [e0, e1, e2] at q
        right; left; omega
      · skip
        rcases List.mem_cons.mp hl with hl | hl
        · subst hl; replace q : 0 ≤ ((-6) : Int) + 0 * x + 0 + (1 * nthF fs a0 ((4 : Int) + 7 * x + 0 + 0) + 0) := q; try simp only [e0, e1, e2] at q
          right; right; left; omega
        · skip
          rcases List.mem_cons.mp hl with hl | hl
          · subst hl; replace q : 0 ≤ ((-1) : Int) + 0 * x + 0 + ((-1) * nthF fs a0 ((5 : Int) + 7 * x + 0 + 0) + 0) := q; try simp only [e0, e1, e2] at q
            right; right; right; left; omega
          · skip
            rcases List.mem_cons.mp hl with hl | hl
            · subst hl; replace q : 0 ≤ (0 : Int) + 0 * x + (1 * nthZ zs i2 + 0) + 0 := q; try simp only [e0, e1, e2] at q
              right; right; right; right; omega
            · cases hl
  · intro h x h1 h2
    have q := h x h1 h2
    rcases q with q | q | q | q | q
    · refine ⟨_, (List.mem_cons_self), ?_⟩; show 0 ≤ (3 : Int) + 0 * x + 0 + ((-1) * nthF fs a0 ((0 : Int) + 7 * x + 0 + 0) + 0)
      try simp only [e0, e1, e2]
      omega
    · refine ⟨_, (List.mem_cons_of_mem _ (List.mem_cons_self)), ?_⟩; show 0 ≤ ((-5) : Int) + 0 * x + 0 + (1 * nthF fs a0 ((0 : Int) + 7 * x + 0 + 0) + 0)
      try simp only [e0, e1, e2]
      omega
    · refine ⟨_, (List.mem_cons_of_mem _ (List.mem_cons_of_mem _ (List.mem_cons_self))), ?_⟩; show 0 ≤ ((-6) : Int) + 0 * x + 0 + (1 * nthF fs a0 ((4 : Int) + 7 * x + 0 + 0) + 0)
      try simp only [e0, e1, e2]
      omega
    · refine ⟨_, (List.mem_cons_of_mem _ (List.mem_cons_of_mem _ (List.mem_cons_of_mem _ (List.mem_cons_self)))), ?_⟩; show 0 ≤ ((-1) : Int) + 0 * x + 0 + ((-1) * nthF fs a0 ((5 : Int) + 7 * x + 0 + 0) + 0)
      try simp only [e0, e1, e2]
      omega
    · refine ⟨_, (List.mem_cons_of_mem _ (List.mem_cons_of_mem _ (List.mem_cons_of_mem _ (List.mem_cons_of_mem _ (List.mem_cons_self))))), ?_⟩; show 0 ≤ (0 : Int) + 0 * x + (1 * nthZ zs i2 + 0) + 0
      try simp only [e0, e1, e2]
      omega
theorem s_pl3 {fs : List (Int → Int)} {zs : List Int} {a0 i0 i1 : Nat} : SnOk fs zs (49, [1, a0, i0, i1], []) ↔ ∀ x : Int, nthZ zs i0 ≤ x → x < nthZ zs i1 → ((0 ≤ 3+(-1)*nthF fs a0 (7*x)) ∨ (0 ≤ -2+(1)*nthF fs a0 (7*x+4))) := by
  show fOk ((1, 2), ([(0, 7, 0, [], []), (0, 7, 4, [], [])], [(3, 0, [], [(0, (-1))]), ((-2), 0, [], [(1, 1)])])) [nthF fs a0] [nthZ zs i0, nthZ zs i1] ↔ _
  have e0 : ∀ x : Int, (0 : Int) + 7 * x + 0 + 0 = 7*x := fun x => by omega
  have e1 : ∀ x : Int, (4 : Int) + 7 * x + 0 + 0 = 7*x+4 := fun x => by omega
  constructor
  · intro h x h1 h2
    obtain ⟨l0, hl, q⟩ := h x h1 h2
    rcases List.mem_cons.mp hl with hl | hl
    · subst hl; replace q : 0 ≤ (3 : Int) + 0 * x + 0 + ((-1) * nthF fs a0 ((0 : Int) + 7 * x + 0 + 0) + 0) := q; try simp only [e0, e1] at q
      left; omega
    · skip
      rcases List.mem_cons.mp hl with hl | hl
      · subst hl; replace q : 0 ≤ ((-2) : Int) + 0 * x + 0 + (1 * nthF fs a0 ((4 : Int) + 7 * x + 0 + 0) + 0) := q; try simp only [e0, e1] at q
        right; omega
      · cases hl
  · intro h x h1 h2
    have q := h x h1 h2
    rcases q with q | q
    · refine ⟨_, (List.mem_cons_self), ?_⟩; show 0 ≤ (3 : Int) + 0 * x + 0 + ((-1) * nthF fs a0 ((0 : Int) + 7 * x + 0 + 0) + 0)
      try simp only [e0, e1]
      omega
    · refine ⟨_, (List.mem_cons_of_mem _ (List.mem_cons_self)), ?_⟩; show 0 ≤ ((-2) : Int) + 0 * x + 0 + (1 * nthF fs a0 ((4 : Int) + 7 * x + 0 + 0) + 0)
      try simp only [e0, e1]
      omega
theorem s_re {fs : List (Int → Int)} {zs : List Int} {a0 a1 i0 i1 i2 : Nat} : SnOk fs zs (50, [2, a0, a1, i0, i1, i2], []) ↔ ∀ x : Int, nthZ zs i0 ≤ x → x < nthZ zs i1 → ((0 ≤ 0+(1)*nthF fs a0 (x+17*nthZ zs i2+9)+(-1)*nthF fs a1 (x))) := by
  show fOk ((2, 3), ([(0, 1, 9, [(2, 17)], []), (1, 1, 0, [], [])], [(0, 0, [], [(0, 1), (1, (-1))])])) [nthF fs a0, nthF fs a1] [nthZ zs i0, nthZ zs i1, nthZ zs i2] ↔ _
  have e0 : ∀ x : Int, (9 : Int) + 1 * x + (17 * nthZ zs i2 + 0) + 0 = x+17*nthZ zs i2+9 := fun x => by omega
  have e1 : ∀ x : Int, (0 : Int) + 1 * x + 0 + 0 = x := fun x => by omega
  constructor
  · intro h x h1 h2
    obtain ⟨l0, hl, q⟩ := h x h1 h2
    rcases List.mem_cons.mp hl with hl | hl
    · subst hl; replace q : 0 ≤ (0 : Int) + 0 * x + 0 + (1 * nthF fs a0 ((9 : Int) + 1 * x + (17 * nthZ zs i2 + 0) + 0) + ((-1) * nthF fs a1 ((0 : Int) + 1 * x + 0 + 0) + 0)) := q; try simp only [e0, e1] at q
      omega
    · cases hl
  · intro h x h1 h2
    have q := h x h1 h2
    refine ⟨_, (List.mem_cons_self), ?_⟩; show 0 ≤ (0 : Int) + 0 * x + 0 + (1 * nthF fs a0 ((9 : Int) + 1 * x + (17 * nthZ zs i2 + 0) + 0) + ((-1) * nthF fs a1 ((0 : Int) + 1 * x + 0 + 0) + 0))
    try simp only [e0, e1]
    omega
theorem s_rsu {fs : List (Int → Int)} {zs : List Int} {a0 i0 i1 i2 i3 : Nat} : SnOk fs zs (52, [1, a0, i0, i1, i2, i3], []) ↔ ∀ x : Int, nthZ zs i0 ≤ x → x < nthZ zs i1 → ((0 ≤ 0+(1)*nthZ zs i3+(-1)*nthF fs a0 (x+17*nthZ zs i2+5)+(-1)*nthF fs a0 (x+17*nthZ zs i2+9)) ∨ (0 ≤ -3+(1)*x)) := by
  show fOk ((1, 4), ([(0, 1, 5, [(2, 17)], []), (0, 1, 9, [(2, 17)], [])], [(0, 0, [(3, 1)], [(0, (-1)), (1, (-1))]), ((-3), 1, [], [])])) [nthF fs a0] [nthZ zs i0, nthZ zs i1, nthZ zs i2, nthZ zs i3] ↔ _
  have e0 : ∀ x : Int, (5 : Int) + 1 * x + (17 * nthZ zs i2 + 0) + 0 = x+17*nthZ zs i2+5 := fun x => by omega
  have e1 : ∀ x : Int, (9 : Int) + 1 * x + (17 * nthZ zs i2 + 0) + 0 = x+17*nthZ zs i2+9 := fun x => by omega
  constructor
  · intro h x h1 h2
    obtain ⟨l0, hl, q⟩ := h x h1 h2
    rcases List.mem_cons.mp hl with hl | hl
    · subst hl; replace q : 0 ≤ (0 : Int) + 0 * x + (1 * nthZ zs i3 + 0) + ((-1) * nthF fs a0 ((5 : Int) + 1 * x + (17 * nthZ zs i2 + 0) + 0) + ((-1) * nthF fs a0 ((9 : Int) + 1 * x + (17 * nthZ zs i2 + 0) + 0) + 0)) := q; try simp only [e0, e1] at q
      left; omega
    · skip
      rcases List.mem_cons.mp hl with hl | hl
      · subst hl; replace q : 0 ≤ ((-3) : Int) + 1 * x + 0 + 0 := q; try simp only [e0, e1] at q
        right; omega
      · cases hl
  · intro h x h1 h2
    have q := h x h1 h2
    rcases q with q | q
    · refine ⟨_, (List.mem_cons_self), ?_⟩; show 0 ≤ (0 : Int) + 0 * x + (1 * nthZ zs i3 + 0) + ((-1) * nthF fs a0 ((5 : Int) + 1 * x + (17 * nthZ zs i2 + 0) + 0) + ((-1) * nthF fs a0 ((9 : Int) + 1 * x + (17 * nthZ zs i2 + 0) + 0) + 0))
      try simp only [e0, e1]
      omega
    · refine ⟨_, (List.mem_cons_of_mem _ (List.mem_cons_self)), ?_⟩; show 0 ≤ ((-3) : Int) + 1 * x + 0 + 0
      try simp only [e0, e1]
      omega
theorem s_ofg {fs : List (Int → Int)} {zs : List Int} {a0 i0 i1 i2 : Nat} : SnOk fs zs (53, [1, a0, i0, i1, i2], []) ↔ ∀ x : Int, nthZ zs i0 ≤ x → x < nthZ zs i1 → ((0 ≤ 0+(-1)*nthZ zs i2+(1)*nthF fs a0 (6*x))) := by
  show fOk ((1, 3), ([(0, 6, 0, [], [])], [(0, 0, [(2, (-1))], [(0, 1)])])) [nthF fs a0] [nthZ zs i0, nthZ zs i1, nthZ zs i2] ↔ _
  have e0 : ∀ x : Int, (0 : Int) + 6 * x + 0 + 0 = 6*x := fun x => by omega
  constructor
  · intro h x h1 h2
    obtain ⟨l0, hl, q⟩ := h x h1 h2
    rcases List.mem_cons.mp hl with hl | hl
    · subst hl; replace q : 0 ≤ (0 : Int) + 0 * x + ((-1) * nthZ zs i2 + 0) + (1 * nthF fs a0 ((0 : Int) + 6 * x + 0 + 0) + 0) := q; try simp only [e0] at q
      omega
    · cases hl
  · intro h x h1 h2
    have q := h x h1 h2
    refine ⟨_, (List.mem_cons_self), ?_⟩; show 0 ≤ (0 : Int) + 0 * x + ((-1) * nthZ zs i2 + 0) + (1 * nthF fs a0 ((0 : Int) + 6 * x + 0 + 0) + 0)
    try simp only [e0]
    omega
theorem s_ofl {fs : List (Int → Int)} {zs : List Int} {a0 i0 i1 i2 i3 : Nat} : SnOk fs zs (54, [1, a0, i0, i1, i2, i3], []) ↔ ∀ x : Int, nthZ zs i0 ≤ x → x < nthZ zs i1 → ((0 ≤ -1+(1)*nthZ zs i2+(-1)*nthF fs a0 (6*x)) ∨ (0 ≤ 0+(1)*nthZ zs i3)) := by
  show fOk ((1, 4), ([(0, 6, 0, [], [])], [((-1), 0, [(2, 1)], [(0, (-1))]), (0, 0, [(3, 1)], [])])) [nthF fs a0] [nthZ zs i0, nthZ zs i1, nthZ zs i2, nthZ zs i3] ↔ _
  have e0 : ∀ x : Int, (0 : Int) + 6 * x + 0 + 0 = 6*x := fun x => by omega
  constructor
  · intro h x h1 h2
    obtain ⟨l0, hl, q⟩ := h x h1 h2
    rcases List.mem_cons.mp hl with hl | hl
    · subst hl; replace q : 0 ≤ ((-1) : Int) + 0 * x + (1 * nthZ zs i2 + 0) + ((-1) * nthF fs a0 ((0 : Int) + 6 * x + 0 + 0) + 0) := q; try simp only [e0] at q
      left; omega
    · skip
      rcases List.mem_cons.mp hl with hl | hl
      · subst hl; replace q : 0 ≤ (0 : Int) + 0 * x + (1 * nthZ zs i3 + 0) + 0 := q; try simp only [e0] at q
        right; omega
      · cases hl
  · intro h x h1 h2
    have q := h x h1 h2
    rcases q with q | q
    · refine ⟨_, (List.mem_cons_self), ?_⟩; show 0 ≤ ((-1) : Int) + 0 * x + (1 * nthZ zs i2 + 0) + ((-1) * nthF fs a0 ((0 : Int) + 6 * x + 0 + 0) + 0)
      try simp only [e0]
      omega
    · refine ⟨_, (List.mem_cons_of_mem _ (List.mem_cons_self)), ?_⟩; show 0 ≤ (0 : Int) + 0 * x + (1 * nthZ zs i3 + 0) + 0
      try simp only [e0]
      omega
theorem s_kd4 {fs : List (Int → Int)} {zs : List Int} {a0 i0 i1 : Nat} : SnOk fs zs (57, [1, a0, i0, i1], []) ↔ ∀ x : Int, nthZ zs i0 ≤ x → x < nthZ zs i1 → ((0 ≤ 4+(-1)*nthF fs a0 (7*x))) := by
  show fOk ((1, 2), ([(0, 7, 0, [], [])], [(4, 0, [], [(0, (-1))])])) [nthF fs a0] [nthZ zs i0, nthZ zs i1] ↔ _
  have e0 : ∀ x : Int, (0 : Int) + 7 * x + 0 + 0 = 7*x := fun x => by omega
  constructor
  · intro h x h1 h2
    obtain ⟨l0, hl, q⟩ := h x h1 h2
    rcases List.mem_cons.mp hl with hl | hl
    · subst hl; replace q : 0 ≤ (4 : Int) + 0 * x + 0 + ((-1) * nthF fs a0 ((0 : Int) + 7 * x + 0 + 0) + 0) := q; try simp only [e0] at q
      omega
    · cases hl
  · intro h x h1 h2
    have q := h x h1 h2
    refine ⟨_, (List.mem_cons_self), ?_⟩; show 0 ≤ (4 : Int) + 0 * x + 0 + ((-1) * nthF fs a0 ((0 : Int) + 7 * x + 0 + 0) + 0)
    try simp only [e0]
    omega
theorem s_ovl {fs : List (Int → Int)} {zs : List Int} {a0 i0 i1 : Nat} : SnOk fs zs (58, [1, a0, i0, i1], []) ↔ ∀ x : Int, nthZ zs i0 ≤ x → x < nthZ zs i1 → ((0 ≤ 65536+(-1)*nthF fs a0 (7*x+3)+(-1)*nthF fs a0 (7*x+4))) := by
  show fOk ((1, 2), ([(0, 7, 3, [], []), (0, 7, 4, [], [])], [(65536, 0, [], [(0, (-1)), (1, (-1))])])) [nthF fs a0] [nthZ zs i0, nthZ zs i1] ↔ _
  have e0 : ∀ x : Int, (3 : Int) + 7 * x + 0 + 0 = 7*x+3 := fun x => by omega
  have e1 : ∀ x : Int, (4 : Int) + 7 * x + 0 + 0 = 7*x+4 := fun x => by omega
  constructor
  · intro h x h1 h2
    obtain ⟨l0, hl, q⟩ := h x h1 h2
    rcases List.mem_cons.mp hl with hl | hl
    · subst hl; replace q : 0 ≤ (65536 : Int) + 0 * x + 0 + ((-1) * nthF fs a0 ((3 : Int) + 7 * x + 0 + 0) + ((-1) * nthF fs a0 ((4 : Int) + 7 * x + 0 + 0) + 0)) := q; try simp only [e0, e1] at q
      omega
    · cases hl
  · intro h x h1 h2
    have q := h x h1 h2
    refine ⟨_, (List.mem_cons_self), ?_⟩; show 0 ≤ (65536 : Int) + 0 * x + 0 + ((-1) * nthF fs a0 ((3 : Int) + 7 * x + 0 + 0) + ((-1) * nthF fs a0 ((4 : Int) + 7 * x + 0 + 0) + 0))
    try simp only [e0, e1]
    omega
theorem s_sp1 {fs : List (Int → Int)} {zs : List Int} {a0 i0 i1 : Nat} : SnOk fs zs (60, [1, a0, i0, i1], []) ↔ ∀ x : Int, nthZ zs i0 ≤ x → x < nthZ zs i1 → ((0 ≤ -1+(-1)*nthF fs a0 (6*x+5)) ∨ (0 ≤ -2+(-1)*nthF fs a0 (6*x+4)) ∨ (0 ≤ 0+(1)*nthF fs a0 (6*x+4))) := by
  show fOk ((1, 2), ([(0, 6, 5, [], []), (0, 6, 4, [], [])], [((-1), 0, [], [(0, (-1))]), ((-2), 0, [], [(1, (-1))]), (0, 0, [], [(1, 1)])])) [nthF fs a0] [nthZ zs i0, nthZ zs i1] ↔ _
  have e0 : ∀ x : Int, (5 : Int) + 6 * x + 0 + 0 = 6*x+5 := fun x => by omega
  have e1 : ∀ x : Int, (4 : Int) + 6 * x + 0 + 0 = 6*x+4 := fun x => by omega
  constructor
  · intro h x h1 h2
    obtain ⟨l0, hl, q⟩ := h x h1 h2
    rcases List.mem_cons.mp hl with hl | hl
    · subst hl; replace q : 0 ≤ ((-1) : Int) + 0 * x + 0 + ((-1) * nthF fs a0 ((5 : Int) + 6 * x + 0 + 0) + 0) := q; try simp only [e0, e1] at q
      left; omega
    · skip
      rcases List.mem_cons.mp hl with hl | hl
      · subst hl; replace q : 0 ≤ ((-2) : Int) + 0 * x + 0 + ((-1) * nthF fs a0 ((4 : Int) + 6 * x + 0 + 0) + 0) := q; try simp only [e0, e1] at q
        right; left; omega
      · skip
        rcases List.mem_cons.mp hl with hl | hl
        · subst hl; replace q : 0 ≤ (0 : Int) + 0 * x + 0 + (1 * nthF fs a0 ((4 : Int) + 6 * x + 0 + 0) + 0) := q; try simp only [e0, e1] at q
          right; right; omega
        · cases hl
  · intro h x h1 h2
    have q := h x h1 h2
    rcases q with q | q | q
    · refine ⟨_, (List.mem_cons_self), ?_⟩; show 0 ≤ ((-1) : Int) + 0 * x + 0 + ((-1) * nthF fs a0 ((5 : Int) + 6 * x + 0 + 0) + 0)
      try simp only [e0, e1]
      omega
    · refine ⟨_, (List.mem_cons_of_mem _ (List.mem_cons_self)), ?_⟩; show 0 ≤ ((-2) : Int) + 0 * x + 0 + ((-1) * nthF fs a0 ((4 : Int) + 6 * x + 0 + 0) + 0)
      try simp only [e0, e1]
      omega
    · refine ⟨_, (List.mem_cons_of_mem _ (List.mem_cons_of_mem _ (List.mem_cons_self))), ?_⟩; show 0 ≤ (0 : Int) + 0 * x + 0 + (1 * nthF fs a0 ((4 : Int) + 6 * x + 0 + 0) + 0)
      try simp only [e0, e1]
      omega
theorem s_sp2 {fs : List (Int → Int)} {zs : List Int} {a0 i0 i1 : Nat} : SnOk fs zs (61, [1, a0, i0, i1], []) ↔ ∀ x : Int, nthZ zs i0 ≤ x → x < nthZ zs i1 → ((0 ≤ 1+(1)*nthF fs a0 (6*x+5)) ∨ (0 ≤ -2+(-1)*nthF fs a0 (6*x+4)) ∨ (0 ≤ 0+(1)*nthF fs a0 (6*x+4))) := by
  show fOk ((1, 2), ([(0, 6, 5, [], []), (0, 6, 4, [], [])], [(1, 0, [], [(0, 1)]), ((-2), 0, [], [(1, (-1))]), (0, 0, [], [(1, 1)])])) [nthF fs a0] [nthZ zs i0, nthZ zs i1] ↔ _
  have e0 : ∀ x : Int, (5 : Int) + 6 * x + 0 + 0 = 6*x+5 := fun x => by omega
  have e1 : ∀ x : Int, (4 : Int) + 6 * x + 0 + 0 = 6*x+4 := fun x => by omega
  constructor
  · intro h x h1 h2
    obtain ⟨l0, hl, q⟩ := h x h1 h2
    rcases List.mem_cons.mp hl with hl | hl
    · subst hl; replace q : 0 ≤ (1 : Int) + 0 * x + 0 + (1 * nthF fs a0 ((5 : Int) + 6 * x + 0 + 0) + 0) := q; try simp only [e0, e1] at q
      left; omega
    · skip
      rcases List.mem_cons.mp hl with hl | hl
      · subst hl; replace q : 0 ≤ ((-2) : Int) + 0 * x + 0 + ((-1) * nthF fs a0 ((4 : Int) + 6 * x + 0 + 0) + 0) := q; try simp only [e0, e1] at q
        right; left; omega
      · skip
        rcases List.mem_cons.mp hl with hl | hl
        · subst hl; replace q : 0 ≤ (0 : Int) + 0 * x + 0 + (1 * nthF fs a0 ((4 : Int) + 6 * x + 0 + 0) + 0) := q; try simp only [e0, e1] at q
          right; right; omega
        · cases hl
  · intro h x h1 h2
    have q := h x h1 h2
    rcases q with q | q | q
    · refine ⟨_, (List.mem_cons_self), ?_⟩; show 0 ≤ (1 : Int) + 0 * x + 0 + (1 * nthF fs a0 ((5 : Int) + 6 * x + 0 + 0) + 0)
      try simp only [e0, e1]
      omega
    · refine ⟨_, (List.mem_cons_of_mem _ (List.mem_cons_self)), ?_⟩; show 0 ≤ ((-2) : Int) + 0 * x + 0 + ((-1) * nthF fs a0 ((4 : Int) + 6 * x + 0 + 0) + 0)
      try simp only [e0, e1]
      omega
    · refine ⟨_, (List.mem_cons_of_mem _ (List.mem_cons_of_mem _ (List.mem_cons_self))), ?_⟩; show 0 ≤ (0 : Int) + 0 * x + 0 + (1 * nthF fs a0 ((4 : Int) + 6 * x + 0 + 0) + 0)
      try simp only [e0, e1]
      omega
theorem s_len1 {fs : List (Int → Int)} {zs : List Int} {a0 i0 i1 : Nat} : SnOk fs zs (64, [1, a0, i0, i1], []) ↔ ∀ x : Int, nthZ zs i0 ≤ x → x < nthZ zs i1 → ((0 ≤ 2+(-1)*nthF fs a0 (7*x)) ∨ (0 ≤ -1+(1)*nthF fs a0 (7*x+4))) := by
  show fOk ((1, 2), ([(0, 7, 0, [], []), (0, 7, 4, [], [])], [(2, 0, [], [(0, (-1))]), ((-1), 0, [], [(1, 1)])])) [nthF fs a0] [nthZ zs i0, nthZ zs i1] ↔ _
  have e0 : ∀ x : Int, (0 : Int) + 7 * x + 0 + 0 = 7*x := fun x => by omega
  have e1 : ∀ x : Int, (4 : Int) + 7 * x + 0 + 0 = 7*x+4 := fun x => by omega
  constructor
  · intro h x h1 h2
    obtain ⟨l0, hl, q⟩ := h x h1 h2
    rcases List.mem_cons.mp hl with hl | hl
    · subst hl; replace q : 0 ≤ (2 : Int) + 0 * x + 0 + ((-1) * nthF fs a0 ((0 : Int) + 7 * x + 0 + 0) + 0) := q; try simp only [e0, e1] at q
      left; omega
    · skip
      rcases List.mem_cons.mp hl with hl | hl
      · subst hl; replace q : 0 ≤ ((-1) : Int) + 0 * x + 0 + (1 * nthF fs a0 ((4 : Int) + 7 * x + 0 + 0) + 0) := q; try simp only [e0, e1] at q
        right; omega
      · cases hl
  · intro h x h1 h2
    have q := h x h1 h2
    rcases q with q | q
    · refine ⟨_, (List.mem_cons_self), ?_⟩; show 0 ≤ (2 : Int) + 0 * x + 0 + ((-1) * nthF fs a0 ((0 : Int) + 7 * x + 0 + 0) + 0)
      try simp only [e0, e1]
      omega
    · refine ⟨_, (List.mem_cons_of_mem _ (List.mem_cons_self)), ?_⟩; show 0 ≤ ((-1) : Int) + 0 * x + 0 + (1 * nthF fs a0 ((4 : Int) + 7 * x + 0 + 0) + 0)
      try simp only [e0, e1]
      omega
theorem s_lez {fs : List (Int → Int)} {zs : List Int} {a0 i0 i1 i2 : Nat} : SnOk fs zs (66, [1, a0, i0, i1, i2], []) ↔ ∀ x : Int, nthZ zs i0 ≤ x → x < nthZ zs i1 → ((0 ≤ 0+(-1)*nthF fs a0 (x)) ∨ (0 ≤ 0+(1)*nthZ zs i2+(-1)*nthF fs a0 (x))) := by
  show fOk ((1, 3), ([(0, 1, 0, [], [])], [(0, 0, [], [(0, (-1))]), (0, 0, [(2, 1)], [(0, (-1))])])) [nthF fs a0] [nthZ zs i0, nthZ zs i1, nthZ zs i2] ↔ _
  have e0 : ∀ x : Int, (0 : Int) + 1 * x + 0 + 0 = x := fun x => by omega
  constructor
  · intro h x h1 h2
    obtain ⟨l0, hl, q⟩ := h x h1 h2
    rcases List.mem_cons.mp hl with hl | hl
    · subst hl; replace q : 0 ≤ (0 : Int) + 0 * x + 0 + ((-1) * nthF fs a0 ((0 : Int) + 1 * x + 0 + 0) + 0) := q; try simp only [e0] at q
      left; omega
    · skip
      rcases List.mem_cons.mp hl with hl | hl
      · subst hl; replace q : 0 ≤ (0 : Int) + 0 * x + (1 * nthZ zs i2 + 0) + ((-1) * nthF fs a0 ((0 : Int) + 1 * x + 0 + 0) + 0) := q; try simp only [e0] at q
        right; omega
      · cases hl
  · intro h x h1 h2
    have q := h x h1 h2
    rcases q with q | q
    · refine ⟨_, (List.mem_cons_self), ?_⟩; show 0 ≤ (0 : Int) + 0 * x + 0 + ((-1) * nthF fs a0 ((0 : Int) + 1 * x + 0 + 0) + 0)
      try simp only [e0]
      omega
    · refine ⟨_, (List.mem_cons_of_mem _ (List.mem_cons_self)), ?_⟩; show 0 ≤ (0 : Int) + 0 * x + (1 * nthZ zs i2 + 0) + ((-1) * nthF fs a0 ((0 : Int) + 1 * x + 0 + 0) + 0)
      try simp only [e0]
      omega
theorem s_nm_lo {fs : List (Int → Int)} {zs : List Int} {a0 a1 i0 i1 : Nat} : SnOk fs zs (34, [2, a0, a1, i0, i1], []) ↔ ∀ x : Int, nthZ zs i0 ≤ x → x < nthZ zs i1 → ((0 ≤ 0+(-1)*nthF fs a0 (x)) ∨ (0 ≤ -2+(1)*nthF fs a0 (x)) ∨ (0 ≤ 1+(1)*nthF fs a1 (x))) := by
  show fOk ((2, 2), ([(0, 1, 0, [], []), (1, 1, 0, [], [])], [(0, 0, [], [(0, (-1))]), ((-2), 0, [], [(0, 1)]), (1, 0, [], [(1, 1)])])) [nthF fs a0, nthF fs a1] [nthZ zs i0, nthZ zs i1] ↔ _
  have e0 : ∀ x : Int, (0 : Int) + 1 * x + 0 + 0 = x := fun x => by omega
  have e1 : ∀ x : Int, (0 : Int) + 1 * x + 0 + 0 = x := fun x => by omega
  constructor
  · intro h x h1 h2
    obtain ⟨l0, hl, q⟩ := h x h1 h2
    rcases List.mem_cons.mp hl with hl | hl
    · subst hl; replace q : 0 ≤ (0 : Int) + 0 * x + 0 + ((-1) * nthF fs a0 ((0 : Int) + 1 * x + 0 + 0) + 0) := q; try simp only [e0, e1] at q
      left; omega
    · skip
      rcases List.mem_cons.mp hl with hl | hl
      · subst hl; replace q : 0 ≤ ((-2) : Int) + 0 * x + 0 + (1 * nthF fs a0 ((0 : Int) + 1 * x + 0 + 0) + 0) := q; try simp only [e0, e1] at q
        right; left; omega
      · skip
        rcases List.mem_cons.mp hl with hl | hl
        · subst hl; replace q : 0 ≤ (1 : Int) + 0 * x + 0 + (1 * nthF fs a1 ((0 : Int) + 1 * x + 0 + 0) + 0) := q; try simp only [e0, e1] at q
          right; right; omega
        · cases hl
  · intro h x h1 h2
    have q := h x h1 h2
    rcases q with q | q | q
    · refine ⟨_, (List.mem_cons_self), ?_⟩; show 0 ≤ (0 : Int) + 0 * x + 0 + ((-1) * nthF fs a0 ((0 : Int) + 1 * x + 0 + 0) + 0)
      try simp only [e0, e1]
      omega
    · refine ⟨_, (List.mem_cons_of_mem _ (List.mem_cons_self)), ?_⟩; show 0 ≤ ((-2) : Int) + 0 * x + 0 + (1 * nthF fs a0 ((0 : Int) + 1 * x + 0 + 0) + 0)
      try simp only [e0, e1]
      omega
    · refine ⟨_, (List.mem_cons_of_mem _ (List.mem_cons_of_mem _ (List.mem_cons_self))), ?_⟩; show 0 ≤ (1 : Int) + 0 * x + 0 + (1 * nthF fs a1 ((0 : Int) + 1 * x + 0 + 0) + 0)
      try simp only [e0, e1]
      omega
theorem s_nm_hi {fs : List (Int → Int)} {zs : List Int} {a0 a1 i0 i1 : Nat} : SnOk fs zs (35, [2, a0, a1, i0, i1], []) ↔ ∀ x : Int, nthZ zs i0 ≤ x → x < nthZ zs i1 → ((0 ≤ 0+(-1)*nthF fs a0 (x)) ∨ (0 ≤ -2+(1)*nthF fs a0 (x)) ∨ (0 ≤ 188+(-1)*nthF fs a1 (x))) := by
  show fOk ((2, 2), ([(0, 1, 0, [], []), (1, 1, 0, [], [])], [(0, 0, [], [(0, (-1))]), ((-2), 0, [], [(0, 1)]), (188, 0, [], [(1, (-1))])])) [nthF fs a0, nthF fs a1] [nthZ zs i0, nthZ zs i1] ↔ _
  have e0 : ∀ x : Int, (0 : Int) + 1 * x + 0 + 0 = x := fun x => by omega
  have e1 : ∀ x : Int, (0 : Int) + 1 * x + 0 + 0 = x := fun x => by omega
  constructor
  · intro h x h1 h2
    obtain ⟨l0, hl, q⟩ := h x h1 h2
    rcases List.mem_cons.mp hl with hl | hl
    · subst hl; replace q : 0 ≤ (0 : Int) + 0 * x + 0 + ((-1) * nthF fs a0 ((0 : Int) + 1 * x + 0 + 0) + 0) := q; try simp only [e0, e1] at q
      left; omega
    · skip
      rcases List.mem_cons.mp hl with hl | hl
      · subst hl; replace q : 0 ≤ ((-2) : Int) + 0 * x + 0 + (1 * nthF fs a0 ((0 : Int) + 1 * x + 0 + 0) + 0) := q; try simp only [e0, e1] at q
        right; left; omega
      · skip
        rcases List.mem_cons.mp hl with hl | hl
        · subst hl; replace q : 0 ≤ (188 : Int) + 0 * x + 0 + ((-1) * nthF fs a1 ((0 : Int) + 1 * x + 0 + 0) + 0) := q; try simp only [e0, e1] at q
          right; right; omega
        · cases hl
  · intro h x h1 h2
    have q := h x h1 h2
    rcases q with q | q | q
    · refine ⟨_, (List.mem_cons_self), ?_⟩; show 0 ≤ (0 : Int) + 0 * x + 0 + ((-1) * nthF fs a0 ((0 : Int) + 1 * x + 0 + 0) + 0)
      try simp only [e0, e1]
      omega
    · refine ⟨_, (List.mem_cons_of_mem _ (List.mem_cons_self)), ?_⟩; show 0 ≤ ((-2) : Int) + 0 * x + 0 + (1 * nthF fs a0 ((0 : Int) + 1 * x + 0 + 0) + 0)
      try simp only [e0, e1]
      omega
    · refine ⟨_, (List.mem_cons_of_mem _ (List.mem_cons_of_mem _ (List.mem_cons_self))), ?_⟩; show 0 ≤ (188 : Int) + 0 * x + 0 + ((-1) * nthF fs a1 ((0 : Int) + 1 * x + 0 + 0) + 0)
      try simp only [e0, e1]
      omega
theorem s_r0le {fs : List (Int → Int)} {zs : List Int} {a0 i0 i1 i2 : Nat} : SnOk fs zs (37, [1, a0, i0, i1, i2], []) ↔ ∀ x : Int, nthZ zs i0 ≤ x → x < nthZ zs i1 → ((0 ≤ 0+(1)*nthZ zs i2+(-1)*nthF fs a0 (17*x))) := by
  show fOk ((1, 3), ([(0, 17, 0, [], [])], [(0, 0, [(2, 1)], [(0, (-1))])])) [nthF fs a0] [nthZ zs i0, nthZ zs i1, nthZ zs i2] ↔ _
  have e0 : ∀ x : Int, (0 : Int) + 17 * x + 0 + 0 = 17*x := fun x => by omega
  constructor
  · intro h x h1 h2
    obtain ⟨l0, hl, q⟩ := h x h1 h2
    rcases List.mem_cons.mp hl with hl | hl
    · subst hl; replace q : 0 ≤ (0 : Int) + 0 * x + (1 * nthZ zs i2 + 0) + ((-1) * nthF fs a0 ((0 : Int) + 17 * x + 0 + 0) + 0) := q; try simp only [e0] at q
      omega
    · cases hl
  · intro h x h1 h2
    have q := h x h1 h2
    refine ⟨_, (List.mem_cons_self), ?_⟩; show 0 ≤ (0 : Int) + 0 * x + (1 * nthZ zs i2 + 0) + ((-1) * nthF fs a0 ((0 : Int) + 17 * x + 0 + 0) + 0)
    try simp only [e0]
    omega
theorem s_r1le {fs : List (Int → Int)} {zs : List Int} {a0 i0 i1 i2 : Nat} : SnOk fs zs (38, [1, a0, i0, i1, i2], []) ↔ ∀ x : Int, nthZ zs i0 ≤ x → x < nthZ zs i1 → ((0 ≤ 0+(1)*nthZ zs i2+(-1)*nthF fs a0 (17*x+1))) := by
  show fOk ((1, 3), ([(0, 17, 1, [], [])], [(0, 0, [(2, 1)], [(0, (-1))])])) [nthF fs a0] [nthZ zs i0, nthZ zs i1, nthZ zs i2] ↔ _
  have e0 : ∀ x : Int, (1 : Int) + 17 * x + 0 + 0 = 17*x+1 := fun x => by omega
  constructor
  · intro h x h1 h2
    obtain ⟨l0, hl, q⟩ := h x h1 h2
    rcases List.mem_cons.mp hl with hl | hl
    · subst hl; replace q : 0 ≤ (0 : Int) + 0 * x + (1 * nthZ zs i2 + 0) + ((-1) * nthF fs a0 ((1 : Int) + 17 * x + 0 + 0) + 0) := q; try simp only [e0] at q
      omega
    · cases hl
  · intro h x h1 h2
    have q := h x h1 h2
    refine ⟨_, (List.mem_cons_self), ?_⟩; show 0 ≤ (0 : Int) + 0 * x + (1 * nthZ zs i2 + 0) + ((-1) * nthF fs a0 ((1 : Int) + 17 * x + 0 + 0) + 0)
    try simp only [e0]
    omega
theorem s_r2le {fs : List (Int → Int)} {zs : List Int} {a0 i0 i1 i2 : Nat} : SnOk fs zs (39, [1, a0, i0, i1, i2], []) ↔ ∀ x : Int, nthZ zs i0 ≤ x → x < nthZ zs i1 → ((0 ≤ 0+(1)*nthZ zs i2+(-1)*nthF fs a0 (17*x+2))) := by
  show fOk ((1, 3), ([(0, 17, 2, [], [])], [(0, 0, [(2, 1)], [(0, (-1))])])) [nthF fs a0] [nthZ zs i0, nthZ zs i1, nthZ zs i2] ↔ _
  have e0 : ∀ x : Int, (2 : Int) + 17 * x + 0 + 0 = 17*x+2 := fun x => by omega
  constructor
  · intro h x h1 h2
    obtain ⟨l0, hl, q⟩ := h x h1 h2
    rcases List.mem_cons.mp hl with hl | hl
    · subst hl; replace q : 0 ≤ (0 : Int) + 0 * x + (1 * nthZ zs i2 + 0) + ((-1) * nthF fs a0 ((2 : Int) + 17 * x + 0 + 0) + 0) := q; try simp only [e0] at q
      omega
    · cases hl
  · intro h x h1 h2
    have q := h x h1 h2
    refine ⟨_, (List.mem_cons_self), ?_⟩; show 0 ≤ (0 : Int) + 0 * x + (1 * nthZ zs i2 + 0) + ((-1) * nthF fs a0 ((2 : Int) + 17 * x + 0 + 0) + 0)
    try simp only [e0]
    omega
theorem s_or3 {fs : List (Int → Int)} {zs : List Int} {i0 i1 i2 i3 i4 : Nat} : SnOk fs zs (4, [0, i0, i1, i2, i3, i4], []) ↔ ∀ x : Int, nthZ zs i0 ≤ x → x < nthZ zs i1 → ((0 ≤ 0+(1)*nthZ zs i2) ∨ (0 ≤ 0+(1)*nthZ zs i3) ∨ (0 ≤ 0+(1)*nthZ zs i4)) := by
  show fOk ((0, 5), ([], [(0, 0, [(2, 1)], []), (0, 0, [(3, 1)], []), (0, 0, [(4, 1)], [])])) [] [nthZ zs i0, nthZ zs i1, nthZ zs i2, nthZ zs i3, nthZ zs i4] ↔ _
  constructor
  · intro h x h1 h2
    obtain ⟨l0, hl, q⟩ := h x h1 h2
    rcases List.mem_cons.mp hl with hl | hl
    · subst hl; replace q : 0 ≤ (0 : Int) + 0 * x + (1 * nthZ zs i2 + 0) + 0 := q; try simp only [] at q
      left; omega
    · skip
      rcases List.mem_cons.mp hl with hl | hl
      · subst hl; replace q : 0 ≤ (0 : Int) + 0 * x + (1 * nthZ zs i3 + 0) + 0 := q; try simp only [] at q
        right; left; omega
      · skip
        rcases List.mem_cons.mp hl with hl | hl
        · subst hl; replace q : 0 ≤ (0 : Int) + 0 * x + (1 * nthZ zs i4 + 0) + 0 := q; try simp only [] at q
          right; right; omega
        · cases hl
  · intro h x h1 h2
    have q := h x h1 h2
    rcases q with q | q | q
    · refine ⟨_, (List.mem_cons_self), ?_⟩; show 0 ≤ (0 : Int) + 0 * x + (1 * nthZ zs i2 + 0) + 0
      try simp only []
      omega
    · refine ⟨_, (List.mem_cons_of_mem _ (List.mem_cons_self)), ?_⟩; show 0 ≤ (0 : Int) + 0 * x + (1 * nthZ zs i3 + 0) + 0
      try simp only []
      omega
    · refine ⟨_, (List.mem_cons_of_mem _ (List.mem_cons_of_mem _ (List.mem_cons_self))), ?_⟩; show 0 ≤ (0 : Int) + 0 * x + (1 * nthZ zs i4 + 0) + 0
      try simp only []
      omega
theorem s_or4 {fs : List (Int → Int)} {zs : List Int} {i0 i1 i2 i3 i4 i5 : Nat} : SnOk fs zs (16, [0, i0, i1, i2, i3, i4, i5], []) ↔ ∀ x : Int, nthZ zs i0 ≤ x → x < nthZ zs i1 → ((0 ≤ 0+(1)*nthZ zs i2) ∨ (0 ≤ 0+(1)*nthZ zs i3) ∨ (0 ≤ 0+(1)*nthZ zs i4) ∨ (0 ≤ 0+(1)*nthZ zs i5)) := by
  show fOk ((0, 6), ([], [(0, 0, [(2, 1)], []), (0, 0, [(3, 1)], []), (0, 0, [(4, 1)], []), (0, 0, [(5, 1)], [])])) [] [nthZ zs i0, nthZ zs i1, nthZ zs i2, nthZ zs i3, nthZ zs i4, nthZ zs i5] ↔ _
  constructor
  · intro h x h1 h2
    obtain ⟨l0, hl, q⟩ := h x h1 h2
    rcases List.mem_cons.mp hl with hl | hl
    · subst hl; replace q : 0 ≤ (0 : Int) + 0 * x + (1 * nthZ zs i2 + 0) + 0 := q; try simp only [] at q
      left; omega
    · skip
      rcases List.mem_cons.mp hl with hl | hl
      · subst hl; replace q : 0 ≤ (0 : Int) + 0 * x + (1 * nthZ zs i3 + 0) + 0 := q; try simp only [] at q
        right; left; omega
      · skip
        rcases List.mem_cons.mp hl with hl | hl
        · subst hl; replace q : 0 ≤ (0 : Int) + 0 * x + (1 * nthZ zs i4 + 0) + 0 := q; try simp only [] at q
          right; right; left; omega
        · skip
          rcases List.mem_cons.mp hl with hl | hl
          · subst hl; replace q : 0 ≤ (0 : Int) + 0 * x + (1 * nthZ zs i5 + 0) + 0 := q; try simp only [] at q
            right; right; right; omega
          · cases hl
  · intro h x h1 h2
    have q := h x h1 h2
    rcases q with q | q | q | q
    · refine ⟨_, (List.mem_cons_self), ?_⟩; show 0 ≤ (0 : Int) + 0 * x + (1 * nthZ zs i2 + 0) + 0
      try simp only []
      omega
    · refine ⟨_, (List.mem_cons_of_mem _ (List.mem_cons_self)), ?_⟩; show 0 ≤ (0 : Int) + 0 * x + (1 * nthZ zs i3 + 0) + 0
      try simp only []
      omega
    · refine ⟨_, (List.mem_cons_of_mem _ (List.mem_cons_of_mem _ (List.mem_cons_self))), ?_⟩; show 0 ≤ (0 : Int) + 0 * x + (1 * nthZ zs i4 + 0) + 0
      try simp only []
      omega
    · refine ⟨_, (List.mem_cons_of_mem _ (List.mem_cons_of_mem _ (List.mem_cons_of_mem _ (List.mem_cons_self)))), ?_⟩; show 0 ≤ (0 : Int) + 0 * x + (1 * nthZ zs i5 + 0) + 0
      try simp only []
      omega
def q_rzXb : qRl := ([sp 1 [(1, 1), (0, (-1))], sp (-1) [(1, (-1)), (0, 1)], (1103, [1, 0, 1], []), (52, [1, 0, 2, 3, 1, 4], []), sp 0 [(2, (-1))], sp (-3) [(3, 1)], sp 131072 [(4, (-1))]], [(1103, [1, 0, 0], [])])
theorem q_rzXb_ok : RlOk q_rzXb := by
  intro fs zs h x hx
  obtain ⟨H0, h⟩ := snAll h
  replace H0 := sp_2.mp H0
  obtain ⟨H1, h⟩ := snAll h
  replace H1 := sp_2.mp H1
  obtain ⟨H2, h⟩ := snAll h
  replace H2 := s_rsz.mp H2
  obtain ⟨H3, h⟩ := snAll h
  replace H3 := s_rsu.mp H3
  obtain ⟨H4, h⟩ := snAll h
  replace H4 := sp_1.mp H4
  obtain ⟨H5, h⟩ := snAll h
  replace H5 := sp_1.mp H5
  obtain ⟨H6, h⟩ := snAll h
  replace H6 := sp_1.mp H6
  have L := L_rzXb (F0 := nthF fs 0) (N0 := nthZ zs 0) (N1 := nthZ zs 1) (N2 := nthZ zs 2) (N3 := nthZ zs 3) (N4 := nthZ zs 4) (by omega) H2 H3 (by omega) (by omega) (by omega)
  rcases List.mem_cons.mp hx with hx | hx
  · rw [hx]; refine s_rsz.mpr ?_; exact L
  · cases hx
def q_wkX : qRl := ([(1097, [2, 0, 1, 2, 3], []), sp 0 [(1, 1), (3, (-1))], (1100, [2, 0, 1, 4, 0], []), sp 0 [(2, 1), (4, (-1))], (54, [1, 0, 5, 6, 7, 8], []), sp (-1) [(8, (-1))], sp 0 [(2, 1), (5, (-1))], sp 0 [(6, 1), (0, (-1))], sp 0 [(1, 1), (7, (-1))], (53, [1, 0, 9, 10, 11], []), sp 0 [(2, 1), (9, (-1))], sp 0 [(10, 1), (0, (-1))], sp 0 [(11, 1)]], [(1097, [2, 0, 1, 0, 1], [])])
theorem q_wkX_ok : RlOk q_wkX := by
  intro fs zs h x hx
  obtain ⟨H0, h⟩ := snAll h
  replace H0 := s_wlk.mp H0
  obtain ⟨H1, h⟩ := snAll h
  replace H1 := sp_2.mp H1
  obtain ⟨H2, h⟩ := snAll h
  replace H2 := s_wlc.mp H2
  obtain ⟨H3, h⟩ := snAll h
  replace H3 := sp_2.mp H3
  obtain ⟨H4, h⟩ := snAll h
  replace H4 := s_ofl.mp H4
  obtain ⟨H5, h⟩ := snAll h
  replace H5 := sp_1.mp H5
  obtain ⟨H6, h⟩ := snAll h
  replace H6 := sp_2.mp H6
  obtain ⟨H7, h⟩ := snAll h
  replace H7 := sp_2.mp H7
  obtain ⟨H8, h⟩ := snAll h
  replace H8 := sp_2.mp H8
  obtain ⟨H9, h⟩ := snAll h
  replace H9 := s_ofg.mp H9
  obtain ⟨H10, h⟩ := snAll h
  replace H10 := sp_2.mp H10
  obtain ⟨H11, h⟩ := snAll h
  replace H11 := sp_2.mp H11
  obtain ⟨H12, h⟩ := snAll h
  replace H12 := sp_1.mp H12
  have L := L_wkX (F0 := nthF fs 0) (F1 := nthF fs 1) (N0 := nthZ zs 0) (N1 := nthZ zs 1) (N2 := nthZ zs 2) (N3 := nthZ zs 3) (N4 := nthZ zs 4) (N5 := nthZ zs 5) (N6 := nthZ zs 6) (N7 := nthZ zs 7) (N8 := nthZ zs 8) (N9 := nthZ zs 9) (N10 := nthZ zs 10) (N11 := nthZ zs 11) H0 (by omega) H2 (by omega) H4 (by omega) (by omega) (by omega) (by omega) H9 (by omega) (by omega) (by omega)
  rcases List.mem_cons.mp hx with hx | hx
  · rw [hx]; refine s_wlk.mpr ?_; exact L
  · cases hx
def q_sloM : qRl := ([(40, [1, 0, 0, 1, 3], []), sp 9 [(2, 10), (3, (-1))]], [(40, [1, 0, 0, 1, 2], [])])
theorem q_sloM_ok : RlOk q_sloM := by
  intro fs zs h x hx
  obtain ⟨H0, h⟩ := snAll h
  replace H0 := s_slo.mp H0
  obtain ⟨H1, h⟩ := snAll h
  replace H1 := sp_2.mp H1
  have L := L_sloM (F0 := nthF fs 0) (N0 := nthZ zs 0) (N1 := nthZ zs 1) (N2 := nthZ zs 2) (N3 := nthZ zs 3) H0 (by omega)
  rcases List.mem_cons.mp hx with hx | hx
  · rw [hx]; refine s_slo.mpr ?_; exact L
  · cases hx
def q_oflM : qRl := ([(54, [1, 0, 0, 1, 2, 4], []), sp 9 [(3, 10), (4, (-1))]], [(54, [1, 0, 0, 1, 2, 3], [])])
theorem q_oflM_ok : RlOk q_oflM := by
  intro fs zs h x hx
  obtain ⟨H0, h⟩ := snAll h
  replace H0 := s_ofl.mp H0
  obtain ⟨H1, h⟩ := snAll h
  replace H1 := sp_2.mp H1
  have L := L_oflM (F0 := nthF fs 0) (N0 := nthZ zs 0) (N1 := nthZ zs 1) (N2 := nthZ zs 2) (N3 := nthZ zs 3) (N4 := nthZ zs 4) H0 (by omega)
  rcases List.mem_cons.mp hx with hx | hx
  · rw [hx]; refine s_ofl.mpr ?_; exact L
  · cases hx
def q_po0M : qRl := ([(43, [1, 0, 0, 1, 2, 4], []), sp 9 [(3, 10), (4, (-1))]], [(43, [1, 0, 0, 1, 2, 3], [])])
theorem q_po0M_ok : RlOk q_po0M := by
  intro fs zs h x hx
  obtain ⟨H0, h⟩ := snAll h
  replace H0 := s_po0.mp H0
  obtain ⟨H1, h⟩ := snAll h
  replace H1 := sp_2.mp H1
  have L := L_po0M (F0 := nthF fs 0) (N0 := nthZ zs 0) (N1 := nthZ zs 1) (N2 := nthZ zs 2) (N3 := nthZ zs 3) (N4 := nthZ zs 4) H0 (by omega)
  rcases List.mem_cons.mp hx with hx | hx
  · rw [hx]; refine s_po0.mpr ?_; exact L
  · cases hx
def q_po3M : qRl := ([(44, [1, 0, 0, 1, 2, 4], []), sp 9 [(3, 10), (4, (-1))]], [(44, [1, 0, 0, 1, 2, 3], [])])
theorem q_po3M_ok : RlOk q_po3M := by
  intro fs zs h x hx
  obtain ⟨H0, h⟩ := snAll h
  replace H0 := s_po3.mp H0
  obtain ⟨H1, h⟩ := snAll h
  replace H1 := sp_2.mp H1
  have L := L_po3M (F0 := nthF fs 0) (N0 := nthZ zs 0) (N1 := nthZ zs 1) (N2 := nthZ zs 2) (N3 := nthZ zs 3) (N4 := nthZ zs 4) H0 (by omega)
  rcases List.mem_cons.mp hx with hx | hx
  · rw [hx]; refine s_po3.mpr ?_; exact L
  · cases hx
def q_pg0M : qRl := ([(45, [1, 0, 0, 1, 2, 4], []), sp 9 [(3, 10), (4, (-1))]], [(45, [1, 0, 0, 1, 2, 3], [])])
theorem q_pg0M_ok : RlOk q_pg0M := by
  intro fs zs h x hx
  obtain ⟨H0, h⟩ := snAll h
  replace H0 := s_pg0.mp H0
  obtain ⟨H1, h⟩ := snAll h
  replace H1 := sp_2.mp H1
  have L := L_pg0M (F0 := nthF fs 0) (N0 := nthZ zs 0) (N1 := nthZ zs 1) (N2 := nthZ zs 2) (N3 := nthZ zs 3) (N4 := nthZ zs 4) H0 (by omega)
  rcases List.mem_cons.mp hx with hx | hx
  · rw [hx]; refine s_pg0.mpr ?_; exact L
  · cases hx
def q_pg3M : qRl := ([(46, [1, 0, 0, 1, 2, 4], []), sp 9 [(3, 10), (4, (-1))]], [(46, [1, 0, 0, 1, 2, 3], [])])
theorem q_pg3M_ok : RlOk q_pg3M := by
  intro fs zs h x hx
  obtain ⟨H0, h⟩ := snAll h
  replace H0 := s_pg3.mp H0
  obtain ⟨H1, h⟩ := snAll h
  replace H1 := sp_2.mp H1
  have L := L_pg3M (F0 := nthF fs 0) (N0 := nthZ zs 0) (N1 := nthZ zs 1) (N2 := nthZ zs 2) (N3 := nthZ zs 3) (N4 := nthZ zs 4) H0 (by omega)
  rcases List.mem_cons.mp hx with hx | hx
  · rw [hx]; refine s_pg3.mpr ?_; exact L
  · cases hx
def q_sloT : qRl := ([sp 0 [(2, 1)], sp 0 [], sp 0 []], [(40, [1, 0, 0, 1, 2], [])])
theorem q_sloT_ok : RlOk q_sloT := by
  intro fs zs h x hx
  obtain ⟨H0, h⟩ := snAll h
  replace H0 := sp_1.mp H0
  obtain ⟨H1, h⟩ := snAll h
  replace H1 := sp_0.mp H1
  obtain ⟨H2, h⟩ := snAll h
  replace H2 := sp_0.mp H2
  have L := L_sloT (F0 := nthF fs 0) (N0 := nthZ zs 0) (N1 := nthZ zs 1) (N2 := nthZ zs 2) (by omega) (by omega) (by omega)
  rcases List.mem_cons.mp hx with hx | hx
  · rw [hx]; refine s_slo.mpr ?_; exact L
  · cases hx
def q_oflT : qRl := ([sp 0 [(3, 1)], sp 0 [], sp 0 [], sp 0 []], [(54, [1, 0, 0, 1, 2, 3], [])])
theorem q_oflT_ok : RlOk q_oflT := by
  intro fs zs h x hx
  obtain ⟨H0, h⟩ := snAll h
  replace H0 := sp_1.mp H0
  obtain ⟨H1, h⟩ := snAll h
  replace H1 := sp_0.mp H1
  obtain ⟨H2, h⟩ := snAll h
  replace H2 := sp_0.mp H2
  obtain ⟨H3, h⟩ := snAll h
  replace H3 := sp_0.mp H3
  have L := L_oflT (F0 := nthF fs 0) (N0 := nthZ zs 0) (N1 := nthZ zs 1) (N2 := nthZ zs 2) (N3 := nthZ zs 3) (by omega) (by omega) (by omega) (by omega)
  rcases List.mem_cons.mp hx with hx | hx
  · rw [hx]; refine s_ofl.mpr ?_; exact L
  · cases hx
def q_po0T : qRl := ([sp 0 [(3, 1)], sp 0 [], sp 0 [], sp 0 []], [(43, [1, 0, 0, 1, 2, 3], [])])
theorem q_po0T_ok : RlOk q_po0T := by
  intro fs zs h x hx
  obtain ⟨H0, h⟩ := snAll h
  replace H0 := sp_1.mp H0
  obtain ⟨H1, h⟩ := snAll h
  replace H1 := sp_0.mp H1
  obtain ⟨H2, h⟩ := snAll h
  replace H2 := sp_0.mp H2
  obtain ⟨H3, h⟩ := snAll h
  replace H3 := sp_0.mp H3
  have L := L_po0T (F0 := nthF fs 0) (N0 := nthZ zs 0) (N1 := nthZ zs 1) (N2 := nthZ zs 2) (N3 := nthZ zs 3) (by omega) (by omega) (by omega) (by omega)
  rcases List.mem_cons.mp hx with hx | hx
  · rw [hx]; refine s_po0.mpr ?_; exact L
  · cases hx
def q_po3T : qRl := ([sp 0 [(3, 1)], sp 0 [], sp 0 [], sp 0 []], [(44, [1, 0, 0, 1, 2, 3], [])])
theorem q_po3T_ok : RlOk q_po3T := by
  intro fs zs h x hx
  obtain ⟨H0, h⟩ := snAll h
  replace H0 := sp_1.mp H0
  obtain ⟨H1, h⟩ := snAll h
  replace H1 := sp_0.mp H1
  obtain ⟨H2, h⟩ := snAll h
  replace H2 := sp_0.mp H2
  obtain ⟨H3, h⟩ := snAll h
  replace H3 := sp_0.mp H3
  have L := L_po3T (F0 := nthF fs 0) (N0 := nthZ zs 0) (N1 := nthZ zs 1) (N2 := nthZ zs 2) (N3 := nthZ zs 3) (by omega) (by omega) (by omega) (by omega)
  rcases List.mem_cons.mp hx with hx | hx
  · rw [hx]; refine s_po3.mpr ?_; exact L
  · cases hx
def q_pg0T : qRl := ([sp 0 [(3, 1)], sp 0 [], sp 0 [], sp 0 []], [(45, [1, 0, 0, 1, 2, 3], [])])
theorem q_pg0T_ok : RlOk q_pg0T := by
  intro fs zs h x hx
  obtain ⟨H0, h⟩ := snAll h
  replace H0 := sp_1.mp H0
  obtain ⟨H1, h⟩ := snAll h
  replace H1 := sp_0.mp H1
  obtain ⟨H2, h⟩ := snAll h
  replace H2 := sp_0.mp H2
  obtain ⟨H3, h⟩ := snAll h
  replace H3 := sp_0.mp H3
  have L := L_pg0T (F0 := nthF fs 0) (N0 := nthZ zs 0) (N1 := nthZ zs 1) (N2 := nthZ zs 2) (N3 := nthZ zs 3) (by omega) (by omega) (by omega) (by omega)
  rcases List.mem_cons.mp hx with hx | hx
  · rw [hx]; refine s_pg0.mpr ?_; exact L
  · cases hx
def q_pg3T : qRl := ([sp 0 [(3, 1)], sp 0 [], sp 0 [], sp 0 []], [(46, [1, 0, 0, 1, 2, 3], [])])
theorem q_pg3T_ok : RlOk q_pg3T := by
  intro fs zs h x hx
  obtain ⟨H0, h⟩ := snAll h
  replace H0 := sp_1.mp H0
  obtain ⟨H1, h⟩ := snAll h
  replace H1 := sp_0.mp H1
  obtain ⟨H2, h⟩ := snAll h
  replace H2 := sp_0.mp H2
  obtain ⟨H3, h⟩ := snAll h
  replace H3 := sp_0.mp H3
  have L := L_pg3T (F0 := nthF fs 0) (N0 := nthZ zs 0) (N1 := nthZ zs 1) (N2 := nthZ zs 2) (N3 := nthZ zs 3) (by omega) (by omega) (by omega) (by omega)
  rcases List.mem_cons.mp hx with hx | hx
  · rw [hx]; refine s_pg3.mpr ?_; exact L
  · cases hx
def q_nm_loJ : qRl := ([(34, [2, 0, 1, 0, 2], []), (34, [2, 0, 1, 3, 1], []), sp 0 [(2, 1), (3, (-1))]], [(34, [2, 0, 1, 0, 1], [])])
theorem q_nm_loJ_ok : RlOk q_nm_loJ := by
  intro fs zs h x hx
  obtain ⟨H0, h⟩ := snAll h
  replace H0 := s_nm_lo.mp H0
  obtain ⟨H1, h⟩ := snAll h
  replace H1 := s_nm_lo.mp H1
  obtain ⟨H2, h⟩ := snAll h
  replace H2 := sp_2.mp H2
  have L := L_nm_loJ (F0 := nthF fs 0) (F1 := nthF fs 1) (N0 := nthZ zs 0) (N1 := nthZ zs 1) (N2 := nthZ zs 2) (N3 := nthZ zs 3) H0 H1 (by omega)
  rcases List.mem_cons.mp hx with hx | hx
  · rw [hx]; refine s_nm_lo.mpr ?_; exact L
  · cases hx
def q_nm_hiJ : qRl := ([(35, [2, 0, 1, 0, 2], []), (35, [2, 0, 1, 3, 1], []), sp 0 [(2, 1), (3, (-1))]], [(35, [2, 0, 1, 0, 1], [])])
theorem q_nm_hiJ_ok : RlOk q_nm_hiJ := by
  intro fs zs h x hx
  obtain ⟨H0, h⟩ := snAll h
  replace H0 := s_nm_hi.mp H0
  obtain ⟨H1, h⟩ := snAll h
  replace H1 := s_nm_hi.mp H1
  obtain ⟨H2, h⟩ := snAll h
  replace H2 := sp_2.mp H2
  have L := L_nm_hiJ (F0 := nthF fs 0) (F1 := nthF fs 1) (N0 := nthZ zs 0) (N1 := nthZ zs 1) (N2 := nthZ zs 2) (N3 := nthZ zs 3) H0 H1 (by omega)
  rcases List.mem_cons.mp hx with hx | hx
  · rw [hx]; refine s_nm_hi.mpr ?_; exact L
  · cases hx
def q_sqk : qRl := ([(57, [1, 0, 0, 1], [])], [(1108, [2, 0, 1, 0, 1], [])])
theorem q_sqk_ok : RlOk q_sqk := by
  intro fs zs h x hx
  obtain ⟨H0, h⟩ := snAll h
  replace H0 := s_kd4.mp H0
  have L := L_sqk (F0 := nthF fs 0) (F1 := nthF fs 1) (N0 := nthZ zs 0) (N1 := nthZ zs 1) H0
  rcases List.mem_cons.mp hx with hx | hx
  · rw [hx]; refine s_shq.mpr ?_; exact L
  · cases hx
def q_pl1T : qRl := ([sp 0 [(2, 1)], sp 0 [], sp 0 []], [(47, [1, 0, 0, 1, 2], [])])
theorem q_pl1T_ok : RlOk q_pl1T := by
  intro fs zs h x hx
  obtain ⟨H0, h⟩ := snAll h
  replace H0 := sp_1.mp H0
  obtain ⟨H1, h⟩ := snAll h
  replace H1 := sp_0.mp H1
  obtain ⟨H2, h⟩ := snAll h
  replace H2 := sp_0.mp H2
  have L := L_pl1T (F0 := nthF fs 0) (N0 := nthZ zs 0) (N1 := nthZ zs 1) (N2 := nthZ zs 2) (by omega) (by omega) (by omega)
  rcases List.mem_cons.mp hx with hx | hx
  · rw [hx]; refine s_pl1.mpr ?_; exact L
  · cases hx
def q_pl2T : qRl := ([sp 0 [(2, 1)], sp 0 [], sp 0 []], [(48, [1, 0, 0, 1, 2], [])])
theorem q_pl2T_ok : RlOk q_pl2T := by
  intro fs zs h x hx
  obtain ⟨H0, h⟩ := snAll h
  replace H0 := sp_1.mp H0
  obtain ⟨H1, h⟩ := snAll h
  replace H1 := sp_0.mp H1
  obtain ⟨H2, h⟩ := snAll h
  replace H2 := sp_0.mp H2
  have L := L_pl2T (F0 := nthF fs 0) (N0 := nthZ zs 0) (N1 := nthZ zs 1) (N2 := nthZ zs 2) (by omega) (by omega) (by omega)
  rcases List.mem_cons.mp hx with hx | hx
  · rw [hx]; refine s_pl2.mpr ?_; exact L
  · cases hx
def q_wcXJ : qRl := ([sp 1 [(2, 1), (1, (-1))], sp (-1) [(2, (-1)), (1, 1)], (1100, [2, 0, 1, 0, 2], []), (1099, [2, 0, 1, 3, 4, 5, 6, 7], []), sp (-1) [(7, (-1))], sp 0 [(2, 1), (3, (-1))], sp 0 [(4, 1), (1, (-1))], sp 6 [(12, 1), (1, (-6))], sp (-6) [(12, (-1)), (1, 6)], (1, [0, 12, 8], []), sp (-1) [(5, 1), (8, (-1))], sp 0 [(13, 1), (8, (-7))], sp 0 [(13, (-1)), (8, 7)], (1, [1, 13, 9], []), sp 4 [(9, (-1))], (47, [1, 1, 20, 21, 22], []), sp (-1) [(22, (-1))], sp 0 [(8, 1), (20, (-1))], sp (-1) [(21, 1), (8, (-1))], (48, [1, 1, 20, 21, 23], []), sp (-1) [(23, (-1))]], [(1100, [2, 0, 1, 0, 1], [])])
theorem q_wcXJ_ok : RlOk q_wcXJ := by
  intro fs zs h x hx
  obtain ⟨H0, h⟩ := snAll h
  replace H0 := sp_2.mp H0
  obtain ⟨H1, h⟩ := snAll h
  replace H1 := sp_2.mp H1
  obtain ⟨H2, h⟩ := snAll h
  replace H2 := s_wlc.mp H2
  obtain ⟨H3, h⟩ := snAll h
  replace H3 := s_curL.mp H3
  obtain ⟨H4, h⟩ := snAll h
  replace H4 := sp_1.mp H4
  obtain ⟨H5, h⟩ := snAll h
  replace H5 := sp_2.mp H5
  obtain ⟨H6, h⟩ := snAll h
  replace H6 := sp_2.mp H6
  obtain ⟨H7, h⟩ := snAll h
  replace H7 := sp_2.mp H7
  obtain ⟨H8, h⟩ := snAll h
  replace H8 := sp_2.mp H8
  obtain ⟨H9, h⟩ := snAll h
  replace H9 := s_rd.mp H9
  obtain ⟨H10, h⟩ := snAll h
  replace H10 := sp_2.mp H10
  obtain ⟨H11, h⟩ := snAll h
  replace H11 := sp_2.mp H11
  obtain ⟨H12, h⟩ := snAll h
  replace H12 := sp_2.mp H12
  obtain ⟨H13, h⟩ := snAll h
  replace H13 := s_rd.mp H13
  obtain ⟨H14, h⟩ := snAll h
  replace H14 := sp_1.mp H14
  obtain ⟨H15, h⟩ := snAll h
  replace H15 := s_pl1.mp H15
  obtain ⟨H16, h⟩ := snAll h
  replace H16 := sp_1.mp H16
  obtain ⟨H17, h⟩ := snAll h
  replace H17 := sp_2.mp H17
  obtain ⟨H18, h⟩ := snAll h
  replace H18 := sp_2.mp H18
  obtain ⟨H19, h⟩ := snAll h
  replace H19 := s_pl2.mp H19
  obtain ⟨H20, h⟩ := snAll h
  replace H20 := sp_1.mp H20
  have L := L_wcXJ (F0 := nthF fs 0) (F1 := nthF fs 1) (N0 := nthZ zs 0) (N1 := nthZ zs 1) (N2 := nthZ zs 2) (N3 := nthZ zs 3) (N4 := nthZ zs 4) (N5 := nthZ zs 5) (N6 := nthZ zs 6) (N7 := nthZ zs 7) (N8 := nthZ zs 8) (N9 := nthZ zs 9) (N10 := nthZ zs 10) (N11 := nthZ zs 11) (N12 := nthZ zs 12) (N13 := nthZ zs 13) (N14 := nthZ zs 14) (N15 := nthZ zs 15) (N16 := nthZ zs 16) (N17 := nthZ zs 17) (N18 := nthZ zs 18) (N19 := nthZ zs 19) (N20 := nthZ zs 20) (N21 := nthZ zs 21) (N22 := nthZ zs 22) (N23 := nthZ zs 23) (by omega) H2 H3 (by omega) (by omega) (by omega) (by omega) H9 (by omega) (by omega) H13 (by omega) H15 (by omega) (by omega) (by omega) H19 (by omega)
  rcases List.mem_cons.mp hx with hx | hx
  · rw [hx]; refine s_wlc.mpr ?_; exact L
  · cases hx
def q_leX : qRl := ([(64, [1, 0, 0, 2], []), (42, [1, 0, 3, 1], []), (49, [1, 0, 4, 5], []), sp 0 [(2, 1), (3, (-1))], sp 0 [(2, 1), (4, (-1))], sp 0 [(5, 1), (1, (-1))]], [(64, [1, 0, 0, 1], [])])
theorem q_leX_ok : RlOk q_leX := by
  intro fs zs h x hx
  obtain ⟨H0, h⟩ := snAll h
  replace H0 := s_len1.mp H0
  obtain ⟨H1, h⟩ := snAll h
  replace H1 := s_cl.mp H1
  obtain ⟨H2, h⟩ := snAll h
  replace H2 := s_pl3.mp H2
  obtain ⟨H3, h⟩ := snAll h
  replace H3 := sp_2.mp H3
  obtain ⟨H4, h⟩ := snAll h
  replace H4 := sp_2.mp H4
  obtain ⟨H5, h⟩ := snAll h
  replace H5 := sp_2.mp H5
  have L := L_leX (F0 := nthF fs 0) (N0 := nthZ zs 0) (N1 := nthZ zs 1) (N2 := nthZ zs 2) (N3 := nthZ zs 3) (N4 := nthZ zs 4) (N5 := nthZ zs 5) H0 H1 H2 (by omega) (by omega) (by omega)
  rcases List.mem_cons.mp hx with hx | hx
  · rw [hx]; refine s_len1.mpr ?_; exact L
  · cases hx
def q_lzW : qRl := ([(1091, [0, 2, 9], []), (1097, [2, 0, 1, 0, 1], []), sp 0 [(2, 1)], sp (-1) [(0, 1), (2, (-1))], sp (-2) [(20, 1), (2, (-6))], sp 2 [(2, 6), (20, (-1))], sp 1 [(20, 1), (21, (-1))], sp 0 [(3, 1), (2, (-6))], sp 0 [(3, (-1)), (2, 6)], (1, [0, 3, 4], []), sp (-1) [(5, 1), (2, (-6))], sp 1 [(5, (-1)), (2, 6)], (1, [0, 5, 6], []), sp (-4) [(10, 1), (4, (-7))], sp 4 [(10, (-1)), (4, 7)], (1, [1, 10, 11], []), sp 0 [(22, 1), (11, (-1)), (6, 1)]], [(66, [1, 0, 20, 21, 22], [])])
theorem q_lzW_ok : RlOk q_lzW := by
  intro fs zs h x hx
  obtain ⟨H0, h⟩ := snAll h
  replace H0 := s_us.mp H0
  obtain ⟨H1, h⟩ := snAll h
  replace H1 := s_wlk.mp H1
  obtain ⟨H2, h⟩ := snAll h
  replace H2 := sp_1.mp H2
  obtain ⟨H3, h⟩ := snAll h
  replace H3 := sp_2.mp H3
  obtain ⟨H4, h⟩ := snAll h
  replace H4 := sp_2.mp H4
  obtain ⟨H5, h⟩ := snAll h
  replace H5 := sp_2.mp H5
  obtain ⟨H6, h⟩ := snAll h
  replace H6 := sp_2.mp H6
  obtain ⟨H7, h⟩ := snAll h
  replace H7 := sp_2.mp H7
  obtain ⟨H8, h⟩ := snAll h
  replace H8 := sp_2.mp H8
  obtain ⟨H9, h⟩ := snAll h
  replace H9 := s_rd.mp H9
  obtain ⟨H10, h⟩ := snAll h
  replace H10 := sp_2.mp H10
  obtain ⟨H11, h⟩ := snAll h
  replace H11 := sp_2.mp H11
  obtain ⟨H12, h⟩ := snAll h
  replace H12 := s_rd.mp H12
  obtain ⟨H13, h⟩ := snAll h
  replace H13 := sp_2.mp H13
  obtain ⟨H14, h⟩ := snAll h
  replace H14 := sp_2.mp H14
  obtain ⟨H15, h⟩ := snAll h
  replace H15 := s_rd.mp H15
  obtain ⟨H16, h⟩ := snAll h
  replace H16 := sp_3.mp H16
  have L := L_lzW (F0 := nthF fs 0) (F1 := nthF fs 1) (N0 := nthZ zs 0) (N1 := nthZ zs 1) (N2 := nthZ zs 2) (N3 := nthZ zs 3) (N4 := nthZ zs 4) (N5 := nthZ zs 5) (N6 := nthZ zs 6) (N7 := nthZ zs 7) (N8 := nthZ zs 8) (N9 := nthZ zs 9) (N10 := nthZ zs 10) (N11 := nthZ zs 11) (N12 := nthZ zs 12) (N13 := nthZ zs 13) (N14 := nthZ zs 14) (N15 := nthZ zs 15) (N16 := nthZ zs 16) (N17 := nthZ zs 17) (N18 := nthZ zs 18) (N19 := nthZ zs 19) (N20 := nthZ zs 20) (N21 := nthZ zs 21) (N22 := nthZ zs 22) H0 H1 (by omega) (by omega) (by omega) (by omega) (by omega) (by omega) H9 (by omega) H12 (by omega) H15 (by omega)
  rcases List.mem_cons.mp hx with hx | hx
  · rw [hx]; refine s_lez.mpr ?_; exact L
  · cases hx
def q_us : qRl := ([sp 0 [], sp 0 []], [(1091, [0, 0, 1], [])])
theorem q_us_ok : RlOk q_us := by
  intro fs zs h x hx
  obtain ⟨H0, h⟩ := snAll h
  replace H0 := sp_0.mp H0
  obtain ⟨H1, h⟩ := snAll h
  replace H1 := sp_0.mp H1
  rcases List.mem_cons.mp hx with hx | hx
  · rw [hx]; refine s_us.mpr ?_; exact trivial
  · cases hx
def q_r0W : qRl := ([(2, [1, 0, 2, 3], []), (37, [1, 0, 0, 1, 4], []), sp 0 [(4, 1), (3, (-1))]], [(37, [1, 1, 0, 1, 4], [])])
theorem q_r0W_ok : RlOk q_r0W := by
  intro fs zs h x hx
  obtain ⟨H0, h⟩ := snAll h
  replace H0 := s_wr.mp H0
  obtain ⟨H1, h⟩ := snAll h
  replace H1 := s_r0le.mp H1
  obtain ⟨H2, h⟩ := snAll h
  replace H2 := sp_2.mp H2
  rcases List.mem_cons.mp hx with hx | hx
  · rw [hx]; refine s_r0le.mpr ?_; exact fun x a b => by have q := H1 x a b; rcases uwr2 H0 (17*x) with w | w <;> omega
  · cases hx
def q_r1W : qRl := ([(2, [1, 0, 2, 3], []), (38, [1, 0, 0, 1, 4], []), sp 0 [(4, 1), (3, (-1))]], [(38, [1, 1, 0, 1, 4], [])])
theorem q_r1W_ok : RlOk q_r1W := by
  intro fs zs h x hx
  obtain ⟨H0, h⟩ := snAll h
  replace H0 := s_wr.mp H0
  obtain ⟨H1, h⟩ := snAll h
  replace H1 := s_r1le.mp H1
  obtain ⟨H2, h⟩ := snAll h
  replace H2 := sp_2.mp H2
  rcases List.mem_cons.mp hx with hx | hx
  · rw [hx]; refine s_r1le.mpr ?_; exact fun x a b => by have q := H1 x a b; rcases uwr2 H0 (17*x+1) with w | w <;> omega
  · cases hx
def q_r2W : qRl := ([(2, [1, 0, 2, 3], []), (39, [1, 0, 0, 1, 4], []), sp 0 [(4, 1), (3, (-1))]], [(39, [1, 1, 0, 1, 4], [])])
theorem q_r2W_ok : RlOk q_r2W := by
  intro fs zs h x hx
  obtain ⟨H0, h⟩ := snAll h
  replace H0 := s_wr.mp H0
  obtain ⟨H1, h⟩ := snAll h
  replace H1 := s_r2le.mp H1
  obtain ⟨H2, h⟩ := snAll h
  replace H2 := sp_2.mp H2
  rcases List.mem_cons.mp hx with hx | hx
  · rw [hx]; refine s_r2le.mpr ?_; exact fun x a b => by have q := H1 x a b; rcases uwr2 H0 (17*x+2) with w | w <;> omega
  · cases hx
def q_cuS : qRl := ([(1094, [2, 0, 2, 1, 2], []), (50, [2, 1, 2, 3, 4, 0], []), sp 0 [(3, (-1))], sp (-4) [(4, 1)]], [(1096, [2, 0, 1, 0, 1, 2], [])])
theorem q_cuS_ok : RlOk q_cuS := by
  intro fs zs h x hx
  obtain ⟨H0, h⟩ := snAll h
  replace H0 := s_fits.mp H0
  obtain ⟨H1, h⟩ := snAll h
  replace H1 := s_re.mp H1
  obtain ⟨H2, h⟩ := snAll h
  replace H2 := sp_1.mp H2
  obtain ⟨H3, h⟩ := snAll h
  replace H3 := sp_1.mp H3
  rcases List.mem_cons.mp hx with hx | hx
  · rw [hx]; refine s_curS.mpr ?_; exact L_cuS H0 (fun x a b => by have q := H1 x a b; omega) (by omega) (by omega)
  · cases hx
def q_waX : qRl := ([sp 1 [(3, 1), (0, (-1))], sp (-1) [(3, (-1)), (0, 1)], (1098, [2, 0, 1, 3, 4, 5], []), sp 0 [(1, 1), (4, (-1))], sp 15 [(6, 1), (0, (-17))], sp (-15) [(6, (-1)), (0, 17)], (1, [1, 6, 7], []), sp 0 [(7, 1), (4, (-1))], sp 0 [(4, 1), (7, (-1))], sp 16 [(8, 1), (0, (-17))], sp (-16) [(8, (-1)), (0, 17)], (1, [1, 8, 9], []), sp 0 [(9, 1), (5, (-1))], sp 0 [(5, 1), (9, (-1))], (54, [1, 0, 10, 11, 12, 13], []), sp (-1) [(13, (-1))], sp 0 [(4, 1), (10, (-1))], sp 0 [(11, 1), (1, (-1))], sp 0 [(2, 1), (12, (-1))], (53, [1, 0, 14, 15, 16], []), sp 0 [(4, 1), (14, (-1))], sp 0 [(15, 1), (1, (-1))], sp 0 [(16, 1), (5, (-1))], sp 0 [(2, 1), (5, (-1))]], [(1098, [2, 0, 1, 0, 1, 2], [])])
theorem q_waX_ok : RlOk q_waX := by
  intro fs zs h x hx
  obtain ⟨H0, h⟩ := snAll h
  replace H0 := sp_2.mp H0
  obtain ⟨H1, h⟩ := snAll h
  replace H1 := sp_2.mp H1
  obtain ⟨H2, h⟩ := snAll h
  replace H2 := s_wau.mp H2
  obtain ⟨H3, h⟩ := snAll h
  replace H3 := sp_2.mp H3
  obtain ⟨H4, h⟩ := snAll h
  replace H4 := sp_2.mp H4
  obtain ⟨H5, h⟩ := snAll h
  replace H5 := sp_2.mp H5
  obtain ⟨H6, h⟩ := snAll h
  replace H6 := s_rd.mp H6
  obtain ⟨H7, h⟩ := snAll h
  replace H7 := sp_2.mp H7
  obtain ⟨H8, h⟩ := snAll h
  replace H8 := sp_2.mp H8
  obtain ⟨H9, h⟩ := snAll h
  replace H9 := sp_2.mp H9
  obtain ⟨H10, h⟩ := snAll h
  replace H10 := sp_2.mp H10
  obtain ⟨H11, h⟩ := snAll h
  replace H11 := s_rd.mp H11
  obtain ⟨H12, h⟩ := snAll h
  replace H12 := sp_2.mp H12
  obtain ⟨H13, h⟩ := snAll h
  replace H13 := sp_2.mp H13
  obtain ⟨H14, h⟩ := snAll h
  replace H14 := s_ofl.mp H14
  obtain ⟨H15, h⟩ := snAll h
  replace H15 := sp_1.mp H15
  obtain ⟨H16, h⟩ := snAll h
  replace H16 := sp_2.mp H16
  obtain ⟨H17, h⟩ := snAll h
  replace H17 := sp_2.mp H17
  obtain ⟨H18, h⟩ := snAll h
  replace H18 := sp_2.mp H18
  obtain ⟨H19, h⟩ := snAll h
  replace H19 := s_ofg.mp H19
  obtain ⟨H20, h⟩ := snAll h
  replace H20 := sp_2.mp H20
  obtain ⟨H21, h⟩ := snAll h
  replace H21 := sp_2.mp H21
  obtain ⟨H22, h⟩ := snAll h
  replace H22 := sp_2.mp H22
  obtain ⟨H23, h⟩ := snAll h
  replace H23 := sp_2.mp H23
  rcases List.mem_cons.mp hx with hx | hx
  · rw [hx]; refine s_wau.mpr ?_; exact by apply L_waX (F0 := nthF fs 0) (F1 := nthF fs 1) (N0 := nthZ zs 0) (N1 := nthZ zs 1) (N2 := nthZ zs 2) (N3 := nthZ zs 3) (N4 := nthZ zs 4) (N5 := nthZ zs 5) (N6 := nthZ zs 6) (N7 := nthZ zs 7) (N8 := nthZ zs 8) (N9 := nthZ zs 9) (N10 := nthZ zs 10) (N11 := nthZ zs 11) (N12 := nthZ zs 12) (N13 := nthZ zs 13) (N14 := nthZ zs 14) (N15 := nthZ zs 15) (N16 := nthZ zs 16) <;> first | assumption | omega | (intro x a b; have q := H14 x a b; omega) | (intro x a b; have q := H19 x a b; omega)
  · cases hx
def q_ja1 : qRl := ([sp 1 [(5, 1), (2, (-1))], sp (-1) [(5, (-1)), (2, 1)], (1101, [1, 0, 0, 1, 5, 3], []), sp 0 []], [(1105, [1, 0, 0, 1, 2, 3, 4], [])])
theorem q_ja1_ok : RlOk q_ja1 := by
  intro fs zs h x hx
  obtain ⟨H0, h⟩ := snAll h
  replace H0 := sp_2.mp H0
  obtain ⟨H1, h⟩ := snAll h
  replace H1 := sp_2.mp H1
  obtain ⟨H2, h⟩ := snAll h
  replace H2 := s_jcn.mp H2
  obtain ⟨H3, h⟩ := snAll h
  replace H3 := sp_0.mp H3
  rcases List.mem_cons.mp hx with hx | hx
  · rw [hx]; refine s_jca.mpr ?_; exact L_ja1 (by rw [show nthZ zs 2 - 1 = nthZ zs 5 by omega]; exact H2)
  · cases hx
def q_jaW : qRl := ([(2, [1, 0, 5, 6], []), (1105, [1, 0, 0, 1, 2, 3, 4], []), sp 0 [(5, 1), (1, (-7))]], [(1105, [1, 1, 0, 1, 2, 3, 4], [])])
theorem q_jaW_ok : RlOk q_jaW := by
  intro fs zs h x hx
  obtain ⟨H0, h⟩ := snAll h
  replace H0 := s_wr.mp H0
  obtain ⟨H1, h⟩ := snAll h
  replace H1 := s_jca.mp H1
  obtain ⟨H2, h⟩ := snAll h
  replace H2 := sp_2.mp H2
  rcases List.mem_cons.mp hx with hx | hx
  · rw [hx]; refine s_jca.mpr ?_; exact by have m : cCntK (nthF fs 1) 4 (nthZ zs 0) (nthZ zs 1) ≤ cCntK (nthF fs 0) 4 (nthZ zs 0) (nthZ zs 1) := Cnt_mono (fun j a b g => (by rcases uwr2 H0 (7*j) with w | w <;> omega)); have k := H1; unfold cJca at *; omega
  · cases hx
def q_sqI : qRl := ([(1091, [0, 10, 11], []), (1108, [2, 0, 1, 12, 13], []), sp 0 [(10, 1), (12, (-1))], sp (-1) [(13, 1), (10, (-1))], sp 0 [(14, 1), (10, (-7))], sp 0 [(14, (-1)), (10, 7)], (1, [0, 14, 15], []), sp (-5) [(15, 1)], sp (-6) [(16, 1), (10, (-7))], sp 6 [(16, (-1)), (10, 7)], (1, [0, 16, 17], []), sp (-4) [(18, 1), (17, (-6))], sp 4 [(18, (-1)), (17, 6)], (1, [1, 18, 19], []), sp 0 [(0, 1)], sp 0 [(0, (-1))], sp (-1) [(1, 1)], sp 1 [(1, (-1))], sp 0 [(3, 1), (19, (-1))], sp 0 [(19, 1), (3, (-1))], sp 2 [(2, 1), (19, 1)], sp (-2) [(19, (-1)), (2, (-1))]], [(3, [0, 0, 1, 2, 3], [])])
theorem q_sqI_ok : RlOk q_sqI := by
  intro fs zs h x hx
  obtain ⟨H0, h⟩ := snAll h
  replace H0 := s_us.mp H0
  obtain ⟨H1, h⟩ := snAll h
  replace H1 := s_shq.mp H1
  obtain ⟨H2, h⟩ := snAll h
  replace H2 := sp_2.mp H2
  obtain ⟨H3, h⟩ := snAll h
  replace H3 := sp_2.mp H3
  obtain ⟨H4, h⟩ := snAll h
  replace H4 := sp_2.mp H4
  obtain ⟨H5, h⟩ := snAll h
  replace H5 := sp_2.mp H5
  obtain ⟨H6, h⟩ := snAll h
  replace H6 := s_rd.mp H6
  obtain ⟨H7, h⟩ := snAll h
  replace H7 := sp_1.mp H7
  obtain ⟨H8, h⟩ := snAll h
  replace H8 := sp_2.mp H8
  obtain ⟨H9, h⟩ := snAll h
  replace H9 := sp_2.mp H9
  obtain ⟨H10, h⟩ := snAll h
  replace H10 := s_rd.mp H10
  obtain ⟨H11, h⟩ := snAll h
  replace H11 := sp_2.mp H11
  obtain ⟨H12, h⟩ := snAll h
  replace H12 := sp_2.mp H12
  obtain ⟨H13, h⟩ := snAll h
  replace H13 := s_rd.mp H13
  obtain ⟨H14, h⟩ := snAll h
  replace H14 := sp_1.mp H14
  obtain ⟨H15, h⟩ := snAll h
  replace H15 := sp_1.mp H15
  obtain ⟨H16, h⟩ := snAll h
  replace H16 := sp_1.mp H16
  obtain ⟨H17, h⟩ := snAll h
  replace H17 := sp_1.mp H17
  obtain ⟨H18, h⟩ := snAll h
  replace H18 := sp_2.mp H18
  obtain ⟨H19, h⟩ := snAll h
  replace H19 := sp_2.mp H19
  obtain ⟨H20, h⟩ := snAll h
  replace H20 := sp_2.mp H20
  obtain ⟨H21, h⟩ := snAll h
  replace H21 := sp_2.mp H21
  rcases List.mem_cons.mp hx with hx | hx
  · rw [hx]; refine s_or2.mpr ?_; exact fun x a b => by have q := L_sqI (F0 := nthF fs 0) (F1 := nthF fs 1) (N0 := nthZ zs 0) (N1 := nthZ zs 1) (N2 := nthZ zs 2) (N3 := nthZ zs 3) (N4 := nthZ zs 4) (N5 := nthZ zs 5) (N6 := nthZ zs 6) (N7 := nthZ zs 7) (N8 := nthZ zs 8) (N9 := nthZ zs 9) (N10 := nthZ zs 10) (N11 := nthZ zs 11) (N12 := nthZ zs 12) (N13 := nthZ zs 13) (N14 := nthZ zs 14) (N15 := nthZ zs 15) (N16 := nthZ zs 16) (N17 := nthZ zs 17) (N18 := nthZ zs 18) (N19 := nthZ zs 19) H0 H1 (by omega) (by omega) (by omega) H6 (by omega) (by omega) H10 (by omega) H13 (by omega) (by omega) (by omega) (by omega) (by omega) (by omega) (by omega) (by omega); omega
  · cases hx
def q_jcnM : qRl := ([(1101, [1, 0, 0, 1, 2, 4], []), sp 9 [(3, 10), (4, (-1))]], [(1101, [1, 0, 0, 1, 2, 3], [])])
theorem q_jcnM_ok : RlOk q_jcnM := by
  intro fs zs h x hx
  obtain ⟨H0, h⟩ := snAll h
  replace H0 := s_jcn.mp H0
  obtain ⟨H1, h⟩ := snAll h
  replace H1 := sp_2.mp H1
  rcases List.mem_cons.mp hx with hx | hx
  · rw [hx]; refine s_jcn.mpr ?_; exact by have g := H0; unfold cJcn at *; omega
  · cases hx
def q_o34b : qRl := ([(4, [0, 0, 1, 2, 3, 4], []), sp 0 []], [(16, [0, 0, 1, 2, 3, 4, 5], [])])
theorem q_o34b_ok : RlOk q_o34b := by
  intro fs zs h x hx
  obtain ⟨H0, h⟩ := snAll h
  replace H0 := s_or3.mp H0
  obtain ⟨H1, h⟩ := snAll h
  replace H1 := sp_0.mp H1
  rcases List.mem_cons.mp hx with hx | hx
  · rw [hx]; refine s_or4.mpr ?_; exact fun x a b => by have q := H0 x a b; omega
  · cases hx
def q_o43 : qRl := ([(16, [0, 0, 1, 2, 3, 4, 5], []), sp (-1) [(5, (-1))]], [(4, [0, 0, 1, 2, 3, 4], [])])
theorem q_o43_ok : RlOk q_o43 := by
  intro fs zs h x hx
  obtain ⟨H0, h⟩ := snAll h
  replace H0 := s_or4.mp H0
  obtain ⟨H1, h⟩ := snAll h
  replace H1 := sp_1.mp H1
  rcases List.mem_cons.mp hx with hx | hx
  · rw [hx]; refine s_or3.mpr ?_; exact fun x a b => by have q := H0 x a b; omega
  · cases hx
def q_eoE : qRl := ([(6, [1, 1, 2, 3, 4], []), sp 0 [(2, (-1))], sp (-4) [(3, 1)], sp 0 [(4, (-1))], sp 0 [], sp 0 []], [(1117, [2, 0, 1, 0, 1], [])])
theorem q_eoE_ok : RlOk q_eoE := by
  intro fs zs h x hx
  obtain ⟨H0, h⟩ := snAll h
  replace H0 := s_le.mp H0
  obtain ⟨H1, h⟩ := snAll h
  replace H1 := sp_1.mp H1
  obtain ⟨H2, h⟩ := snAll h
  replace H2 := sp_1.mp H2
  obtain ⟨H3, h⟩ := snAll h
  replace H3 := sp_1.mp H3
  obtain ⟨H4, h⟩ := snAll h
  replace H4 := sp_0.mp H4
  obtain ⟨H5, h⟩ := snAll h
  replace H5 := sp_0.mp H5
  rcases List.mem_cons.mp hx with hx | hx
  · rw [hx]; refine s_eo.mpr ?_; exact L_eoE (N2 := nthZ zs 2) (N3 := nthZ zs 3) (N4 := nthZ zs 4) (fun x a b => by have q := H0 x a b; omega) (by omega) (by omega) (by omega)
  · cases hx
def q_eoM : qRl := ([sp 1 [(2, 1), (1, (-1))], sp (-1) [(2, (-1)), (1, 1)], (1117, [2, 0, 1, 0, 2], [])], [(1117, [2, 0, 1, 0, 1], [])])
theorem q_eoM_ok : RlOk q_eoM := by
  intro fs zs h x hx
  obtain ⟨H0, h⟩ := snAll h
  replace H0 := sp_2.mp H0
  obtain ⟨H1, h⟩ := snAll h
  replace H1 := sp_2.mp H1
  obtain ⟨H2, h⟩ := snAll h
  replace H2 := s_eo.mp H2
  rcases List.mem_cons.mp hx with hx | hx
  · rw [hx]; refine s_eo.mpr ?_; exact L_eoM (by rw [show nthZ zs 1 - 1 = nthZ zs 2 by omega]; exact H2)
  · cases hx
def q_eoL : qRl := ([(1117, [2, 0, 1, 0, 1], []), (58, [1, 0, 5, 6], []), sp 0 [(0, 1), (5, (-1))], sp 0 [(6, 1), (1, (-1))], sp 0 [(2, 1)], sp 4 [(3, (-1))], sp (-65536) [(4, 1)]], [(6, [1, 1, 2, 3, 4], [])])
theorem q_eoL_ok : RlOk q_eoL := by
  intro fs zs h x hx
  obtain ⟨H0, h⟩ := snAll h
  replace H0 := s_eo.mp H0
  obtain ⟨H1, h⟩ := snAll h
  replace H1 := s_ovl.mp H1
  obtain ⟨H2, h⟩ := snAll h
  replace H2 := sp_2.mp H2
  obtain ⟨H3, h⟩ := snAll h
  replace H3 := sp_2.mp H3
  obtain ⟨H4, h⟩ := snAll h
  replace H4 := sp_1.mp H4
  obtain ⟨H5, h⟩ := snAll h
  replace H5 := sp_1.mp H5
  obtain ⟨H6, h⟩ := snAll h
  replace H6 := sp_1.mp H6
  rcases List.mem_cons.mp hx with hx | hx
  · rw [hx]; refine s_le.mpr ?_; exact fun x a b => by have q := L_eoL (N5 := nthZ zs 5) (N6 := nthZ zs 6) (N4 := nthZ zs 4) (N2 := nthZ zs 2) (N3 := nthZ zs 3) H0 (fun x a b => by have q := H1 x a b; omega) (by omega) (by omega) (by omega) (by omega) (by omega) x a b; omega
  · cases hx
def q_eeE : qRl := ([sp 0 [(2, 1)], sp 0 [], sp 0 []], [(1118, [2, 0, 1, 0, 1, 2], [])])
theorem q_eeE_ok : RlOk q_eeE := by
  intro fs zs h x hx
  obtain ⟨H0, h⟩ := snAll h
  replace H0 := sp_1.mp H0
  obtain ⟨H1, h⟩ := snAll h
  replace H1 := sp_0.mp H1
  obtain ⟨H2, h⟩ := snAll h
  replace H2 := sp_0.mp H2
  rcases List.mem_cons.mp hx with hx | hx
  · rw [hx]; refine s_eoe.mpr ?_; exact Or.inl (by omega)
  · cases hx
def q_eeM : qRl := ([(1117, [2, 0, 1, 0, 1], []), sp 0 []], [(1118, [2, 0, 1, 0, 1, 2], [])])
theorem q_eeM_ok : RlOk q_eeM := by
  intro fs zs h x hx
  obtain ⟨H0, h⟩ := snAll h
  replace H0 := s_eo.mp H0
  obtain ⟨H1, h⟩ := snAll h
  replace H1 := sp_0.mp H1
  rcases List.mem_cons.mp hx with hx | hx
  · rw [hx]; refine s_eoe.mpr ?_; exact Or.inr H0
  · cases hx
def q_eeX : qRl := ([(1118, [2, 0, 1, 0, 1, 2], []), sp (-1) [(2, (-1))]], [(1117, [2, 0, 1, 0, 1], [])])
theorem q_eeX_ok : RlOk q_eeX := by
  intro fs zs h x hx
  obtain ⟨H0, h⟩ := snAll h
  replace H0 := s_eoe.mp H0
  obtain ⟨H1, h⟩ := snAll h
  replace H1 := sp_1.mp H1
  rcases List.mem_cons.mp hx with hx | hx
  · rw [hx]; refine s_eo.mpr ?_; exact by rcases H0 with g | g; (exfalso; omega); exact g
  · cases hx
def q_spI1 : qRl := ([(1091, [0, 10, 11], []), (60, [1, 0, 12, 13], []), sp 0 [(10, 1), (12, (-1))], sp (-1) [(13, 1), (10, (-1))], sp (-5) [(14, 1), (10, (-6))], sp 5 [(14, (-1)), (10, 6)], (1, [0, 14, 15], []), sp 0 [(15, 1)], sp (-4) [(16, 1), (10, (-6))], sp 4 [(16, (-1)), (10, 6)], (1, [0, 16, 19], []), sp 0 [(0, 1)], sp 0 [(0, (-1))], sp (-1) [(1, 1)], sp 1 [(1, (-1))], sp 0 [(3, 1), (19, (-1))], sp 0 [(19, 1), (3, (-1))], sp 2 [(2, 1), (19, 1)], sp (-2) [(19, (-1)), (2, (-1))]], [(3, [0, 0, 1, 2, 3], [])])
theorem q_spI1_ok : RlOk q_spI1 := by
  intro fs zs h x hx
  obtain ⟨H0, h⟩ := snAll h
  replace H0 := s_us.mp H0
  obtain ⟨H1, h⟩ := snAll h
  replace H1 := s_sp1.mp H1
  obtain ⟨H2, h⟩ := snAll h
  replace H2 := sp_2.mp H2
  obtain ⟨H3, h⟩ := snAll h
  replace H3 := sp_2.mp H3
  obtain ⟨H4, h⟩ := snAll h
  replace H4 := sp_2.mp H4
  obtain ⟨H5, h⟩ := snAll h
  replace H5 := sp_2.mp H5
  obtain ⟨H6, h⟩ := snAll h
  replace H6 := s_rd.mp H6
  obtain ⟨H7, h⟩ := snAll h
  replace H7 := sp_1.mp H7
  obtain ⟨H8, h⟩ := snAll h
  replace H8 := sp_2.mp H8
  obtain ⟨H9, h⟩ := snAll h
  replace H9 := sp_2.mp H9
  obtain ⟨H10, h⟩ := snAll h
  replace H10 := s_rd.mp H10
  obtain ⟨H11, h⟩ := snAll h
  replace H11 := sp_1.mp H11
  obtain ⟨H12, h⟩ := snAll h
  replace H12 := sp_1.mp H12
  obtain ⟨H13, h⟩ := snAll h
  replace H13 := sp_1.mp H13
  obtain ⟨H14, h⟩ := snAll h
  replace H14 := sp_1.mp H14
  obtain ⟨H15, h⟩ := snAll h
  replace H15 := sp_2.mp H15
  obtain ⟨H16, h⟩ := snAll h
  replace H16 := sp_2.mp H16
  obtain ⟨H17, h⟩ := snAll h
  replace H17 := sp_2.mp H17
  obtain ⟨H18, h⟩ := snAll h
  replace H18 := sp_2.mp H18
  rcases List.mem_cons.mp hx with hx | hx
  · rw [hx]; refine s_or2.mpr ?_; exact fun x a b => by have q := L_spI1 (F0 := nthF fs 0) (N0 := nthZ zs 0) (N1 := nthZ zs 1) (N2 := nthZ zs 2) (N3 := nthZ zs 3) (N4 := nthZ zs 4) (N5 := nthZ zs 5) (N6 := nthZ zs 6) (N7 := nthZ zs 7) (N8 := nthZ zs 8) (N9 := nthZ zs 9) (N10 := nthZ zs 10) (N11 := nthZ zs 11) (N12 := nthZ zs 12) (N13 := nthZ zs 13) (N14 := nthZ zs 14) (N15 := nthZ zs 15) (N16 := nthZ zs 16) (N17 := nthZ zs 17) (N18 := nthZ zs 18) (N19 := nthZ zs 19) H0 H1 (by omega) (by omega) (by omega) H6 (by omega) (by omega) H10 (by omega) (by omega) (by omega) (by omega) (by omega) (by omega) (by omega) (by omega); omega
  · cases hx
def q_spI2 : qRl := ([(1091, [0, 10, 11], []), (61, [1, 0, 12, 13], []), sp 0 [(10, 1), (12, (-1))], sp (-1) [(13, 1), (10, (-1))], sp (-5) [(14, 1), (10, (-6))], sp 5 [(14, (-1)), (10, 6)], (1, [0, 14, 15], []), sp (-2) [(15, (-1))], sp (-4) [(16, 1), (10, (-6))], sp 4 [(16, (-1)), (10, 6)], (1, [0, 16, 19], []), sp 0 [(0, 1)], sp 0 [(0, (-1))], sp (-1) [(1, 1)], sp 1 [(1, (-1))], sp 0 [(3, 1), (19, (-1))], sp 0 [(19, 1), (3, (-1))], sp 2 [(2, 1), (19, 1)], sp (-2) [(19, (-1)), (2, (-1))]], [(3, [0, 0, 1, 2, 3], [])])
theorem q_spI2_ok : RlOk q_spI2 := by
  intro fs zs h x hx
  obtain ⟨H0, h⟩ := snAll h
  replace H0 := s_us.mp H0
  obtain ⟨H1, h⟩ := snAll h
  replace H1 := s_sp2.mp H1
  obtain ⟨H2, h⟩ := snAll h
  replace H2 := sp_2.mp H2
  obtain ⟨H3, h⟩ := snAll h
  replace H3 := sp_2.mp H3
  obtain ⟨H4, h⟩ := snAll h
  replace H4 := sp_2.mp H4
  obtain ⟨H5, h⟩ := snAll h
  replace H5 := sp_2.mp H5
  obtain ⟨H6, h⟩ := snAll h
  replace H6 := s_rd.mp H6
  obtain ⟨H7, h⟩ := snAll h
  replace H7 := sp_1.mp H7
  obtain ⟨H8, h⟩ := snAll h
  replace H8 := sp_2.mp H8
  obtain ⟨H9, h⟩ := snAll h
  replace H9 := sp_2.mp H9
  obtain ⟨H10, h⟩ := snAll h
  replace H10 := s_rd.mp H10
  obtain ⟨H11, h⟩ := snAll h
  replace H11 := sp_1.mp H11
  obtain ⟨H12, h⟩ := snAll h
  replace H12 := sp_1.mp H12
  obtain ⟨H13, h⟩ := snAll h
  replace H13 := sp_1.mp H13
  obtain ⟨H14, h⟩ := snAll h
  replace H14 := sp_1.mp H14
  obtain ⟨H15, h⟩ := snAll h
  replace H15 := sp_2.mp H15
  obtain ⟨H16, h⟩ := snAll h
  replace H16 := sp_2.mp H16
  obtain ⟨H17, h⟩ := snAll h
  replace H17 := sp_2.mp H17
  obtain ⟨H18, h⟩ := snAll h
  replace H18 := sp_2.mp H18
  rcases List.mem_cons.mp hx with hx | hx
  · rw [hx]; refine s_or2.mpr ?_; exact fun x a b => by have q := L_spI2 (F0 := nthF fs 0) (N0 := nthZ zs 0) (N1 := nthZ zs 1) (N2 := nthZ zs 2) (N3 := nthZ zs 3) (N4 := nthZ zs 4) (N5 := nthZ zs 5) (N6 := nthZ zs 6) (N7 := nthZ zs 7) (N8 := nthZ zs 8) (N9 := nthZ zs 9) (N10 := nthZ zs 10) (N11 := nthZ zs 11) (N12 := nthZ zs 12) (N13 := nthZ zs 13) (N14 := nthZ zs 14) (N15 := nthZ zs 15) (N16 := nthZ zs 16) (N17 := nthZ zs 17) (N18 := nthZ zs 18) (N19 := nthZ zs 19) H0 H1 (by omega) (by omega) (by omega) H6 (by omega) (by omega) H10 (by omega) (by omega) (by omega) (by omega) (by omega) (by omega) (by omega) (by omega); omega
  · cases hx
