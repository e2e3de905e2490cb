/-! FORMULAS OF THE REFERENCE IN PLAIN FORM (written by wip/p2/gen46zzm.py) -/
theorem s_ge {fs : List (Int → Int)} {zs : List Int} {a0 i0 i1 i2 : Nat} : SnOk fs zs (5, [1, a0, i0, i1, i2], []) ↔ ∀ x : Int, nthZ zs i0 ≤ x → x < nthZ zs i1 → ((0 ≤ 0+(-1)*nthZ zs i2+(1)*nthF fs a0 (x))) := by
  show fOk ((1, 3), ([(0, 1, 0, [], [])], [(0, 0, [(2, (-1))], [(0, 1)])])) [nthF fs a0] [nthZ zs i0, nthZ zs i1, nthZ zs i2] ↔ _
  have e0 : ∀ x : Int, (0 : Int) + 1 * x + 0 + 0 = x := fun x => by omega
  constructor
  · intro h x h1 h2
    obtain ⟨l0, hl, q⟩ := h x h1 h2
    rcases List.mem_cons.mp hl with hl | hl
    · subst hl; replace q : 0 ≤ (0 : Int) + 0 * x + ((-1) * nthZ zs i2 + 0) + (1 * nthF fs a0 ((0 : Int) + 1 * x + 0 + 0) + 0) := q; try simp only [e0] at q
      omega
    · cases hl
  · intro h x h1 h2
    have q := h x h1 h2
    refine ⟨_, (List.mem_cons_self), ?_⟩; show 0 ≤ (0 : Int) + 0 * x + ((-1) * nthZ zs i2 + 0) + (1 * nthF fs a0 ((0 : Int) + 1 * x + 0 + 0) + 0)
    try simp only [e0]
    omega
theorem s_lz0 {fs : List (Int → Int)} {zs : List Int} {a0 a1 i0 i1 : Nat} : SnOk fs zs (70, [2, a0, a1, i0, i1], []) ↔ ∀ x : Int, nthZ zs i0 ≤ x → x < nthZ zs i1 → ((0 ≤ 4+(-1)*nthF fs a0 (x)) ∨ (0 ≤ 0+(-1)*nthF fs a1 (x))) := by
  show fOk ((2, 2), ([(0, 1, 0, [], []), (1, 1, 0, [], [])], [(4, 0, [], [(0, (-1))]), (0, 0, [], [(1, (-1))])])) [nthF fs a0, nthF fs a1] [nthZ zs i0, nthZ zs i1] ↔ _
  have e0 : ∀ x : Int, (0 : Int) + 1 * x + 0 + 0 = x := fun x => by omega
  have e1 : ∀ x : Int, (0 : Int) + 1 * x + 0 + 0 = x := fun x => by omega
  constructor
  · intro h x h1 h2
    obtain ⟨l0, hl, q⟩ := h x h1 h2
    rcases List.mem_cons.mp hl with hl | hl
    · subst hl; replace q : 0 ≤ (4 : Int) + 0 * x + 0 + ((-1) * nthF fs a0 ((0 : Int) + 1 * x + 0 + 0) + 0) := q; try simp only [e0, e1] at q
      left; omega
    · skip
      rcases List.mem_cons.mp hl with hl | hl
      · subst hl; replace q : 0 ≤ (0 : Int) + 0 * x + 0 + ((-1) * nthF fs a1 ((0 : Int) + 1 * x + 0 + 0) + 0) := q; try simp only [e0, e1] at q
        right; omega
      · cases hl
  · intro h x h1 h2
    have q := h x h1 h2
    rcases q with q | q
    · refine ⟨_, (List.mem_cons_self), ?_⟩; show 0 ≤ (4 : Int) + 0 * x + 0 + ((-1) * nthF fs a0 ((0 : Int) + 1 * x + 0 + 0) + 0)
      try simp only [e0, e1]
      omega
    · refine ⟨_, (List.mem_cons_of_mem _ (List.mem_cons_self)), ?_⟩; show 0 ≤ (0 : Int) + 0 * x + 0 + ((-1) * nthF fs a1 ((0 : Int) + 1 * x + 0 + 0) + 0)
      try simp only [e0, e1]
      omega
theorem s_nov {fs : List (Int → Int)} {zs : List Int} {a0 a1 a2 i0 i1 i2 : Nat} : SnOk fs zs (71, [3, a0, a1, a2, i0, i1, i2], []) ↔ ∀ x : Int, nthZ zs i0 ≤ x → x < nthZ zs i1 → ((0 ≤ -5+(1)*nthF fs a0 (x)) ∨ (0 ≤ 65536+(-1)*nthF fs a1 (x)+(-1)*nthF fs a2 (x)) ∨ (0 ≤ -1+(1)*nthZ zs i2)) := by
  show fOk ((3, 3), ([(0, 1, 0, [], []), (1, 1, 0, [], []), (2, 1, 0, [], [])], [((-5), 0, [], [(0, 1)]), (65536, 0, [], [(1, (-1)), (2, (-1))]), ((-1), 0, [(2, 1)], [])])) [nthF fs a0, nthF fs a1, nthF fs a2] [nthZ zs i0, nthZ zs i1, nthZ zs i2] ↔ _
  have e0 : ∀ x : Int, (0 : Int) + 1 * x + 0 + 0 = x := fun x => by omega
  have e1 : ∀ x : Int, (0 : Int) + 1 * x + 0 + 0 = x := fun x => by omega
  have e2 : ∀ x : Int, (0 : Int) + 1 * x + 0 + 0 = x := fun x => by omega
  constructor
  · intro h x h1 h2
    obtain ⟨l0, hl, q⟩ := h x h1 h2
    rcases List.mem_cons.mp hl with hl | hl
    · subst hl; replace q : 0 ≤ ((-5) : Int) + 0 * x + 0 + (1 * nthF fs a0 ((0 : Int) + 1 * x + 0 + 0) + 0) := q; try simp only [e0, e1, e2] at q
      left; omega
    · skip
      rcases List.mem_cons.mp hl with hl | hl
      · subst hl; replace q : 0 ≤ (65536 : Int) + 0 * x + 0 + ((-1) * nthF fs a1 ((0 : Int) + 1 * x + 0 + 0) + ((-1) * nthF fs a2 ((0 : Int) + 1 * x + 0 + 0) + 0)) := q; try simp only [e0, e1, e2] at q
        right; left; omega
      · skip
        rcases List.mem_cons.mp hl with hl | hl
        · subst hl; replace q : 0 ≤ ((-1) : Int) + 0 * x + (1 * nthZ zs i2 + 0) + 0 := q; try simp only [e0, e1, e2] at q
          right; right; omega
        · cases hl
  · intro h x h1 h2
    have q := h x h1 h2
    rcases q with q | q | q
    · refine ⟨_, (List.mem_cons_self), ?_⟩; show 0 ≤ ((-5) : Int) + 0 * x + 0 + (1 * nthF fs a0 ((0 : Int) + 1 * x + 0 + 0) + 0)
      try simp only [e0, e1, e2]
      omega
    · refine ⟨_, (List.mem_cons_of_mem _ (List.mem_cons_self)), ?_⟩; show 0 ≤ (65536 : Int) + 0 * x + 0 + ((-1) * nthF fs a1 ((0 : Int) + 1 * x + 0 + 0) + ((-1) * nthF fs a2 ((0 : Int) + 1 * x + 0 + 0) + 0))
      try simp only [e0, e1, e2]
      omega
    · refine ⟨_, (List.mem_cons_of_mem _ (List.mem_cons_of_mem _ (List.mem_cons_self))), ?_⟩; show 0 ≤ ((-1) : Int) + 0 * x + (1 * nthZ zs i2 + 0) + 0
      try simp only [e0, e1, e2]
      omega
theorem s_leoo {fs : List (Int → Int)} {zs : List Int} {a0 i0 i1 i2 i3 i4 : Nat} : SnOk fs zs (72, [1, a0, i0, i1, i2, i3, i4], []) ↔ ∀ x : Int, nthZ zs i0 ≤ x → x < nthZ zs i1 → ((0 ≤ 0+(1)*nthZ zs i2+(-1)*nthF fs a0 (x)) ∨ (0 ≤ 0+(1)*nthZ zs i3) ∨ (0 ≤ 0+(1)*nthZ zs i4)) := by
  show fOk ((1, 5), ([(0, 1, 0, [], [])], [(0, 0, [(2, 1)], [(0, (-1))]), (0, 0, [(3, 1)], []), (0, 0, [(4, 1)], [])])) [nthF fs a0] [nthZ zs i0, nthZ zs i1, nthZ zs i2, nthZ zs i3, nthZ zs i4] ↔ _
  have e0 : ∀ x : Int, (0 : Int) + 1 * x + 0 + 0 = x := fun x => by omega
  constructor
  · intro h x h1 h2
    obtain ⟨l0, hl, q⟩ := h x h1 h2
    rcases List.mem_cons.mp hl with hl | hl
    · subst hl; replace q : 0 ≤ (0 : Int) + 0 * x + (1 * nthZ zs i2 + 0) + ((-1) * nthF fs a0 ((0 : Int) + 1 * x + 0 + 0) + 0) := q; try simp only [e0] at q
      left; omega
    · skip
      rcases List.mem_cons.mp hl with hl | hl
      · subst hl; replace q : 0 ≤ (0 : Int) + 0 * x + (1 * nthZ zs i3 + 0) + 0 := q; try simp only [e0] at q
        right; left; omega
      · skip
        rcases List.mem_cons.mp hl with hl | hl
        · subst hl; replace q : 0 ≤ (0 : Int) + 0 * x + (1 * nthZ zs i4 + 0) + 0 := q; try simp only [e0] at q
          right; right; omega
        · cases hl
  · intro h x h1 h2
    have q := h x h1 h2
    rcases q with q | q | q
    · refine ⟨_, (List.mem_cons_self), ?_⟩; show 0 ≤ (0 : Int) + 0 * x + (1 * nthZ zs i2 + 0) + ((-1) * nthF fs a0 ((0 : Int) + 1 * x + 0 + 0) + 0)
      try simp only [e0]
      omega
    · refine ⟨_, (List.mem_cons_of_mem _ (List.mem_cons_self)), ?_⟩; show 0 ≤ (0 : Int) + 0 * x + (1 * nthZ zs i3 + 0) + 0
      try simp only [e0]
      omega
    · refine ⟨_, (List.mem_cons_of_mem _ (List.mem_cons_of_mem _ (List.mem_cons_self))), ?_⟩; show 0 ≤ (0 : Int) + 0 * x + (1 * nthZ zs i4 + 0) + 0
      try simp only [e0]
      omega
theorem s_outo {fs : List (Int → Int)} {zs : List Int} {a0 i0 i1 i2 i3 i4 : Nat} : SnOk fs zs (73, [1, a0, i0, i1, i2, i3, i4], []) ↔ ∀ x : Int, nthZ zs i0 ≤ x → x < nthZ zs i1 → ((0 ≤ 0+(1)*nthZ zs i2+(-1)*nthF fs a0 (x)) ∨ (0 ≤ 0+(-1)*nthZ zs i3+(1)*nthF fs a0 (x)) ∨ (0 ≤ 0+(1)*nthZ zs i4)) := by
  show fOk ((1, 5), ([(0, 1, 0, [], [])], [(0, 0, [(2, 1)], [(0, (-1))]), (0, 0, [(3, (-1))], [(0, 1)]), (0, 0, [(4, 1)], [])])) [nthF fs a0] [nthZ zs i0, nthZ zs i1, nthZ zs i2, nthZ zs i3, nthZ zs i4] ↔ _
  have e0 : ∀ x : Int, (0 : Int) + 1 * x + 0 + 0 = x := fun x => by omega
  constructor
  · intro h x h1 h2
    obtain ⟨l0, hl, q⟩ := h x h1 h2
    rcases List.mem_cons.mp hl with hl | hl
    · subst hl; replace q : 0 ≤ (0 : Int) + 0 * x + (1 * nthZ zs i2 + 0) + ((-1) * nthF fs a0 ((0 : Int) + 1 * x + 0 + 0) + 0) := q; try simp only [e0] at q
      left; omega
    · skip
      rcases List.mem_cons.mp hl with hl | hl
      · subst hl; replace q : 0 ≤ (0 : Int) + 0 * x + ((-1) * nthZ zs i3 + 0) + (1 * nthF fs a0 ((0 : Int) + 1 * x + 0 + 0) + 0) := q; try simp only [e0] at q
        right; left; omega
      · skip
        rcases List.mem_cons.mp hl with hl | hl
        · subst hl; replace q : 0 ≤ (0 : Int) + 0 * x + (1 * nthZ zs i4 + 0) + 0 := q; try simp only [e0] at q
          right; right; omega
        · cases hl
  · intro h x h1 h2
    have q := h x h1 h2
    rcases q with q | q | q
    · refine ⟨_, (List.mem_cons_self), ?_⟩; show 0 ≤ (0 : Int) + 0 * x + (1 * nthZ zs i2 + 0) + ((-1) * nthF fs a0 ((0 : Int) + 1 * x + 0 + 0) + 0)
      try simp only [e0]
      omega
    · refine ⟨_, (List.mem_cons_of_mem _ (List.mem_cons_self)), ?_⟩; show 0 ≤ (0 : Int) + 0 * x + ((-1) * nthZ zs i3 + 0) + (1 * nthF fs a0 ((0 : Int) + 1 * x + 0 + 0) + 0)
      try simp only [e0]
      omega
    · refine ⟨_, (List.mem_cons_of_mem _ (List.mem_cons_of_mem _ (List.mem_cons_self))), ?_⟩; show 0 ≤ (0 : Int) + 0 * x + (1 * nthZ zs i4 + 0) + 0
      try simp only [e0]
      omega
theorem s_ds0 {fs : List (Int → Int)} {zs : List Int} {a0 a1 a2 i0 i1 i2 : Nat} : SnOk fs zs (67, [3, a0, a1, a2, i0, i1, i2], []) ↔ ∀ x : Int, nthZ zs i0 ≤ x → x < nthZ zs i1 → ((0 ≤ -1+(1)*nthF fs a0 (x)) ∨ (0 ≤ 0+(1)*nthZ zs i2+(-1)*nthF fs a1 (x)+(-1)*nthF fs a2 (x))) := by
  show fOk ((3, 3), ([(0, 1, 0, [], []), (1, 1, 0, [], []), (2, 1, 0, [], [])], [((-1), 0, [], [(0, 1)]), (0, 0, [(2, 1)], [(1, (-1)), (2, (-1))])])) [nthF fs a0, nthF fs a1, nthF fs a2] [nthZ zs i0, nthZ zs i1, nthZ zs i2] ↔ _
  have e0 : ∀ x : Int, (0 : Int) + 1 * x + 0 + 0 = x := fun x => by omega
  have e1 : ∀ x : Int, (0 : Int) + 1 * x + 0 + 0 = x := fun x => by omega
  have e2 : ∀ x : Int, (0 : Int) + 1 * x + 0 + 0 = x := fun x => by omega
  constructor
  · intro h x h1 h2
    obtain ⟨l0, hl, q⟩ := h x h1 h2
    rcases List.mem_cons.mp hl with hl | hl
    · subst hl; replace q : 0 ≤ ((-1) : Int) + 0 * x + 0 + (1 * nthF fs a0 ((0 : Int) + 1 * x + 0 + 0) + 0) := q; try simp only [e0, e1, e2] at q
      left; omega
    · skip
      rcases List.mem_cons.mp hl with hl | hl
      · subst hl; replace q : 0 ≤ (0 : Int) + 0 * x + (1 * nthZ zs i2 + 0) + ((-1) * nthF fs a1 ((0 : Int) + 1 * x + 0 + 0) + ((-1) * nthF fs a2 ((0 : Int) + 1 * x + 0 + 0) + 0)) := q; try simp only [e0, e1, e2] at q
        right; omega
      · cases hl
  · intro h x h1 h2
    have q := h x h1 h2
    rcases q with q | q
    · refine ⟨_, (List.mem_cons_self), ?_⟩; show 0 ≤ ((-1) : Int) + 0 * x + 0 + (1 * nthF fs a0 ((0 : Int) + 1 * x + 0 + 0) + 0)
      try simp only [e0, e1, e2]
      omega
    · refine ⟨_, (List.mem_cons_of_mem _ (List.mem_cons_self)), ?_⟩; show 0 ≤ (0 : Int) + 0 * x + (1 * nthZ zs i2 + 0) + ((-1) * nthF fs a1 ((0 : Int) + 1 * x + 0 + 0) + ((-1) * nthF fs a2 ((0 : Int) + 1 * x + 0 + 0) + 0))
      try simp only [e0, e1, e2]
      omega
theorem s_ds3 {fs : List (Int → Int)} {zs : List Int} {a0 a1 a2 i0 i1 i2 : Nat} : SnOk fs zs (68, [3, a0, a1, a2, i0, i1, i2], []) ↔ ∀ x : Int, nthZ zs i0 ≤ x → x < nthZ zs i1 → ((0 ≤ 2+(-1)*nthF fs a0 (x)) ∨ (0 ≤ -4+(1)*nthF fs a0 (x)) ∨ (0 ≤ 0+(1)*nthZ zs i2+(-1)*nthF fs a1 (x)+(-1)*nthF fs a2 (x))) := by
  show fOk ((3, 3), ([(0, 1, 0, [], []), (1, 1, 0, [], []), (2, 1, 0, [], [])], [(2, 0, [], [(0, (-1))]), ((-4), 0, [], [(0, 1)]), (0, 0, [(2, 1)], [(1, (-1)), (2, (-1))])])) [nthF fs a0, nthF fs a1, nthF fs a2] [nthZ zs i0, nthZ zs i1, nthZ zs i2] ↔ _
  have e0 : ∀ x : Int, (0 : Int) + 1 * x + 0 + 0 = x := fun x => by omega
  have e1 : ∀ x : Int, (0 : Int) + 1 * x + 0 + 0 = x := fun x => by omega
  have e2 : ∀ x : Int, (0 : Int) + 1 * x + 0 + 0 = x := fun x => by omega
  constructor
  · intro h x h1 h2
    obtain ⟨l0, hl, q⟩ := h x h1 h2
    rcases List.mem_cons.mp hl with hl | hl
    · subst hl; replace q : 0 ≤ (2 : Int) + 0 * x + 0 + ((-1) * nthF fs a0 ((0 : Int) + 1 * x + 0 + 0) + 0) := q; try simp only [e0, e1, e2] at q
      left; omega
    · skip
      rcases List.mem_cons.mp hl with hl | hl
      · subst hl; replace q : 0 ≤ ((-4) : Int) + 0 * x + 0 + (1 * nthF fs a0 ((0 : Int) + 1 * x + 0 + 0) + 0) := q; try simp only [e0, e1, e2] at q
        right; left; omega
      · skip
        rcases List.mem_cons.mp hl with hl | hl
        · subst hl; replace q : 0 ≤ (0 : Int) + 0 * x + (1 * nthZ zs i2 + 0) + ((-1) * nthF fs a1 ((0 : Int) + 1 * x + 0 + 0) + ((-1) * nthF fs a2 ((0 : Int) + 1 * x + 0 + 0) + 0)) := q; try simp only [e0, e1, e2] at q
          right; right; omega
        · cases hl
  · intro h x h1 h2
    have q := h x h1 h2
    rcases q with q | q | q
    · refine ⟨_, (List.mem_cons_self), ?_⟩; show 0 ≤ (2 : Int) + 0 * x + 0 + ((-1) * nthF fs a0 ((0 : Int) + 1 * x + 0 + 0) + 0)
      try simp only [e0, e1, e2]
      omega
    · refine ⟨_, (List.mem_cons_of_mem _ (List.mem_cons_self)), ?_⟩; show 0 ≤ ((-4) : Int) + 0 * x + 0 + (1 * nthF fs a0 ((0 : Int) + 1 * x + 0 + 0) + 0)
      try simp only [e0, e1, e2]
      omega
    · refine ⟨_, (List.mem_cons_of_mem _ (List.mem_cons_of_mem _ (List.mem_cons_self))), ?_⟩; show 0 ≤ (0 : Int) + 0 * x + (1 * nthZ zs i2 + 0) + ((-1) * nthF fs a1 ((0 : Int) + 1 * x + 0 + 0) + ((-1) * nthF fs a2 ((0 : Int) + 1 * x + 0 + 0) + 0))
      try simp only [e0, e1, e2]
      omega
theorem s_ds5 {fs : List (Int → Int)} {zs : List Int} {a0 a1 a2 i0 i1 i2 : Nat} : SnOk fs zs (69, [3, a0, a1, a2, i0, i1, i2], []) ↔ ∀ x : Int, nthZ zs i0 ≤ x → x < nthZ zs i1 → ((0 ≤ 4+(-1)*nthF fs a0 (x)) ∨ (0 ≤ 0+(1)*nthZ zs i2+(-1)*nthF fs a1 (x)+(-1)*nthF fs a2 (x))) := by
  show fOk ((3, 3), ([(0, 1, 0, [], []), (1, 1, 0, [], []), (2, 1, 0, [], [])], [(4, 0, [], [(0, (-1))]), (0, 0, [(2, 1)], [(1, (-1)), (2, (-1))])])) [nthF fs a0, nthF fs a1, nthF fs a2] [nthZ zs i0, nthZ zs i1, nthZ zs i2] ↔ _
  have e0 : ∀ x : Int, (0 : Int) + 1 * x + 0 + 0 = x := fun x => by omega
  have e1 : ∀ x : Int, (0 : Int) + 1 * x + 0 + 0 = x := fun x => by omega
  have e2 : ∀ x : Int, (0 : Int) + 1 * x + 0 + 0 = x := fun x => by omega
  constructor
  · intro h x h1 h2
    obtain ⟨l0, hl, q⟩ := h x h1 h2
    rcases List.mem_cons.mp hl with hl | hl
    · subst hl; replace q : 0 ≤ (4 : Int) + 0 * x + 0 + ((-1) * nthF fs a0 ((0 : Int) + 1 * x + 0 + 0) + 0) := q; try simp only [e0, e1, e2] at q
      left; omega
    · skip
      rcases List.mem_cons.mp hl with hl | hl
      · subst hl; replace q : 0 ≤ (0 : Int) + 0 * x + (1 * nthZ zs i2 + 0) + ((-1) * nthF fs a1 ((0 : Int) + 1 * x + 0 + 0) + ((-1) * nthF fs a2 ((0 : Int) + 1 * x + 0 + 0) + 0)) := q; try simp only [e0, e1, e2] at q
        right; omega
      · cases hl
  · intro h x h1 h2
    have q := h x h1 h2
    rcases q with q | q
    · refine ⟨_, (List.mem_cons_self), ?_⟩; show 0 ≤ (4 : Int) + 0 * x + 0 + ((-1) * nthF fs a0 ((0 : Int) + 1 * x + 0 + 0) + 0)
      try simp only [e0, e1, e2]
      omega
    · refine ⟨_, (List.mem_cons_of_mem _ (List.mem_cons_self)), ?_⟩; show 0 ≤ (0 : Int) + 0 * x + (1 * nthZ zs i2 + 0) + ((-1) * nthF fs a1 ((0 : Int) + 1 * x + 0 + 0) + ((-1) * nthF fs a2 ((0 : Int) + 1 * x + 0 + 0) + 0))
      try simp only [e0, e1, e2]
      omega
theorem s_outr {fs : List (Int → Int)} {zs : List Int} {a0 i0 i1 i2 i3 : Nat} : SnOk fs zs (26, [1, a0, i0, i1, i2, i3], []) ↔ ∀ x : Int, nthZ zs i0 ≤ x → x < nthZ zs i1 → ((0 ≤ 0+(1)*nthZ zs i2+(-1)*nthF fs a0 (x)) ∨ (0 ≤ 0+(-1)*nthZ zs i3+(1)*nthF fs a0 (x))) := by
  show fOk ((1, 4), ([(0, 1, 0, [], [])], [(0, 0, [(2, 1)], [(0, (-1))]), (0, 0, [(3, (-1))], [(0, 1)])])) [nthF fs a0] [nthZ zs i0, nthZ zs i1, nthZ zs i2, nthZ zs i3] ↔ _
  have e0 : ∀ x : Int, (0 : Int) + 1 * x + 0 + 0 = x := fun x => by omega
  constructor
  · intro h x h1 h2
    obtain ⟨l0, hl, q⟩ := h x h1 h2
    rcases List.mem_cons.mp hl with hl | hl
    · subst hl; replace q : 0 ≤ (0 : Int) + 0 * x + (1 * nthZ zs i2 + 0) + ((-1) * nthF fs a0 ((0 : Int) + 1 * x + 0 + 0) + 0) := q; try simp only [e0] at q
      left; omega
    · skip
      rcases List.mem_cons.mp hl with hl | hl
      · subst hl; replace q : 0 ≤ (0 : Int) + 0 * x + ((-1) * nthZ zs i3 + 0) + (1 * nthF fs a0 ((0 : Int) + 1 * x + 0 + 0) + 0) := q; try simp only [e0] at q
        right; omega
      · cases hl
  · intro h x h1 h2
    have q := h x h1 h2
    rcases q with q | q
    · refine ⟨_, (List.mem_cons_self), ?_⟩; show 0 ≤ (0 : Int) + 0 * x + (1 * nthZ zs i2 + 0) + ((-1) * nthF fs a0 ((0 : Int) + 1 * x + 0 + 0) + 0)
      try simp only [e0]
      omega
    · refine ⟨_, (List.mem_cons_of_mem _ (List.mem_cons_self)), ?_⟩; show 0 ≤ (0 : Int) + 0 * x + ((-1) * nthZ zs i3 + 0) + (1 * nthF fs a0 ((0 : Int) + 1 * x + 0 + 0) + 0)
      try simp only [e0]
      omega
