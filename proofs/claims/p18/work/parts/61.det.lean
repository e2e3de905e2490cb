/-! THE ANSWERS OF METHODS WITHOUT EFFECTS: what is evaluated is what a checked method answers -/
theorem c32_of {z : Int} (h : in32 z) : c32 z = z := i_of h
theorem c64_of {z : Int} (h : in64 z) : c64 z = z := j_of h
theorem c32_c (z : Int) : c32 (c32 z) = c32 z := c32_of (i_rng _)
theorem c64_c (z : Int) : c64 (c64 z) = c64 z := c64_of (j_rng _)
theorem ofI_c (z : Int) : Int32.ofInt (c32 z) = Int32.ofInt z := Int32.ofInt_toInt _
theorem ofJ_c (z : Int) : Int64.ofInt (c64 z) = Int64.ofInt z := Int64.ofInt_toInt _
theorem cnv_c (t : Nat) (z : Int) : cnv t (cnv t z) = cnv t z := by
  unfold cnv
  split
  · exact c32_c z
  · split
    · exact c64_c z
    · rfl
theorem cnv_add (t : Nat) (a b : Int) : cnv t (cnv t a + cnv t b) = cnv t (a + b) := by
  unfold cnv
  split
  · show (Int32.ofInt (c32 a + c32 b)).toInt = (Int32.ofInt (a + b)).toInt
    rw [Int32.ofInt_add, Int32.ofInt_add, ofI_c, ofI_c]
  · split
    · show (Int64.ofInt (c64 a + c64 b)).toInt = (Int64.ofInt (a + b)).toInt
      rw [Int64.ofInt_add, Int64.ofInt_add, ofJ_c, ofJ_c]
    · rfl
theorem cnv_sub (t : Nat) (a b : Int) : cnv t (cnv t a - cnv t b) = cnv t (a - b) := by
  unfold cnv
  split
  · show (Int32.ofInt (c32 a - c32 b)).toInt = (Int32.ofInt (a - b)).toInt
    rw [Int32.ofInt_sub, Int32.ofInt_sub, ofI_c, ofI_c]
  · split
    · show (Int64.ofInt (c64 a - c64 b)).toInt = (Int64.ofInt (a - b)).toInt
      rw [Int64.ofInt_sub, Int64.ofInt_sub, ofJ_c, ofJ_c]
    · rfl
theorem cnv_mul (t : Nat) (a b : Int) : cnv t (cnv t a * cnv t b) = cnv t (a * b) := by
  unfold cnv
  split
  · show (Int32.ofInt (c32 a * c32 b)).toInt = (Int32.ofInt (a * b)).toInt
    rw [Int32.ofInt_mul, Int32.ofInt_mul, ofI_c, ofI_c]
  · split
    · show (Int64.ofInt (c64 a * c64 b)).toInt = (Int64.ofInt (a * b)).toInt
      rw [Int64.ofInt_mul, Int64.ofInt_mul, ofJ_c, ofJ_c]
    · rfl
theorem c32_64 (z : Int) : c32 (c64 z) = c32 z := by
  unfold c32 c64
  have e : ∀ a : Int, (Int32.ofInt a) = (Int64.ofInt a).toInt32 := fun a => by rw [Int64.toInt32_ofInt]
  rw [e, e z, Int64.ofInt_toInt]
theorem fI_in {f : Nat} {a b : Int} (ha : in32 a) (hb : in32 b) : in32 (fI f a b) := by
  unfold fI
  split
  all_goals first | exact i_rng _ | (unfold in32 at *; omega)
theorem cmpZ_in (a b : Int) : in32 (cmpZ a b) := by
  unfold cmpZ in32
  split
  · omega
  · split <;> omega
theorem relB_z {k : Nat} {a b : Int} : relB k a b = true ↔ relZ k a b := by
  unfold relB relZ
  split <;> simp only [decide_eq_true_eq]
/-- each local that is known stands in lc by its canonical number -/
def Rl (ls lc : qLS) : Prop := ∀ i v, (i, v) ∈ ls → lkA i lc = some (cnV v)
theorem Rl_set {ls lc : qLS} {i : Nat} {v v' : qV} (h : Rl ls lc) (e : v' = cnV v) : Rl (lsSet i v ls) ((i, v') :: lc) := by
  intro j w hj
  rcases List.mem_cons.mp hj with hj | hj
  · cases hj
    show (if i = i then some v' else lkA i lc) = some (cnV v)
    rw [if_pos rfl, e]
  · obtain ⟨h1, h2⟩ := List.mem_filter.mp hj
    have c : i ≠ j := by
      intro c
      subst c
      unfold keepV at h2
      simp at h2
    show (if i = j then some v' else lkA j lc) = some (cnV w)
    rw [if_neg c]; exact h j w h1
theorem lsArgs_lo : ∀ (as : List qV) (p : Nat), ∀ q ∈ lsArgs p as, p ≤ q.1
  | [], p, q, h => by cases h
  | v :: as, p, q, h => by
    rcases List.mem_cons.mp (show q ∈ (p, v) :: lsArgs _ as from h) with rfl | h
    · exact Nat.le_refl _
    · have := lsArgs_lo as _ q h
      by_cases e : v.1 = 1
      · rw [if_pos e] at this; omega
      · rw [if_neg e] at this; omega
theorem Rl_args : ∀ (as : List qV) (p : Nat), Rl (lsArgs p as) (lsArgs p (as.map cnV))
  | [], p => fun i v h => by cases h
  | a :: as, p => by
    intro i v h
    rcases List.mem_cons.mp h with h | h
    · cases h
      show (if p = p then some (cnV a) else _) = _
      rw [if_pos rfl]
    · have c : p ≠ i := by
        have := lsArgs_lo as _ _ h
        by_cases q : a.1 = 1
        · rw [if_pos q] at this; show p ≠ i; have : p + 2 ≤ i := this; omega
        · rw [if_neg q] at this; have : p + 1 ≤ i := this; omega
      show (if p = i then some (cnV a) else lkA i (lsArgs (if (cnV a).1 = 1 then p + 2 else p + 1) (as.map cnV))) = _
      rw [if_neg c]
      exact Rl_args as _ i v h
section
variable {g : qG} {gd : Nat → Option qBI} {cl : qCl} {cts : List qCt} {s : qSg}
/-- a called method answers what is evaluated, and that alone -/
def DetC (g : qG) (C : qCt) (s : qSg) (f : List qV → Option qV) : Prop := ∀ as r a, CtBeg g C as s r a → Typed g s → ∃ v, f (as.map cnV) = some v ∧ cnV v = v ∧ CtEnd g C r a s [v] s ∧ ∀ res s', CtEnd g C r a s res s' → res = [v] ∧ s' = s
def HC (g : qG) (cts : List qCt) (cl : qCl) (s : qSg) : Prop := ∀ i C, cts[i]? = some C → ∃ c, cl i = some c ∧ c.1 = C.1 ∧ DetC g C s c.2
def GdOk (g : qG) (gd : Nat → Option qBI) : Prop := ∀ b x, gd b = some x → g[b]? = some x ∧ 0 < x.2.1 ∧ 0 < x.2.2.1 ∧ x.2.2.1 ≤ 2147483647
/-- the instructions that are evaluated -/
def okD (gd : Nat → Option qBI) (d : qD) : Bool := match d.1 with
  | 0 | 1 | 3 | 4 | 5 | 14 | 15 | 16 | 18 | 21 | 22 | 23 | 25 | 33 | 34 | 35 | 36 | 37 | 38 | 40 => true
  | 24 => (gd d.2.2.1.toNat).isSome
  | 28 => (gd d.2.1.toNat).isSome
  | _ => false
def stp (d : qD) : Bool := match d.1 with
  | 34 | 35 | 36 | 37 | 38 | 40 => false
  | _ => true
theorem gd_get {b : Nat} {x : qBI} (hgd : GdOk g gd) (h : (gd b).isSome = true) (e : g[b]? = some x) : gd b = some x ∧ 0 < x.2.1 ∧ 0 < x.2.2.1 ∧ x.2.2.1 ≤ 2147483647 := by
  cases q : gd b with
  | none => rw [q] at h; cases h
  | some y =>
    obtain ⟨h1, h2⟩ := hgd b y q
    rw [e] at h1
    cases h1
    exact ⟨rfl, h2⟩
theorem zD_no {d : qD} (hs : stp d = false) {P : qP} {ls lc : qLS} {st : List qV} (hl : Rl ls lc) (hw : wI g cts d P ls st s) :
    ∃ ls' st', st'.map cnV = st.map cnV ∧ Rl ls' lc ∧ P ls' st' s ∧ ∀ P' : qP, P' ls' st' s → wI g cts d P' ls st s := by
  obtain ⟨op, a, b, c⟩ := d
  match op, hs, hw with
  | 34, _, hw => exact ⟨ls, st, rfl, hl, hw, fun P' h => h⟩
  | 35, _, hw => exact ⟨ls, st, rfl, hl, hw, fun P' h => h⟩
  | 38, _, hw => exact ⟨ls, st, rfl, hl, hw, fun P' h => h⟩
  | 36, _, hw =>
    rcases hw with hw | ⟨z, st2, rfl, hw2⟩
    · exact ⟨ls, st, rfl, hl, hw, fun P' h => Or.inl h⟩
    · refine ⟨ls, _, ?_, hl, hw2, fun P' h => Or.inr ⟨z, st2, rfl, h⟩⟩
      rw [List.map_cons, List.map_cons]
      congr 1
      show ((0 : Nat), c32 (c32 z)) = ((0 : Nat), c32 z)
      rw [c32_c]
  | 37, _, hw =>
    rcases hw with hw | ⟨z, st2, rfl, hw2⟩
    · exact ⟨ls, st, rfl, hl, hw, fun P' h => Or.inl h⟩
    · refine ⟨ls, _, ?_, hl, hw2, fun P' h => Or.inr ⟨z, st2, rfl, h⟩⟩
      rw [List.map_cons, List.map_cons]
      congr 1
      show ((1 : Nat), c64 (c64 z)) = ((1 : Nat), c64 z)
      rw [c64_c]
  | 40, _, hw =>
    rcases hw with hw | ⟨z, h1, hw⟩
    · exact ⟨ls, st, rfl, hl, hw, fun P' h => Or.inl h⟩
    · refine ⟨_, st, rfl, ?_, hw, fun P' h => Or.inr ⟨z, h1, h⟩⟩
      intro j w hj
      rcases List.mem_cons.mp hj with hj | hj
      · cases hj
        rw [hl _ _ h1]
        show some ((0 : Nat), c32 z) = some ((0 : Nat), c32 (c32 z))
        rw [c32_c]
      · exact hl j w (List.mem_filter.mp hj).1
theorem zD_ok (hgd : GdOk g gd) (hc : HC g cts cl s) {d : qD} (hk : okD gd d = true) (hs : stp d = true) {P : qP} {ls lc : qLS} {st : List qV} (hl : Rl ls lc) (hw : wI g cts d P ls st s) :
    ∃ ls' lc' st', zD gd cl s d lc (st.map cnV) = some (lc', st'.map cnV) ∧ Rl ls' lc' ∧ P ls' st' s ∧ ∀ P' : qP, P' ls' st' s → wI g cts d P' ls st s := by
  obtain ⟨op, a, b, c⟩ := d
  match op, hk, hs, hw with
  | 0, _, _, hw => exact ⟨ls, lc, _, rfl, hl, hw, fun P' h => h⟩
  | 1, _, _, hw => exact ⟨ls, lc, _, rfl, hl, hw, fun P' h => h⟩
  | 3, _, _, hw =>
    obtain ⟨v, h1, h2, h3⟩ := hw
    refine ⟨ls, lc, v :: st, ?_, hl, h3, fun P' h => ⟨v, h1, h2, h⟩⟩
    unfold zD
    show (match lkA a.toNat lc with | some v => some (lc, v :: st.map cnV) | none => none) = _
    rw [hl _ _ h1]; rfl
  | 4, _, _, hw =>
    obtain ⟨v, st', rfl, h2, h3⟩ := hw
    exact ⟨_, (a.toNat, cnV v) :: lc, st', rfl, Rl_set hl rfl, h3, fun P' h => ⟨v, st', rfl, h2, h⟩⟩
  | 5, _, _, hw =>
    obtain ⟨z, h1, h3⟩ := hw
    refine ⟨_, (a.toNat, (0, c32 (c32 z + b))) :: lc, st, ?_, Rl_set hl ?_, h3, fun P' h => ⟨z, h1, h⟩⟩
    · unfold zD
      show (match lkA a.toNat lc with | some v => some ((a.toNat, (0, c32 (v.2 + b))) :: lc, st.map cnV) | none => none) = _
      rw [hl _ _ h1]; rfl
    · show ((0 : Nat), c32 (c32 z + b)) = (0, c32 (z + b))
      unfold c32
      rw [Int32.ofInt_add, Int32.ofInt_add, Int32.ofInt_toInt]
  | 14, _, _, hw =>
    obtain ⟨x, y, st', rfl, h3⟩ := hw
    refine ⟨ls, lc, _, ?_, hl, h3, fun P' h => ⟨x, y, st', rfl, h⟩⟩
    show some (lc, (a.toNat, cnv a.toNat (cnv a.toNat x + cnv a.toNat y)) :: st'.map cnV) = _
    rw [cnv_add]; rfl
  | 15, _, _, hw =>
    obtain ⟨x, y, st', rfl, h3⟩ := hw
    refine ⟨ls, lc, _, ?_, hl, h3, fun P' h => ⟨x, y, st', rfl, h⟩⟩
    show some (lc, (a.toNat, cnv a.toNat (cnv a.toNat x - cnv a.toNat y)) :: st'.map cnV) = _
    rw [cnv_sub]; rfl
  | 16, _, _, hw =>
    obtain ⟨x, y, st', rfl, h3⟩ := hw
    refine ⟨ls, lc, _, ?_, hl, h3, fun P' h => ⟨x, y, st', rfl, h⟩⟩
    show some (lc, (a.toNat, cnv a.toNat (cnv a.toNat x * cnv a.toNat y)) :: st'.map cnV) = _
    rw [cnv_mul]; rfl
  | 18, _, _, hw =>
    obtain ⟨x, y, st', rfl, i1, i2, h4, h3⟩ := hw
    refine ⟨ls, lc, _, ?_, hl, h3, fun P' h => ⟨x, y, st', rfl, i1, i2, h4, h⟩⟩
    show some (lc, (0, fI a.toNat (c32 x) (c32 y)) :: st'.map cnV) = some (lc, (0, c32 (fI a.toNat x y)) :: st'.map cnV)
    rw [c32_of i1, c32_of i2, c32_of (fI_in i1 i2)]
  | 21, _, _, hw =>
    obtain ⟨x, st', rfl, i1, h3⟩ := hw
    refine ⟨ls, lc, _, ?_, hl, h3, fun P' h => ⟨x, st', rfl, i1, h⟩⟩
    show some (lc, (1, c32 x) :: st'.map cnV) = some (lc, (1, c64 x) :: st'.map cnV)
    rw [c32_of i1, c64_of (by unfold in32 at i1; unfold in64; omega)]
  | 22, _, _, hw =>
    obtain ⟨x, st', rfl, h3⟩ := hw
    refine ⟨ls, lc, _, ?_, hl, h3, fun P' h => ⟨x, st', rfl, h⟩⟩
    show some (lc, (0, c32 (c64 x)) :: st'.map cnV) = some (lc, (0, c32 x) :: st'.map cnV)
    rw [c32_64]
  | 23, _, _, hw =>
    obtain ⟨x, y, st', rfl, i1, i2, h3⟩ := hw
    refine ⟨ls, lc, _, ?_, hl, h3, fun P' h => ⟨x, y, st', rfl, i1, i2, h⟩⟩
    show some (lc, (0, cmpZ (c64 x) (c64 y)) :: st'.map cnV) = some (lc, (0, c32 (cmpZ x y)) :: st'.map cnV)
    rw [c64_of i1, c64_of i2, c32_of (cmpZ_in _ _)]
  | 24, hk, _, hw =>
    obtain ⟨x, st', rfl, e, h3⟩ := hw
    obtain ⟨e2, -⟩ := gd_get hgd hk e
    refine ⟨ls, lc, _, ?_, hl, h3, fun P' h => ⟨x, st', rfl, e, h⟩⟩
    unfold zD
    show (match (cnV (2, a) :: st'.map cnV), gd b.toNat with | _ :: st', some x => some (lc, (x.2.2.2.1, cnv x.2.2.2.1 (s b.toNat 0)) :: st') | _, _ => none) = _
    have e2 : gd b.toNat = some x := e2
    rw [e2]; rfl
  | 25, _, _, hw =>
    obtain ⟨st', rfl, h3⟩ := hw
    exact ⟨ls, lc, _, rfl, hl, h3, fun P' h => ⟨st', rfl, h⟩⟩
  | 28, hk, _, hw =>
    obtain ⟨x, i, w, st', rfl, e, w1, w2, i1, i2, h3⟩ := hw
    obtain ⟨e2, n1, n2, n3⟩ := gd_get hgd hk e
    refine ⟨ls, lc, _, ?_, hl, h3, fun P' h => ⟨x, i, w, st', rfl, e, w1, w2, i1, i2, h⟩⟩
    have e2 : gd a.toNat = some x := e2
    have ci : c32 i = i := c32_of (by unfold in32; omega)
    unfold zD
    show (match (((0 : Nat), c32 i) :: ((2 : Nat), x.1 + 2 * w) :: st'.map cnV), gd a.toNat with | i :: f :: st', some x => (if 0 ≤ i.2 ∧ i.2 < x.2.2.1 ∧ 0 ≤ (f.2 - x.1) / 2 ∧ (f.2 - x.1) / 2 < x.2.1 then some (lc, (x.2.2.2.1, cnv x.2.2.2.1 (s a.toNat (x.2.2.1 * ((f.2 - x.1) / 2) + i.2))) :: st') else none) | _, _ => none) = _
    rw [e2, ci]
    have cw : (x.1 + 2 * w - x.1) / 2 = w := by omega
    show (if 0 ≤ i ∧ i < x.2.2.1 ∧ 0 ≤ (x.1 + 2 * w - x.1) / 2 ∧ (x.1 + 2 * w - x.1) / 2 < x.2.1 then some (lc, (x.2.2.2.1, cnv x.2.2.2.1 (s a.toNat (x.2.2.1 * ((x.1 + 2 * w - x.1) / 2) + i))) :: st'.map cnV) else none) = _
    rw [cw, if_pos ⟨i1, i2, w1, w2⟩]; rfl
  | 33, _, _, hw =>
    obtain ⟨C, e, as, st', r, v0, rfl, h1, h2, h3, h4⟩ := hw
    obtain ⟨k, k1, k2, k3⟩ := hc _ _ e
    obtain ⟨v, v1, v2, v3, v4⟩ := k3 as r v0 h1 h3
    refine ⟨ls, lc, v :: st', ?_, hl, h4 _ _ v3, fun P' h => ⟨C, e, as, st', r, v0, rfl, h1, h2, h3, fun res s' he => ?_⟩⟩
    · unfold zD
      have k1 : cl a.toNat = some k := k1
      show (match cl a.toNat with | some c => (match c.2 (((as.reverse ++ st').map cnV).take c.1).reverse with | some v => some (lc, v :: ((as.reverse ++ st').map cnV).drop c.1) | none => none) | none => none) = _
      rw [k1]
      have hn : as.reverse.length = k.1 := by rw [List.length_reverse, k2]; exact h1.1
      have q1 : (((as.reverse ++ st').map cnV).take k.1).reverse = as.map cnV := by
        rw [List.map_append, List.take_left' (by rw [List.length_map]; exact hn), ← List.map_reverse, List.reverse_reverse]
      have q2 : ((as.reverse ++ st').map cnV).drop k.1 = st'.map cnV := by
        rw [List.map_append, List.drop_left' (by rw [List.length_map]; exact hn)]
      show (match k.2 (((as.reverse ++ st').map cnV).take k.1).reverse with | some v => some (lc, v :: ((as.reverse ++ st').map cnV).drop k.1) | none => none) = _
      rw [q1, q2, v1]
      show some (lc, v :: st'.map cnV) = some (lc, cnV v :: st'.map cnV)
      rw [v2]
    · obtain ⟨rfl, rfl⟩ := v4 _ _ he
      exact h
  | 40, _, hs, _ => cases hs
theorem zB_ok (hgd : GdOk g gd) (hc : HC g cts cl s) : ∀ (ds : List qD), (∀ d ∈ ds, okD gd d = true) → ∀ {T : qP} {ls lc : qLS} {st : List qV}, Rl ls lc → wBl g cts ds T ls st s →
    ∃ ls' lc' st', zB gd cl s (ds.filter stp) lc (st.map cnV) = some (lc', st'.map cnV) ∧ Rl ls' lc' ∧ T ls' st' s ∧ ∀ T' : qP, T' ls' st' s → wBl g cts ds T' ls st s
  | [], _, T, ls, lc, st, hl, hw => ⟨ls, lc, st, rfl, hl, hw, fun _ h => h⟩
  | d :: ds, hk, T, ls, lc, st, hl, hw => by
    have hw : wI g cts d (wBl g cts ds T) ls st s := hw
    cases e : stp d
    · obtain ⟨l1, s1, q1, q2, q3, q4⟩ := zD_no e hl hw
      obtain ⟨l2, c2, s2, r1, r2, r3, r4⟩ := zB_ok hgd hc ds (fun x hx => hk x (List.mem_cons_of_mem _ hx)) q2 q3
      refine ⟨l2, c2, s2, ?_, r2, r3, fun T' h => q4 _ (r4 T' h)⟩
      rw [List.filter_cons_of_neg (by rw [e]; exact Bool.false_ne_true), ← q1]; exact r1
    · obtain ⟨l1, c1, s1, q1, q2, q3, q4⟩ := zD_ok hgd hc (hk d List.mem_cons_self) e hl hw
      obtain ⟨l2, c2, s2, r1, r2, r3, r4⟩ := zB_ok hgd hc ds (fun x hx => hk x (List.mem_cons_of_mem _ hx)) q2 q3
      refine ⟨l2, c2, s2, ?_, r2, r3, fun T' h => q4 _ (r4 T' h)⟩
      rw [List.filter_cons_of_pos e]
      show (match zD gd cl s d lc (st.map cnV) with | some p => zB gd cl s (ds.filter stp) p.1 p.2 | none => none) = _
      rw [q1]; exact r1
def stB (blk : List qD × qTm) : List qD × qTm := (blk.1.filter stp, blk.2)
def okTm (t : qTm) : Bool := match t.1 with
  | 0 | 1 | 2 => true
  | 5 => match t.2.2.2.2 with
    | [lo, hi] => (t.2.1 == 0 && decide (-2147483648 ≤ lo.1) && decide (hi.1 ≤ 2147483647)) || (t.2.1 == 1 && decide (-9223372036854775808 ≤ lo.1) && decide (hi.1 ≤ 9223372036854775807))
    | _ => false
  | _ => false
def okC (gd : Nat → Option qBI) (code : qCd) : Bool := code.all fun blk => blk.1.all (okD gd) && okTm blk.2
/-- what is said of a block: from there it is evaluated to an answer that R0 tells; and W holds, if that is v0 -/
def VDet (gd : Nat → Option qBI) (cl : qCl) (s : qSg) (code : qCd) (R0 : List qV → qSg → Prop) (v0 : qV) (W : Nat → qP) (b : Nat) : qP := fun ls st s' => s' = s → ∀ lc, Rl ls lc → ∃ (n : Nat) (v : qV), zEv gd cl s (code.map stB) n b lc (st.map cnV) = some v ∧ R0 [v] s ∧ cnV v = v ∧ (v = v0 → W b ls st s)
theorem zEv_s {code : qCd} {n b : Nat} {lc : qLS} {st : List qV} {blk : List qD × qTm} (h : code[b]? = some blk) : zEv gd cl s code (n + 1) b lc st = match zB gd cl s blk.1 lc st with
      | some p => match zN blk.2 p.2 with
        | some (.inl q) => zEv gd cl s code n q.1 p.1 q.2
        | some (.inr v) => some v
        | none => none
      | none => none := by
  show (match code[b]? with
    | some blk => match zB gd cl s blk.1 lc st with
      | some p => match zN blk.2 p.2 with
        | some (.inl q) => zEv gd cl s code n q.1 p.1 q.2
        | some (.inr v) => some v
        | none => none
      | none => none
    | none => none) = _
  rw [h]
theorem det_rule (hgd : GdOk g gd) (hc : HC g cts cl s) {code : qCd} (hk : okC gd code = true) {R0 Rr : List qV → qSg → Prop} {v0 : qV} {W : Nat → qP} (hW : VRule g cts code Rr W) (hR : R0 [v0] s → Rr [v0] s) : VRule g cts code R0 (VDet gd cl s code R0 v0 W) := by
  refine ⟨fun b blk hb ls st s' hw hs lc hl => ?_, fun b ls ls' st s' h1 h2 hs lc hl => ?_⟩
  · subst hs
    have ok := List.all_eq_true.mp hk blk (List.mem_of_getElem? hb)
    rw [Bool.and_eq_true] at ok
    obtain ⟨ok1, ok2⟩ := ok
    obtain ⟨l1, c1, s1, q1, q2, q3, q4⟩ := zB_ok hgd hc blk.1 (List.all_eq_true.mp ok1) hl hw
    have hb2 : (code.map stB)[b]? = some (stB blk) := by rw [List.getElem?_map, hb]; rfl
    have go : ∀ (n : Nat), zEv gd cl s' (code.map stB) (n + 1) b lc (st.map cnV) = match zN blk.2 (s1.map cnV) with
        | some (.inl q) => zEv gd cl s' (code.map stB) n q.1 c1 q.2
        | some (.inr v) => some v
        | none => none := by
      intro n
      rw [zEv_s hb2]
      show (match zB gd cl s' (blk.1.filter stp) lc (st.map cnV) with
        | some p => _
        | none => none) = _
      rw [q1]; rfl
    have wb : (∀ T' : qP, T' l1 s1 s' → wBl g cts blk.1 T' ls st s') := q4
    generalize ht : blk.2 = t at *
    obtain ⟨op, rel, b1, b2, tab⟩ := t
    match op, ok2, q3 with
    | 0, _, q3 =>
      obtain ⟨n, v, e1, e2, e3, e4⟩ := q3 rfl c1 q2
      refine ⟨n + 1, v, by rw [go]; exact e1, e2, e3, fun hv => hW.1 b blk hb ls st s' (wb _ ?_)⟩
      rw [ht]; exact e4 hv
    | 1, _, q3 =>
      obtain ⟨x, y, st', rfl, i1, i2, q5, q6⟩ := q3
      by_cases c : relZ rel x y
      · obtain ⟨n, v, e1, e2, e3, e4⟩ := q5 c rfl c1 q2
        refine ⟨n + 1, v, ?_, e2, e3, fun hv => hW.1 b blk hb ls st s' (wb _ ?_)⟩
        · rw [go]
          show zEv gd cl s' (code.map stB) n (if relB rel (c32 x) (c32 y) = true then b1 else b2) c1 (st'.map cnV) = some v
          rw [c32_of i1, c32_of i2, if_pos (relB_z.mpr c)]; exact e1
        · rw [ht]; exact ⟨x, y, st', rfl, i1, i2, fun _ => e4 hv, fun d => absurd c d⟩
      · obtain ⟨n, v, e1, e2, e3, e4⟩ := q6 c rfl c1 q2
        refine ⟨n + 1, v, ?_, e2, e3, fun hv => hW.1 b blk hb ls st s' (wb _ ?_)⟩
        · rw [go]
          show zEv gd cl s' (code.map stB) n (if relB rel (c32 x) (c32 y) = true then b1 else b2) c1 (st'.map cnV) = some v
          rw [c32_of i1, c32_of i2, if_neg (fun d => c (relB_z.mp d))]; exact e1
        · rw [ht]; exact ⟨x, y, st', rfl, i1, i2, fun d => absurd d c, fun _ => e4 hv⟩
    | 2, _, q3 =>
      obtain ⟨x, st', rfl, i1, q5, q6⟩ := q3
      by_cases c : relZ rel x 0
      · obtain ⟨n, v, e1, e2, e3, e4⟩ := q5 c rfl c1 q2
        refine ⟨n + 1, v, ?_, e2, e3, fun hv => hW.1 b blk hb ls st s' (wb _ ?_)⟩
        · rw [go]
          show zEv gd cl s' (code.map stB) n (if relB rel (c32 x) 0 = true then b1 else b2) c1 (st'.map cnV) = some v
          rw [c32_of i1, if_pos (relB_z.mpr c)]; exact e1
        · rw [ht]; exact ⟨x, st', rfl, i1, fun _ => e4 hv, fun d => absurd c d⟩
      · obtain ⟨n, v, e1, e2, e3, e4⟩ := q6 c rfl c1 q2
        refine ⟨n + 1, v, ?_, e2, e3, fun hv => hW.1 b blk hb ls st s' (wb _ ?_)⟩
        · rw [go]
          show zEv gd cl s' (code.map stB) n (if relB rel (c32 x) 0 = true then b1 else b2) c1 (st'.map cnV) = some v
          rw [c32_of i1, if_neg (fun d => c (relB_z.mp d))]; exact e1
        · rw [ht]; exact ⟨x, st', rfl, i1, fun d => absurd d c, fun _ => e4 hv⟩
    | 5, ok2, q3 =>
      obtain ⟨z, lo, hi, rfl, et, z1, z2, q5⟩ := q3
      have et : tab = [lo, hi] := et
      subst et
      have cz : cnV (rel, z) = (rel, z) := by
        have ok2 : ((rel == 0 && decide (-2147483648 ≤ lo.1) && decide (hi.1 ≤ 2147483647)) || (rel == 1 && decide (-9223372036854775808 ≤ lo.1) && decide (hi.1 ≤ 9223372036854775807))) = true := ok2
        rcases Bool.or_eq_true _ _ ▸ ok2 with o | o
        · simp only [Bool.and_eq_true, beq_iff_eq, decide_eq_true_eq] at o
          obtain ⟨⟨rfl, o1⟩, o2⟩ := o
          show ((0 : Nat), c32 z) = (0, z)
          rw [c32_of ⟨by omega, by omega⟩]
        · simp only [Bool.and_eq_true, beq_iff_eq, decide_eq_true_eq] at o
          obtain ⟨⟨rfl, o1⟩, o2⟩ := o
          show ((1 : Nat), c64 z) = (1, z)
          rw [c64_of ⟨by omega, by omega⟩]
      refine ⟨1, (rel, z), ?_, q5, cz, fun hv => hW.1 b blk hb ls st s' (wb _ ?_)⟩
      · rw [go]
        show some (cnV (rel, z)) = _
        rw [cz]
      · rw [ht]
        refine ⟨z, lo, hi, rfl, rfl, z1, z2, ?_⟩
        rw [hv]; exact hR (by rw [← hv]; exact q5)
  · obtain ⟨n, v, e1, e2, e3, e4⟩ := h2 hs lc (fun i v hi => hl i v (h1 _ hi))
    exact ⟨n, v, e1, e2, e3, fun hv => by subst hs; exact hW.2 b ls ls' st s' h1 (e4 hv)⟩
theorem zEv_up {code : qCd} : ∀ {n b : Nat} {lc : qLS} {st : List qV} {v : qV}, zEv gd cl s code n b lc st = some v → zEv gd cl s code (n + 1) b lc st = some v
  | 0, b, lc, st, v, h => by cases h
  | n + 1, b, lc, st, v, h => by
    cases e : code[b]? with
    | none =>
      have h : (match code[b]? with
        | some blk => match zB gd cl s blk.1 lc st with
          | some p => match zN blk.2 p.2 with
            | some (.inl q) => zEv gd cl s code n q.1 p.1 q.2
            | some (.inr v) => some v
            | none => none
          | none => none
        | none => none) = some v := h
      rw [e] at h; cases h
    | some blk =>
      rw [zEv_s e] at h ⊢
      cases e2 : zB gd cl s blk.1 lc st with
      | none => rw [e2] at h; cases h
      | some p =>
        rw [e2] at h
        show (match zN blk.2 p.2 with
          | some (.inl q) => zEv gd cl s code (n + 1) q.1 p.1 q.2
          | some (.inr v) => some v
          | none => none) = some v
        have h : (match zN blk.2 p.2 with
          | some (.inl q) => zEv gd cl s code n q.1 p.1 q.2
          | some (.inr v) => some v
          | none => none) = some v := h
        cases e3 : zN blk.2 p.2 with
        | none => rw [e3] at h; cases h
        | some w =>
          rw [e3] at h
          cases w with
          | inl q => exact zEv_up h
          | inr w => exact h
theorem zEv_le {code : qCd} {n m b : Nat} {lc : qLS} {st : List qV} {v : qV} (h : zEv gd cl s code n b lc st = some v) (c : n ≤ m) : zEv gd cl s code m b lc st = some v := by
  induction m with
  | zero => rw [show n = 0 by omega] at h; exact h
  | succ m ih =>
    by_cases e : n = m + 1
    · rw [← e]; exact h
    · exact zEv_up (ih (by omega))
theorem zRun_of {code : qCd} {n : Nat} {as : List qV} {v : qV} (h : zEv gd cl s code n 0 (lsArgs 0 (as.map cnV)) [] = some v) : zRun gd cl s code as = some v := by
  unfold zRun
  have hx : ∃ (v : qV) (n : Nat), zEv gd cl s code n 0 (lsArgs 0 (as.map cnV)) [] = some v := ⟨v, n, h⟩
  rw [dif_pos hx]
  obtain ⟨m, hm⟩ := Classical.choose_spec hx
  have a := zEv_le h (Nat.le_max_left n m)
  have b := zEv_le hm (Nat.le_max_right n m)
  rw [a] at b
  exact b.symm
theorem zRun_ex {code : qCd} {as : List qV} {v : qV} (h : zRun gd cl s code as = some v) : ∃ n, zEv gd cl s code n 0 (lsArgs 0 (as.map cnV)) [] = some v := by
  unfold zRun at h
  by_cases hx : ∃ (v : qV) (n : Nat), zEv gd cl s code n 0 (lsArgs 0 (as.map cnV)) [] = some v
  · rw [dif_pos hx] at h
    cases h
    exact Classical.choose_spec hx
  · rw [dif_neg hx] at h; cases h
/-- a checked method without effects: what it is evaluated to; from its start a run comes to that answer alone -/
theorem det_run {rI rJ : qRt} {rL : Nat → Option qRl} {code : qCd} {cuts : qCu} {C : qCt} {fuel : Nat} {str : List Nat} (hg : gTags g) (hI : RtI rI) (hJ : RtJ rJ) (hL : ∀ n R, rL n = some R → RlOk R) (h : zchk g cts rI rJ rL code cuts C fuel str = true) (hgd : GdOk g gd) (hk : okC gd code = true) {dc : qCd} (hd : code.map stB = dc) (hc : HC g cts cl s) {as : List qV} {r : qW} {a : qX} (hT : Typed g s) (hS : CtBeg g C as s r a) :
    ∃ v, zRun gd cl s dc as = some v ∧ cnV v = v ∧ CtEnd g C r a s [v] s ∧ ∀ (W : Nat → qP) (Rr : List qV → qSg → Prop), VRule g cts code Rr W → Rr [v] s → W 0 (lsArgs 0 as) [] s := by
  subst hd
  have hV0 := zchk_ok hg hI hJ hL h (det_rule hgd hc hk (R0 := fun res s' => CtEnd g C r a s res s') (Rr := fun _ _ => True) (v0 := (0, 0)) (W := fun _ _ _ _ => True) ⟨fun _ _ _ _ _ _ _ => trivial, fun _ _ _ _ _ _ _ => trivial⟩ (fun _ => trivial)) hT hS
  obtain ⟨n, v, e1, e2, e3, -⟩ := hV0 rfl _ (Rl_args as 0)
  have run := zRun_of e1
  refine ⟨v, run, e3, e2, fun W Rr hW hR => ?_⟩
  have hV1 := zchk_ok hg hI hJ hL h (det_rule hgd hc hk (R0 := fun res s' => CtEnd g C r a s res s') (Rr := Rr) (v0 := v) (W := W) hW (fun _ => hR)) hT hS
  obtain ⟨m, w, f1, -, -, f4⟩ := hV1 rfl _ (Rl_args as 0)
  have := zRun_of f1
  rw [run] at this
  cases this
  exact f4 rfl
end
