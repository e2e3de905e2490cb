/-! THE RUNNER'S ROWS FOR THE HEAP -/
theorem rO_some {β : Type} {w : rWd} {r : Nat} {k : Nat → rCC → Option β} {o : β} (h : rO w r k = some o) : r % 2 = 1 ∧ ∃ x, wGet (r / 2) w = some x ∧ k (r / 2) x = some o := by
  obtain ⟨h1, h2⟩ := rB_yes h
  rw [rN_eq] at h2
  obtain ⟨x, h5, h6⟩ := rWG_some _ h2
  exact ⟨Nat.eq_of_beq_eq_true h1, x, h5, h6⟩
theorem rOF_some {β : Type} {fo : List rCC} {w : rWd} {r : Nat} {k : rCC → Option β} {o : β} (h : rOF fo w r k = some o) : (r % 2 = 1 ∧ ∃ x, wGet (r / 2) w = some x ∧ k x = some o) ∨ (¬ r % 2 = 1 ∧ ¬ r = 0 ∧ ∃ x, fo[r / 2 - 1]? = some x ∧ k x = some o) := by
  rcases rB_some h with ⟨h1, h2⟩ | ⟨h1, h2⟩
  · obtain ⟨a, x, c, d⟩ := rO_some h2
    exact Or.inl ⟨a, x, c, d⟩
  · obtain ⟨h3, h4⟩ := rB_no h2
    rw [rN_eq] at h4
    obtain ⟨x, h5, h6⟩ := rG_some _ _ h4
    refine Or.inr ⟨fun q => ?_, fun q => ?_, x, h5, h6⟩
    · have h1' : Nat.beq (r % 2) 1 = false := h1
      rw [q] at h1'; cases h1'
    · subst q; cases h3
/-- the map with place i set -/
def rUP (q i : Nat) (v : rCV) : rMp → rMp
  | [] => [(q, [(i, v)])]
  | (a, l) :: xs => if a = q then (a, (i, v) :: l) :: xs else (a, l) :: rUP q i v xs
theorem rU_eq {β : Type} {q i : Nat} {v : rCV} : ∀ (m : rMp) (k : rMp → Option β), rU m q i v k = k (rUP q i v m)
  | [], k => rfl
  | (a, l) :: xs, k => by
    show rB (Nat.beq a q) (k ((a, (i, v) :: l) :: xs)) (rU xs q i v (fun ys => k ((a, l) :: ys))) = k (if a = q then (a, (i, v) :: l) :: xs else (a, l) :: rUP q i v xs)
    by_cases e : a = q
    · rw [if_pos e, beq_t e]; rfl
    · rw [if_neg e, beq_f e]
      exact rU_eq xs _
/-- block q's part of the look-up -/
noncomputable def rLq (d : rCV) (q i : Nat) : rMp → rCV
  | [] => d
  | (a, l) :: xs => if a = q then rLi d l i else rLq d q i xs
theorem rL_eq (d : rCV) (m : rMp) (i : Nat) : rL d m i = rLq d (i / 64) i m := by
  show rN (i / 64) _ = _
  rw [rN_eq]
  induction m with
  | nil => rfl
  | cons x xs ih =>
    obtain ⟨a, l⟩ := x
    show rB (Nat.beq a (i / 64)) (rLi d l i) _ = if a = i / 64 then rLi d l i else rLq d (i / 64) i xs
    by_cases e : a = i / 64
    · rw [if_pos e, beq_t e]; rfl
    · rw [if_neg e, beq_f e, ← ih]; rfl
theorem rLi_cons (d : rCV) (a i : Nat) (v : rCV) (l : List (Nat × rCV)) : rLi d ((a, v) :: l) i = if i = a then v else rLi d l i := by
  show rB (Nat.beq a i) v (rLi d l i) = _
  by_cases e : i = a
  · rw [if_pos e, beq_t e.symm]; rfl
  · rw [if_neg e, beq_f (fun q => e q.symm)]; rfl
theorem rL_up (d : rCV) (m : rMp) (i : Nat) (v : rCV) (j : Nat) : rL d (rUP (i / 64) i v m) j = if j = i then v else rL d m j := by
  rw [rL_eq, rL_eq]
  induction m with
  | nil =>
    show (if i / 64 = j / 64 then rLi d [(i, v)] j else d) = if j = i then v else d
    rw [rLi_cons]
    by_cases e : j = i
    · subst e; simp
    · rw [if_neg e, if_neg e]
      by_cases e2 : i / 64 = j / 64
      · rw [if_pos e2]; rfl
      · rw [if_neg e2]
  | cons x xs ih =>
    obtain ⟨a, l⟩ := x
    show rLq d (j / 64) j (if a = i / 64 then (a, (i, v) :: l) :: xs else (a, l) :: rUP (i / 64) i v xs) = if j = i then v else (if a = j / 64 then rLi d l j else rLq d (j / 64) j xs)
    by_cases e1 : a = i / 64
    · rw [if_pos e1]
      show (if a = j / 64 then rLi d ((i, v) :: l) j else rLq d (j / 64) j xs) = _
      rw [rLi_cons]
      by_cases e : j = i
      · subst e; rw [if_pos e1, if_pos rfl, if_pos rfl]
      · rw [if_neg e, if_neg e]
    · rw [if_neg e1]
      show (if a = j / 64 then rLi d l j else rLq d (j / 64) j (rUP (i / 64) i v xs)) = _
      rw [ih]
      by_cases e : j = i
      · subst e; rw [if_neg e1, if_pos rfl, if_pos rfl]
      · rw [if_neg e, if_neg e]
theorem okI_e {t : Nat} {v : rCV} (h : okI t v = true) : t = 0 ∧ ∃ a, v = .inl a := by
  obtain ⟨h1, h2⟩ := rB_and h
  exact ⟨Nat.eq_of_beq_eq_true h1, isI_e h2⟩
theorem okJ_e {t : Nat} {v : rCV} (h : okJ t v = true) : t = 1 ∧ ∃ a, v = .inr (.inl a) := by
  obtain ⟨h1, h2⟩ := rB_and h
  exact ⟨Nat.eq_of_beq_eq_true h1, isJ_e h2⟩
theorem okA_e {t : Nat} {v : rCV} (h : okA t v = true) : 4 ≤ t ∧ ∃ a, v = .inr (.inr a) := by
  obtain ⟨h1, h2⟩ := rB_and h
  exact ⟨Nat.ble_eq.mp h1, isR_e h2⟩
theorem okB_e {t : Nat} {v : rCV} (h : okB t v = true) : (t = 2 ∧ isB v = true) ∨ (t = 3 ∧ isZ v = true) := by
  have h' : rB (Nat.beq t 2) (isB v) (rB (Nat.beq t 3) (isZ v) false) = true := h
  cases e : Nat.beq t 2
  · rw [e] at h'
    obtain ⟨h1, h2⟩ := rB_and h'
    exact Or.inr ⟨Nat.eq_of_beq_eq_true h1, h2⟩
  · rw [e] at h'
    exact Or.inl ⟨Nat.eq_of_beq_eq_true e, h'⟩
theorem rTy_ref {t : Nat} (h : 4 ≤ t) : (rTy t).isReference = true := by
  match t, h with
  | 4, _ => rfl
  | 5, _ => rfl
  | t + 6, _ => rfl
theorem isB_e {v : rCV} (h : isB v = true) : ∃ a, v = .inl a ∧ narrow .byte (.int (nI a)) = .int (nI a) := by
  rcases v with a | a | a
  · refine ⟨a, rfl, ?_⟩
    have h' : rB (Nat.ble a 127) true (rB (Nat.ble 4294967168 a) (Nat.blt a 4294967296) false) = true := h
    cases e : Nat.ble a 127
    · rw [e] at h'
      obtain ⟨h1, h2⟩ := rB_and h'
      have g1 : 4294967168 ≤ a := Nat.ble_eq.mp h1
      have g2 : a < 4294967296 := Nat.blt_eq.mp h2
      have := n_bb2 (a - 4294967168) (by omega)
      rw [Nat.sub_add_cancel g1] at this
      exact this
    · have g1 : a ≤ 127 := Nat.ble_eq.mp e
      exact n_bb a (by omega)
  · cases h
  · cases h
theorem isZ_e {v : rCV} (h : isZ v = true) : ∃ a, v = .inl a ∧ narrow .boolean (.int (nI a)) = .int (nI a) ∧ a ≤ 1 := by
  rcases v with a | a | a
  · have g1 : a ≤ 1 := Nat.ble_eq.mp h
    refine ⟨a, rfl, ?_, g1⟩
    match a, g1 with
    | 0, _ => rfl
    | 1, _ => rfl
  · cases h
  · cases h
theorem locs_put {b a k : Nat} {locs : List Loc} (h : ∀ x ∈ locs, b ≤ x.base) : ∀ x ∈ locs ++ [⟨b + a, k⟩], b ≤ x.base := by
  intro x hx
  rcases List.mem_append.mp hx with q | q
  · exact h x q
  · rw [List.mem_singleton.mp q]; exact Nat.le_add_right _ _
theorem arr_up {G : rGm} {d v : rCV} {m : rMp} {i N : Nat} (cA : ClassId) (hh : True := trivial) : arrV cA N (updV (fun j => rv G (rL d m j)) i (rv G v)) = arrV cA N (fun j => rv G (rL d (rUP (i / 64) i v m) j)) := by
  congr 1
  funext j
  rw [rL_up]
  unfold updV
  by_cases q : j = i
  · rw [if_pos q, if_pos q]
  · rw [if_neg q, if_neg q]
section RH
variable {cl : List vw_C} {fo : List rCC} {zs : List (String × String × String × rCV)} {rs : List (String × Nat × String × Nat)} {ns : List Cond} {Ts : List Cond} {G : rGm}
theorem rRg.kept {fs : List rCV} {H H1 : Heap} {a : Nat} (h : rRg G fs H a) (hq : ∀ q : Nat, a ≤ q → q < a + rRl fs → H1[q]? = H[q]?) : rRg G fs H1 a := by
  unfold rRg at h ⊢
  split at h
  · rename_i N M t
    exact ⟨h.1, h.2.1, fun w hw => (hq _ (by omega) (by show a + w < a + N; omega)).trans (h.2.2 w hw)⟩
  · rename_i N M t t2
    obtain ⟨h1, h2, h3, h4, h5, h6, h7⟩ := h
    exact ⟨h1, h2, h3, h4, h5, (hq _ (Nat.le_refl _) (by show a < a + (N + 1); omega)).trans h6, fun w hw => (hq _ (by omega) (by show a + 1 + w < a + (N + 1); omega)).trans (h7 w hw)⟩
  · trivial
theorem rLen_o {ci : Nat} {fs : List rCV} {z : vw_C} (hc : cl[ci]? = some z) : rLen cl (.inl (ci, fs)) = 1 := by
  unfold rLen
  simp only [hc]
theorem rLen_r {ci : Nat} {fs : List rCV} (hc : cl[ci]? = none) : rLen cl (.inl (ci, fs)) = rRl fs := by
  unfold rLen
  simp only [hc]
theorem rCell.kept {x : rCC} {H H1 : Heap} {a : Nat} (h : rCell cl G x H a) (hq : ∀ q : Nat, a ≤ q → q < a + rLen cl x → H1[q]? = H[q]?) : rCell cl G x H1 a := by
  rcases x with ⟨ci, fs⟩ | ⟨t, N, d, m⟩
  · rcases h with ⟨r, h1, h2⟩ | ⟨h1, h2⟩
    · rw [rLen_o h1] at hq
      exact Or.inl ⟨r, h1, h2.kept (hq _ (Nat.le_refl _) (Nat.lt_succ_self _))⟩
    · rw [rLen_r h1] at hq
      exact Or.inr ⟨h1, h2.kept hq⟩
  · exact ⟨h.1, h.2.1, (hq _ (Nat.le_refl _) (Nat.lt_succ_self _)).trans h.2.2⟩
theorem pic_cell {w : rWd} {n : Nat} {H : Heap} {i : Nat} {x : rCC} (hP : rPic cl G w n H) (hp : wGet i w = some x) : rCell cl G x H (G.2.2.1 + i) := (hP.2.2 i x hp).2.1
theorem pic_obj {w : rWd} {n : Nat} {H : Heap} {i ci : Nat} {fs : List rCV} {z : vw_C} (hP : rPic cl G w n H) (hp : wGet i w = some (.inl (ci, fs))) (hc : cl[ci]? = some z) : ∃ r : vw_C, cl[ci]? = some r ∧ t_OB (G.2.2.1 + i) (G.1.1 ci) r.2.2 (G.1.2 ci) H (vp_V (fs.map (rv G))) := by
  rcases pic_cell hP hp with h | ⟨h, -⟩
  · exact h
  · rw [hc] at h; cases h
theorem pic_set {w : rWd} {n : Nat} {H H1 : Heap} {i : Nat} {x0 x : rCC} (hP : rPic cl G w n H) (hp : wGet i w = some x0) (h1 : rLen cl x = 1) (hc : rCell cl G x H1 (G.2.2.1 + i)) (hz : H1.size = H.size) (oq : ∀ q : Nat, q ≠ G.2.2.1 + i → H1[q]? = H[q]?) : rPic cl G (wSet i x w) n H1 := by
  have old : ∀ (j : Nat) (y : rCC), wGet j (wSet i x w) = some y → ∃ y0, wGet j w = some y0 := fun j y hy => by
    rcases wGet_set w hy with ⟨e1, e2⟩ | ⟨e1, e2⟩
    · subst e1; exact ⟨_, hp⟩
    · exact ⟨_, e2⟩
  refine ⟨by rw [hz, hP.1], fun q hq => (oq q (by omega)).trans (hP.2.1 q hq), fun j y hy => ?_⟩
  rcases wGet_set w hy with ⟨e1, e2⟩ | ⟨e1, e2⟩
  · subst e1; subst e2
    have := (hP.2.2 _ _ hp).1
    exact ⟨this, hc, by omega, fun k z hz hk => by omega⟩
  · obtain ⟨g1, g2, g3, g4⟩ := hP.2.2 j y e2
    refine ⟨g1, g2.kept (fun q q1 q2 => oq _ (fun e => ?_)), g3, fun k z hz hk => ?_⟩
    · have := g4 i _ hp (fun e9 => e1 e9.symm)
      omega
    · obtain ⟨z0, hz0⟩ := old k z hz
      exact g4 k z0 hz0 hk
theorem pic_push {w : rWd} {n : Nat} {H H1 : Heap} {x : rCC} (hP : rPic cl G w n H) (h1 : rLen cl x = 1) (hc : rCell cl G x H1 H.size) (hz : H1.size = H.size + 1) (oq : ∀ q : Nat, q < H.size → H1[q]? = H[q]?) : rPic cl G ((n, x) :: w) (n + 1) H1 := by
  refine ⟨by rw [hz, hP.1]; omega, fun q hq => (oq q (by rw [hP.1]; omega)).trans (hP.2.1 q hq), fun j y hy => ?_⟩
  have hy' : (if n = j then some x else wGet j w) = some y := hy
  have old : ∀ (k : Nat) (z : rCC), wGet k ((n, x) :: w) = some z → k = n ∨ ∃ z0, wGet k w = some z0 := fun k z hz => by
    have hz' : (if n = k then some x else wGet k w) = some z := hz
    by_cases e : n = k
    · exact Or.inl e.symm
    · rw [if_neg e] at hz'; exact Or.inr ⟨_, hz'⟩
  by_cases e : n = j
  · rw [if_pos e] at hy'
    cases hy'
    subst e
    refine ⟨Nat.lt_succ_self _, ?_, by omega, fun k z hz hk => by omega⟩
    rw [← hP.1]; exact hc
  · rw [if_neg e] at hy'
    obtain ⟨g1, g2, g3, g4⟩ := hP.2.2 j y hy'
    refine ⟨by omega, g2.kept (fun q q1 q2 => oq _ (by rw [hP.1]; omega)), by omega, fun k z hz hk => ?_⟩
    rcases old k z hz with e2 | ⟨z0, hz0⟩
    · omega
    · exact g4 k z0 hz0 hk
/-- more cells, of which nothing is kept -/
theorem pic_grow {w : rWd} {n K : Nat} {H H1 : Heap} (hP : rPic cl G w n H) (hz : H1.size = H.size + K) (oq : ∀ q : Nat, q < H.size → H1[q]? = H[q]?) : rPic cl G w (n + K) H1 := by
  refine ⟨by rw [hz, hP.1]; omega, fun q hq => (oq q (by rw [hP.1]; omega)).trans (hP.2.1 q hq), fun j y hy => ?_⟩
  obtain ⟨g1, g2, g3, g4⟩ := hP.2.2 j y hy
  exact ⟨by omega, g2.kept (fun q q1 q2 => oq _ (by rw [hP.1]; omega)), by omega, g4⟩
/-- .. of which something is said -/
theorem pic_add {w : rWd} {n i : Nat} {H : Heap} {x : rCC} (hP : rPic cl G w n H) (hlo : ∀ (j : Nat) (y : rCC), wGet j w = some y → j + rLen cl y ≤ i) (h1 : 1 ≤ rLen cl x) (hi : i + rLen cl x ≤ n) (hc : rCell cl G x H (G.2.2.1 + i)) : rPic cl G ((i, x) :: w) n H ∧ ∀ (j : Nat) (y : rCC), wGet j ((i, x) :: w) = some y → j + rLen cl y ≤ i + rLen cl x := by
  have old : ∀ (k : Nat) (z : rCC), wGet k ((i, x) :: w) = some z → (k = i ∧ z = x) ∨ wGet k w = some z := fun k z hz => by
    have hz' : (if i = k then some x else wGet k w) = some z := hz
    by_cases e : i = k
    · rw [if_pos e] at hz'; cases hz'; exact Or.inl ⟨e.symm, rfl⟩
    · rw [if_neg e] at hz'; exact Or.inr hz'
  refine ⟨⟨hP.1, hP.2.1, fun j y hy => ?_⟩, fun j y hy => ?_⟩
  · rcases old j y hy with ⟨e1, e2⟩ | e
    · subst e1; subst e2
      refine ⟨by omega, hc, hi, fun k z hz hk => ?_⟩
      rcases old k z hz with ⟨e3, -⟩ | e3
      · exact absurd e3 hk
      · have := hlo k z e3
        left
        have h9 : 1 ≤ rLen cl z ∨ rLen cl z = 0 := by omega
        rcases h9 with h9 | h9
        · omega
        · omega
    · obtain ⟨g1, g2, g3, g4⟩ := hP.2.2 j y e
      refine ⟨g1, g2, g3, fun k z hz hk => ?_⟩
      rcases old k z hz with ⟨e3, -⟩ | e3
      · have := hlo j y e
        omega
      · exact g4 k z e3 hk
  · rcases old j y hy with ⟨e1, e2⟩ | e
    · subst e1; subst e2; exact Nat.le_refl _
    · have := hlo j y e
      omega
theorem rFx.moved {u U : State} (hvm : u.vm.Alike U.vm) {i : Nat} {x : rCC} (h : rFx cl G i x u) : rFx cl G i x U := by
  rcases x with ⟨ci, fs⟩ | ⟨t, N, d, m⟩
  · exact h
  · obtain ⟨a, h1, h2, h3, h4, h5⟩ := h
    exact ⟨a, h1, h2, h3, h4, va_T.moved hvm h5⟩
theorem rKK.warm {s U : State} (hW : s.WarmedH U.vm) (h : rKK cl fo zs rs ns G s) : rKK cl fo zs rs ns G U := by
  obtain ⟨h1, h2, h3, h4, h5, h6⟩ := h
  refine ⟨va_K.moved hW.alike h1, ⟨⟨h2.1.1, vx_Zq.moved hW.alike h2.1.2.1, vx_Zq.moved hW.alike h2.1.2.2⟩, fun w hw => ⟨(h2.2 w hw).2 _ _ hW (h2.2 w hw).1, (h2.2 w hw).2⟩⟩, h3, fun q hq => va_Z.moved hW.alike (h4 q hq), fun q hq => ?_, fun i x hi => (h6 i x hi).moved hW.alike⟩
  obtain ⟨a, e1, e2⟩ := h5 q hq
  exact ⟨a, e1, e2.warm hW⟩
theorem rTys_at {t : Nat} (ht : t < 7) : (rTys G)[t]? = some (G.2.1 t, rTy t) := by
  unfold rTys
  rw [List.getElem?_map, List.getElem?_range ht]
  rfl
theorem rKK.arr {s : State} (h : rKK cl fo zs rs ns G s) {t : Nat} (ht : t < 7) (n : Nat) (z : Nat → Value) : s.isArrayOf (arrV (G.2.1 t) n z) (rTy t) := (h.1.2 t _ (rTys_at ht)).1 n z
/-- an array that a reference names: its cell -/
theorem arr_at {s : State} {w : rWd} {n : Nat} {H : Heap} {r t N : Nat} {d : rCV} {m : rMp} (hK : rKK cl fo zs rs ns G s) (hP : rPic cl G w n H)
    (h : (r % 2 = 1 ∧ wGet (r / 2) w = some (.inr (t, N, d, m))) ∨ (¬ r % 2 = 1 ∧ ¬ r = 0 ∧ fo[r / 2 - 1]? = some (.inr (t, N, d, m)))) :
    t < 7 ∧ N ≤ 60000000 ∧ ∃ (a : Nat) (cell : Cell), rv G (.inr (.inr r)) = .ref a ∧ H[a]? = some cell ∧ s.isArrayOf cell (rTy t) ∧ cell.vm ≠ .unknown ∧ N ≤ cell.slots.size ∧ cell.slots.size.toInt32 = nI N ∧ ∀ j : Nat, j < N → cell.slots[j]? = some (rv G (rL d m j)) := by
  rcases h with ⟨h1, h3⟩ | ⟨h1, h2, h3⟩
  · obtain ⟨c1, c2, c3⟩ := pic_cell hP h3
    refine ⟨c1, c2, _, _, rv_own G h1, c3, hK.arr c1 _ _, (fun q => by cases q), by rw [arrV_size]; exact Nat.le_refl _, by rw [arrV_size]; rfl, fun j hj => by rw [arrV_read _ _ hj]⟩
  · obtain ⟨a, g1, g2, g3, g4, cell, g5, g6, g7, g8, g9, g10, -⟩ := hK.2.2.2.2.2 _ _ h3
    exact ⟨by omega, g4, a, cell, by rw [rv_ext G h1 h2, g1], by rw [hP.2.1 a g2]; exact g5, g6, g7, g8, g9, g10⟩
theorem ix_in {i N sz : Nat} (hi : i < N) (hN : N ≤ 60000000) (hz : N ≤ sz) : ¬ (nI i < 0 ∨ sz ≤ (nI i).toNatClampNeg) := by
  rw [nI_clamp (by omega)]
  intro q
  rcases q with q | q
  · exact nI_pos (by omega) q
  · omega
variable {l : Launch} {cc : ByteArray} {nL n0 : Nat} {own : String} {pc : Nat} {ret : Option FieldType} {ini : Bool} {fr lo : Nat} {Qf : rQf}
/-- a row that reads the heap -/
theorem s_rowH {pc' : Nat} {h : rK → rK} (hh : ∀ (k : rK) (ls : rLs) (st : List rCV) (w : rWd) (n k0 : Nat) (o : rOut), h k ls st w n k0 = some o → ∃ st', k ls st' w n k0 = some o ∧ ∀ (p : Program) (e : Env) (R : Room) (s : State) (m : MethodId) (args : Array Value) (below : List Frame) (meth : Method) (c : Code), rCx cl fo zs rs ns Ts G p R s m args meth c cc nL own ret ini fr lo → ∀ (rl : Array Slot) (H : Heap) (locs : List Loc) (cells slots : Nat) (Q : State → Prop), rPic cl G w n H → W p l e R s m args below meth c H locs cells slots Q (F0 m pc' rl (st'.map (rv G))) → W p l e R s m args below meth c H locs cells slots Q (F0 m pc rl (st.map (rv G)))) :
    HS (rW cl fo zs rs ns Ts G l cc nL own ret ini fr lo n0 Qf) pc pc' h := by
  intro k ls st w n k0 o e0
  obtain ⟨st', e1, hr⟩ := hh k ls st w n k0 o e0
  refine ⟨ls, st', w, n, k0, e1, Nat.le_refl _, Nat.le_refl _, fun _ _ hV p e R s m args below meth c X r1 r2 r3 rl H locs hl hP hL => ?_⟩
  exact hr p e R s m args below meth c X rl H locs _ _ _ hP (hV p e R s m args below meth c X r1 r2 r3 rl H locs hl hP hL)
theorem s_alen (hd : decode cc pc = .ok (.arraylength, 1)) : HS (rW cl fo zs rs ns Ts G l cc nL own ret ini fr lo n0 Qf) pc (pc + 1) (h_alen fo) := by
  apply s_rowH
  intro k0 ls st w n kk o e0
  obtain ⟨x, st', rfl, h2⟩ := rP_some e0
  obtain ⟨r, rfl, h3⟩ := rR_some h2
  have key : ∃ t N d m, ((r % 2 = 1 ∧ wGet (r / 2) w = some (.inr (t, N, d, m))) ∨ (¬ r % 2 = 1 ∧ ¬ r = 0 ∧ fo[r / 2 - 1]? = some (.inr (t, N, d, m)))) ∧ k0 ls (.inl N :: st') w n kk = some o := by
    rcases rOF_some h3 with ⟨a, x, f, h⟩ | ⟨a, b, x, f, h⟩
    · obtain ⟨t, N, d, m, rfl, h5⟩ := rCA_some h
      exact ⟨t, N, d, m, Or.inl ⟨a, f⟩, h5⟩
    · obtain ⟨t, N, d, m, rfl, h5⟩ := rCA_some h
      exact ⟨t, N, d, m, Or.inr ⟨a, b, f⟩, h5⟩
  obtain ⟨t, N, d, mm, h4, h5⟩ := key
  refine ⟨_, h5, fun p e R s m args below meth c X rl H locs cells slots Q hP hk => ?_⟩
  obtain ⟨c1, c2, a, cell, c3, c4, c5, c6, c7, c8, c9⟩ := arr_at X.2.2.2.2.2.1 hP h4
  rw [List.map_cons, c3]
  exact W.alen (n := nI N) X.1 X.2.1 c4 c5 c8 rfl rfl hd hk
theorem s_iaload (hd : decode cc pc = .ok (.iaload, 1)) : HS (rW cl fo zs rs ns Ts G l cc nL own ret ini fr lo n0 Qf) pc (pc + 1) (h_ald fo okI) := by
  apply s_rowH
  intro k0 ls st w n kk o e0
  obtain ⟨y, st', rfl, h1⟩ := rP_some e0
  obtain ⟨x, st2, rfl, h2⟩ := rP_some h1
  obtain ⟨i, rfl, h3⟩ := rI_some h2
  obtain ⟨r, rfl, h31⟩ := rR_some h3
  have key : ∃ t N d m, ((r % 2 = 1 ∧ wGet (r / 2) w = some (.inr (t, N, d, m))) ∨ (¬ r % 2 = 1 ∧ ¬ r = 0 ∧ fo[r / 2 - 1]? = some (.inr (t, N, d, m)))) ∧ i < N ∧ okI t (rL d m i) = true ∧ k0 ls (rL d m i :: st2) w n kk = some o := by
    rcases rOF_some h31 with ⟨a, x, f, h⟩ | ⟨a, b, x, f, h⟩
    · obtain ⟨t, N, d, m, rfl, h5⟩ := rCA_some h
      obtain ⟨h6, h7⟩ := rB_yes h5
      rw [rV_eq] at h7
      obtain ⟨h8, h9⟩ := rB_yes h7
      exact ⟨t, N, d, m, Or.inl ⟨a, f⟩, Nat.blt_eq.mp h6, h8, h9⟩
    · obtain ⟨t, N, d, m, rfl, h5⟩ := rCA_some h
      obtain ⟨h6, h7⟩ := rB_yes h5
      rw [rV_eq] at h7
      obtain ⟨h8, h9⟩ := rB_yes h7
      exact ⟨t, N, d, m, Or.inr ⟨a, b, f⟩, Nat.blt_eq.mp h6, h8, h9⟩
  obtain ⟨t, N, d, mm, h4, h6, h7, h5⟩ := key
  refine ⟨_, h5, fun p e R s m args below meth c X rl H locs cells slots Q hP hk => ?_⟩
  obtain ⟨c1, c2, a, cell, c3, c4, c5, c6, c7, c8, c9⟩ := arr_at X.2.2.2.2.2.1 hP h4
  rw [List.map_cons, List.map_cons, c3]
  obtain ⟨rfl, a1, e1⟩ := okI_e h7
  exact W.iald X.1 X.2.1 c4 c5 c6 (ix_in h6 c2 c7) (by rw [nI_clamp (by omega)]; exact c9 i h6) rfl rfl hd hk
theorem s_laload (hd : decode cc pc = .ok (.laload, 1)) : HS (rW cl fo zs rs ns Ts G l cc nL own ret ini fr lo n0 Qf) pc (pc + 1) (h_ald fo okJ) := by
  apply s_rowH
  intro k0 ls st w n kk o e0
  obtain ⟨y, st', rfl, h1⟩ := rP_some e0
  obtain ⟨x, st2, rfl, h2⟩ := rP_some h1
  obtain ⟨i, rfl, h3⟩ := rI_some h2
  obtain ⟨r, rfl, h31⟩ := rR_some h3
  have key : ∃ t N d m, ((r % 2 = 1 ∧ wGet (r / 2) w = some (.inr (t, N, d, m))) ∨ (¬ r % 2 = 1 ∧ ¬ r = 0 ∧ fo[r / 2 - 1]? = some (.inr (t, N, d, m)))) ∧ i < N ∧ okJ t (rL d m i) = true ∧ k0 ls (rL d m i :: st2) w n kk = some o := by
    rcases rOF_some h31 with ⟨a, x, f, h⟩ | ⟨a, b, x, f, h⟩
    · obtain ⟨t, N, d, m, rfl, h5⟩ := rCA_some h
      obtain ⟨h6, h7⟩ := rB_yes h5
      rw [rV_eq] at h7
      obtain ⟨h8, h9⟩ := rB_yes h7
      exact ⟨t, N, d, m, Or.inl ⟨a, f⟩, Nat.blt_eq.mp h6, h8, h9⟩
    · obtain ⟨t, N, d, m, rfl, h5⟩ := rCA_some h
      obtain ⟨h6, h7⟩ := rB_yes h5
      rw [rV_eq] at h7
      obtain ⟨h8, h9⟩ := rB_yes h7
      exact ⟨t, N, d, m, Or.inr ⟨a, b, f⟩, Nat.blt_eq.mp h6, h8, h9⟩
  obtain ⟨t, N, d, mm, h4, h6, h7, h5⟩ := key
  refine ⟨_, h5, fun p e R s m args below meth c X rl H locs cells slots Q hP hk => ?_⟩
  obtain ⟨c1, c2, a, cell, c3, c4, c5, c6, c7, c8, c9⟩ := arr_at X.2.2.2.2.2.1 hP h4
  rw [List.map_cons, List.map_cons, c3]
  obtain ⟨rfl, a1, e1⟩ := okJ_e h7
  exact W.lald X.1 X.2.1 c4 c5 c6 (ix_in h6 c2 c7) (by rw [nI_clamp (by omega)]; exact c9 i h6) rfl rfl hd hk
theorem s_baload (hd : decode cc pc = .ok (.baload, 1)) : HS (rW cl fo zs rs ns Ts G l cc nL own ret ini fr lo n0 Qf) pc (pc + 1) (h_ald fo okB) := by
  apply s_rowH
  intro k0 ls st w n kk o e0
  obtain ⟨y, st', rfl, h1⟩ := rP_some e0
  obtain ⟨x, st2, rfl, h2⟩ := rP_some h1
  obtain ⟨i, rfl, h3⟩ := rI_some h2
  obtain ⟨r, rfl, h31⟩ := rR_some h3
  have key : ∃ t N d m, ((r % 2 = 1 ∧ wGet (r / 2) w = some (.inr (t, N, d, m))) ∨ (¬ r % 2 = 1 ∧ ¬ r = 0 ∧ fo[r / 2 - 1]? = some (.inr (t, N, d, m)))) ∧ i < N ∧ okB t (rL d m i) = true ∧ k0 ls (rL d m i :: st2) w n kk = some o := by
    rcases rOF_some h31 with ⟨a, x, f, h⟩ | ⟨a, b, x, f, h⟩
    · obtain ⟨t, N, d, m, rfl, h5⟩ := rCA_some h
      obtain ⟨h6, h7⟩ := rB_yes h5
      rw [rV_eq] at h7
      obtain ⟨h8, h9⟩ := rB_yes h7
      exact ⟨t, N, d, m, Or.inl ⟨a, f⟩, Nat.blt_eq.mp h6, h8, h9⟩
    · obtain ⟨t, N, d, m, rfl, h5⟩ := rCA_some h
      obtain ⟨h6, h7⟩ := rB_yes h5
      rw [rV_eq] at h7
      obtain ⟨h8, h9⟩ := rB_yes h7
      exact ⟨t, N, d, m, Or.inr ⟨a, b, f⟩, Nat.blt_eq.mp h6, h8, h9⟩
  obtain ⟨t, N, d, mm, h4, h6, h7, h5⟩ := key
  refine ⟨_, h5, fun p e R s m args below meth c X rl H locs cells slots Q hP hk => ?_⟩
  obtain ⟨c1, c2, a, cell, c3, c4, c5, c6, c7, c8, c9⟩ := arr_at X.2.2.2.2.2.1 hP h4
  rw [List.map_cons, List.map_cons, c3]
  rcases okB_e h7 with ⟨rfl, -⟩ | ⟨rfl, -⟩
  · exact W.bald X.1 X.2.1 c4 c5 c6 (ix_in h6 c2 c7) (by rw [nI_clamp (by omega)]; exact c9 i h6) rfl rfl hd hk
  · exact W.zald X.1 X.2.1 c4 c5 c6 (ix_in h6 c2 c7) (by rw [nI_clamp (by omega)]; exact c9 i h6) rfl rfl hd hk
theorem s_aaload (hd : decode cc pc = .ok (.aaload, 1)) : HS (rW cl fo zs rs ns Ts G l cc nL own ret ini fr lo n0 Qf) pc (pc + 1) (h_ald fo okA) := by
  apply s_rowH
  intro k0 ls st w n kk o e0
  obtain ⟨y, st', rfl, h1⟩ := rP_some e0
  obtain ⟨x, st2, rfl, h2⟩ := rP_some h1
  obtain ⟨i, rfl, h3⟩ := rI_some h2
  obtain ⟨r, rfl, h31⟩ := rR_some h3
  have key : ∃ t N d m, ((r % 2 = 1 ∧ wGet (r / 2) w = some (.inr (t, N, d, m))) ∨ (¬ r % 2 = 1 ∧ ¬ r = 0 ∧ fo[r / 2 - 1]? = some (.inr (t, N, d, m)))) ∧ i < N ∧ okA t (rL d m i) = true ∧ k0 ls (rL d m i :: st2) w n kk = some o := by
    rcases rOF_some h31 with ⟨a, x, f, h⟩ | ⟨a, b, x, f, h⟩
    · obtain ⟨t, N, d, m, rfl, h5⟩ := rCA_some h
      obtain ⟨h6, h7⟩ := rB_yes h5
      rw [rV_eq] at h7
      obtain ⟨h8, h9⟩ := rB_yes h7
      exact ⟨t, N, d, m, Or.inl ⟨a, f⟩, Nat.blt_eq.mp h6, h8, h9⟩
    · obtain ⟨t, N, d, m, rfl, h5⟩ := rCA_some h
      obtain ⟨h6, h7⟩ := rB_yes h5
      rw [rV_eq] at h7
      obtain ⟨h8, h9⟩ := rB_yes h7
      exact ⟨t, N, d, m, Or.inr ⟨a, b, f⟩, Nat.blt_eq.mp h6, h8, h9⟩
  obtain ⟨t, N, d, mm, h4, h6, h7, h5⟩ := key
  refine ⟨_, h5, fun p e R s m args below meth c X rl H locs cells slots Q hP hk => ?_⟩
  obtain ⟨c1, c2, a, cell, c3, c4, c5, c6, c7, c8, c9⟩ := arr_at X.2.2.2.2.2.1 hP h4
  rw [List.map_cons, List.map_cons, c3]
  obtain ⟨g1, a1, e1⟩ := okA_e h7
  exact W.aald X.1 X.2.1 c4 c5 (rTy_ref g1) c6 (ix_in h6 c2 c7) (by rw [nI_clamp (by omega)]; exact c9 i h6) rfl rfl hd hk
theorem s_iastore (hd : decode cc pc = .ok (.iastore, 1)) : HS (rW cl fo zs rs ns Ts G l cc nL own ret ini fr lo n0 Qf) pc (pc + 1) (h_ast okI) := by
  intro k0 ls st w n kk o e0
  obtain ⟨v, st0, rfl, h0⟩ := rP_some e0
  obtain ⟨y, st1, rfl, h1⟩ := rP_some h0
  obtain ⟨x, st2, rfl, h2⟩ := rP_some h1
  obtain ⟨i, rfl, h3⟩ := rI_some h2
  obtain ⟨r, rfl, h31⟩ := rR_some h3
  obtain ⟨q1, cell, hp, h⟩ := rO_some h31
  obtain ⟨t, N, d, mm, rfl, h5⟩ := rCA_some h
  obtain ⟨h7, h8⟩ := rB_yes h5
  obtain ⟨h6, h9⟩ := rB_yes h8
  have h6 : i < N := Nat.blt_eq.mp h6
  rw [rN_eq, rU_eq] at h9
  have h11 := rWS_some _ _ h9
  refine ⟨ls, st2, _, n, kk, h11, Nat.le_refl _, Nat.le_refl _, fun _ _ hV p e R s m args below meth c X r1 r2 r3 rl H locs hl hP hL => ?_⟩
  obtain ⟨c1, c2, c3⟩ := pic_cell hP hp
  rw [List.map_cons, List.map_cons, List.map_cons, rv_own G q1]
  obtain ⟨rfl, a, rfl⟩ := okI_e h7
  refine W.iast X.1 X.2.1 c3 (X.2.2.2.2.2.1.arr (t := 0) (by decide) N _) (fun q => by cases q) (ix_in h6 c2 (by rw [arrV_size]; exact Nat.le_refl _)) rfl rfl hd (fun H1 e1 z1 o1 => ?_)
  refine hV p e R s m args below meth c X r1 r2 r3 rl H1 _ hl (pic_set hP hp rfl ⟨by decide, c2, ?_⟩ z1 o1) (locs_put hL)
  rw [e1, arrV_store, nI_clamp (by omega)]
  exact congrArg some (arr_up (v := .inl a) _)
theorem s_lastore (hd : decode cc pc = .ok (.lastore, 1)) : HS (rW cl fo zs rs ns Ts G l cc nL own ret ini fr lo n0 Qf) pc (pc + 1) (h_ast okJ) := by
  intro k0 ls st w n kk o e0
  obtain ⟨v, st0, rfl, h0⟩ := rP_some e0
  obtain ⟨y, st1, rfl, h1⟩ := rP_some h0
  obtain ⟨x, st2, rfl, h2⟩ := rP_some h1
  obtain ⟨i, rfl, h3⟩ := rI_some h2
  obtain ⟨r, rfl, h31⟩ := rR_some h3
  obtain ⟨q1, cell, hp, h⟩ := rO_some h31
  obtain ⟨t, N, d, mm, rfl, h5⟩ := rCA_some h
  obtain ⟨h7, h8⟩ := rB_yes h5
  obtain ⟨h6, h9⟩ := rB_yes h8
  have h6 : i < N := Nat.blt_eq.mp h6
  rw [rN_eq, rU_eq] at h9
  have h11 := rWS_some _ _ h9
  refine ⟨ls, st2, _, n, kk, h11, Nat.le_refl _, Nat.le_refl _, fun _ _ hV p e R s m args below meth c X r1 r2 r3 rl H locs hl hP hL => ?_⟩
  obtain ⟨c1, c2, c3⟩ := pic_cell hP hp
  rw [List.map_cons, List.map_cons, List.map_cons, rv_own G q1]
  obtain ⟨rfl, a, rfl⟩ := okJ_e h7
  refine W.last X.1 X.2.1 c3 (X.2.2.2.2.2.1.arr (t := 1) (by decide) N _) (fun q => by cases q) (ix_in h6 c2 (by rw [arrV_size]; exact Nat.le_refl _)) rfl rfl hd (fun H1 e1 z1 o1 => ?_)
  refine hV p e R s m args below meth c X r1 r2 r3 rl H1 _ hl (pic_set hP hp rfl ⟨by decide, c2, ?_⟩ z1 o1) (locs_put hL)
  rw [e1, arrV_store, nI_clamp (by omega)]
  exact congrArg some (arr_up (v := .inr (.inl a)) _)
theorem s_bastore (hd : decode cc pc = .ok (.bastore, 1)) : HS (rW cl fo zs rs ns Ts G l cc nL own ret ini fr lo n0 Qf) pc (pc + 1) (h_ast okB) := by
  intro k0 ls st w n kk o e0
  obtain ⟨v, st0, rfl, h0⟩ := rP_some e0
  obtain ⟨y, st1, rfl, h1⟩ := rP_some h0
  obtain ⟨x, st2, rfl, h2⟩ := rP_some h1
  obtain ⟨i, rfl, h3⟩ := rI_some h2
  obtain ⟨r, rfl, h31⟩ := rR_some h3
  obtain ⟨q1, cell, hp, h⟩ := rO_some h31
  obtain ⟨t, N, d, mm, rfl, h5⟩ := rCA_some h
  obtain ⟨h7, h8⟩ := rB_yes h5
  obtain ⟨h6, h9⟩ := rB_yes h8
  have h6 : i < N := Nat.blt_eq.mp h6
  rw [rN_eq, rU_eq] at h9
  have h11 := rWS_some _ _ h9
  refine ⟨ls, st2, _, n, kk, h11, Nat.le_refl _, Nat.le_refl _, fun _ _ hV p e R s m args below meth c X r1 r2 r3 rl H locs hl hP hL => ?_⟩
  obtain ⟨c1, c2, c3⟩ := pic_cell hP hp
  rw [List.map_cons, List.map_cons, List.map_cons, rv_own G q1]
  rcases okB_e h7 with ⟨rfl, hz⟩ | ⟨rfl, hz⟩
  · obtain ⟨a, rfl, ha⟩ := isB_e hz
    refine W.bast X.1 X.2.1 c3 (X.2.2.2.2.2.1.arr (t := 2) (by decide) N _) (fun q => by cases q) (ix_in h6 c2 (by rw [arrV_size]; exact Nat.le_refl _)) rfl rfl hd (fun H1 e1 z1 o1 => ?_)
    refine hV p e R s m args below meth c X r1 r2 r3 rl H1 _ hl (pic_set hP hp rfl ⟨by decide, c2, ?_⟩ z1 o1) (locs_put hL)
    rw [e1, ha, arrV_store, nI_clamp (by omega)]
    exact congrArg some (arr_up (v := .inl a) _)
  · obtain ⟨a, rfl, ha, -⟩ := isZ_e hz
    refine W.zast X.1 X.2.1 c3 (X.2.2.2.2.2.1.arr (t := 3) (by decide) N _) (fun q => by cases q) (ix_in h6 c2 (by rw [arrV_size]; exact Nat.le_refl _)) rfl rfl hd (fun H1 e1 z1 o1 => ?_)
    refine hV p e R s m args below meth c X r1 r2 r3 rl H1 _ hl (pic_set hP hp rfl ⟨by decide, c2, ?_⟩ z1 o1) (locs_put hL)
    rw [e1, ha, arrV_store, nI_clamp (by omega)]
    exact congrArg some (arr_up (v := .inl a) _)
end RH
