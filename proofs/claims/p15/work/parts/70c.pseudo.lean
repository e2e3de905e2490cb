/-! PSEUDO-METHODS: WHAT THEIR RUN GIVES -/
section
variable {g : qG} {cts : List qCt} {code : qCd}
theorem lsArgs_fn : ∀ {as : List qV} {p i : Nat} {v w : qV}, (i, v) ∈ lsArgs p as → (i, w) ∈ lsArgs p as → v = w
  | [], p, i, v, w, h1, _ => by cases h1
  | x :: as, p, i, v, w, h1, h2 => by
    replace h1 := List.mem_cons.mp (show (i, v) ∈ (p, x) :: lsArgs (if x.1 = 1 then p + 2 else p + 1) as from h1)
    replace h2 := List.mem_cons.mp (show (i, w) ∈ (p, x) :: lsArgs (if x.1 = 1 then p + 2 else p + 1) as from h2)
    have hge : ∀ y : qV, (i, y) ∈ lsArgs (if x.1 = 1 then p + 2 else p + 1) as → p < i := fun y hy => by
      have h3 : (if x.1 = 1 then p + 2 else p + 1) ≤ i := lsArgs_ge _ _ _ hy
      by_cases e : x.1 = 1
      · rw [if_pos e] at h3; omega
      · rw [if_neg e] at h3; omega
    rcases h1 with h1 | h1
    · rcases h2 with h2 | h2
      · exact (congrArg Prod.snd h1).trans (congrArg Prod.snd h2).symm
      · have := hge _ h2
        have e : i = p := congrArg Prod.fst h1
        omega
    · rcases h2 with h2 | h2
      · have := hge _ h1
        have e : i = p := congrArg Prod.fst h2
        omega
      · exact lsArgs_fn h1 h2
theorem lsSet_at {i : Nat} {v w : qV} {ls : qLS} (h : (i, v) ∈ lsSet i w ls) : v = w := by
  rcases List.mem_cons.mp (show (i, v) ∈ (i, w) :: ls.filter (keepV i (w.1 == 1)) from h) with h | h
  · exact congrArg Prod.snd h
  · have h2 := (List.mem_filter.mp h).2
    unfold keepV at h2
    simp at h2
theorem lsSet_ne {i j : Nat} {v w : qV} {ls : qLS} (hn : i ≠ j) (h : (i, v) ∈ lsSet j w ls) : (i, v) ∈ ls := by
  rcases List.mem_cons.mp (show (i, v) ∈ (j, w) :: ls.filter (keepV j (w.1 == 1)) from h) with h | h
  · exact absurd (congrArg Prod.fst h) hn
  · exact (List.mem_filter.mp h).1
/-- what is asked at a block, so many blocks deep -/
def yVn (g : qG) (cts : List qCt) (code : qCd) (Rr : List qV → qSg → Prop) : Nat → Nat → qP
  | 0, _ => fun _ _ _ => True
  | k + 1, b => fun ls st s => ∃ (blk : List qD × qTm) (ls' : qLS), code[b]? = some blk ∧ lsSub ls' ls ∧ wBl g cts blk.1 (wT (yVn g cts code Rr k) Rr blk.2) ls' st s
theorem wT_mono9 {V V' : Nat → qP} {R : List qV → qSg → Prop} {t : qTm} (h : ∀ b ls st s, V b ls st s → V' b ls st s) : ∀ ls st s, wT V R t ls st s → wT V' R t ls st s := by
  intro ls st s hw
  unfold wT at hw ⊢
  split at hw
  · exact h _ _ _ _ hw
  · obtain ⟨a, b, st', e, h1, h2, h3, h4⟩ := hw
    exact ⟨a, b, st', e, h1, h2, fun q => h _ _ _ _ (h3 q), fun q => h _ _ _ _ (h4 q)⟩
  · obtain ⟨a, st', e, h1, h3, h4⟩ := hw
    exact ⟨a, st', e, h1, fun q => h _ _ _ _ (h3 q), fun q => h _ _ _ _ (h4 q)⟩
  · obtain ⟨a, st', e, h1, h3, h4⟩ := hw
    exact ⟨a, st', e, h1, fun x hx q => h _ _ _ _ (h3 x hx q), fun q => h _ _ _ _ (h4 q)⟩
  · exact hw
  · exact hw
  · exact hw
theorem wCall_mono9 {C : qCt} {P Q : qP} (h : ∀ ls st s, P ls st s → Q ls st s) : ∀ ls st s, wCall g C P ls st s → wCall g C Q ls st s := by
  rintro ls st s ⟨as, st', r, a, e, hB, hl, hT, hP⟩
  exact ⟨as, st', r, a, e, hB, hl, hT, fun res s' hE => h _ _ _ (hP res s' hE)⟩
theorem wI_mono9 {d : qD} {P Q : qP} (h : ∀ ls st s, P ls st s → Q ls st s) : ∀ ls st s, wI g cts d P ls st s → wI g cts d Q ls st s := by
  intro ls st s hw
  unfold wI at hw ⊢
  split at hw
  · obtain ⟨C, e, hw⟩ := hw
    exact ⟨C, e, wCall_mono9 h _ _ _ hw⟩
  · exact h _ _ _ hw
  · exact h _ _ _ hw
  · rcases hw with hw | ⟨z, st2, e, hw⟩
    · exact Or.inl (h _ _ _ hw)
    · exact Or.inr ⟨z, st2, e, h _ _ _ hw⟩
  · rcases hw with hw | ⟨z, st2, e, hw⟩
    · exact Or.inl (h _ _ _ hw)
    · exact Or.inr ⟨z, st2, e, h _ _ _ hw⟩
  · exact h _ _ _ hw
  · obtain ⟨z, hw⟩ := hw
    exact ⟨z, h _ _ _ hw⟩
  · rcases hw with hw | ⟨z, e, hw⟩
    · exact Or.inl (h _ _ _ hw)
    · exact Or.inr ⟨z, e, h _ _ _ hw⟩
  · exact wD_mono h _ _ _ hw
theorem wBl_mono9 : ∀ (ds : List qD) {P Q : qP}, (∀ ls st s, P ls st s → Q ls st s) → ∀ ls st s, wBl g cts ds P ls st s → wBl g cts ds Q ls st s
  | [], _, _, h, ls, st, s, hw => h ls st s hw
  | d :: ds, _, _, h, ls, st, s, hw => wI_mono9 (wBl_mono9 ds h) ls st s hw
theorem yRun_get {C : qCt} (h : yRun g cts code C) {s : qSg} {r : qW} {a : qX} {as : List qV} (hT : Typed g s) (hB : CtBeg g C as s r a) (k : Nat) : yVn g cts code (CtEnd g C r a s) k 0 (lsArgs 0 as) [] s := by
  refine h s r a as hT hB (fun b ls st s' => ∀ k, yVn g cts code (CtEnd g C r a s) k b ls st s') ⟨fun b blk hb ls st s' hw k => ?_, fun b ls ls' st s' h1 h2 k => ?_⟩ k
  · cases k with
    | zero => trivial
    | succ k => exact ⟨blk, ls, hb, fun _ hq => hq, wBl_mono9 _ (wT_mono9 (fun b ls st s9 hv => hv k)) _ _ _ hw⟩
  · cases k with
    | zero => trivial
    | succ k =>
      obtain ⟨blk, l2, e, hs, hw⟩ := h2 (k + 1)
      exact ⟨blk, l2, e, fun q hq => h1 q (hs q hq), hw⟩
theorem wCall_get {C : qCt} {P : qP} {as st2 : List qV} {ls : qLS} {s : qSg} (h : wCall g C P ls (as.reverse ++ st2) s) (hn : as.length = C.1) : ∃ r a, CtBeg g C as s r a ∧ Typed g s ∧ ∀ res s', CtEnd g C r a s res s' → P ls (res ++ st2) s' := by
  obtain ⟨as', st', r, a, e, hB, -, hT, hP⟩ := h
  have hl : as'.reverse.length = as.reverse.length := by rw [List.length_reverse, List.length_reverse, hB.1, hn]
  obtain ⟨e1, e2⟩ := List.append_inj e hl.symm
  have e3 : as = as' := List.reverse_inj.mp e1
  subst e3 e2
  exact ⟨r, a, hB, hT, hP⟩
theorem end_tags {C : qCt} {ts : List Nat} {r : qW} {a : qX} {s s' : qSg} {res : List qV} (hE : CtEnd g C r a s res s') (h : C.2.2.1.all (fun x => decide (x.2.1.map (fun v => v.1) = ts)) = true) (h3 : ∀ t ∈ ts, t ≠ 3) : res.map (fun v => v.1) = ts := by
  obtain ⟨-, -, x, hx, r', a', -, -, hS⟩ := hE
  have e := of_decide_eq_true (List.all_eq_true.mp h x hx)
  rw [hS.now.2.1, List.map_map, ← e]
  refine List.map_congr_left (fun v hv => ?_)
  have : v.1 ≠ 3 := h3 _ (by rw [← e]; exact List.mem_map.mpr ⟨v, hv, rfl⟩)
  show (qden r' v).1 = v.1
  unfold qden
  rw [if_neg this]
theorem end1 {C : qCt} {t : Nat} {r : qW} {a : qX} {s s' : qSg} {res : List qV} (hE : CtEnd g C r a s res s') (h : C.2.2.1.all (fun x => decide (x.2.1.map (fun v => v.1) = [t])) = true) (h3 : t ≠ 3) : ∃ z, res = [(t, z)] := by
  have e := end_tags hE h (fun q hq => by rw [List.mem_singleton.mp hq]; exact h3)
  match res, e with
  | [(u, z)], e =>
    cases (show [u] = [t] from e)
    exact ⟨z, rfl⟩
theorem end1x {C : qCt} {t : Nat} {r : qW} {a : qX} {s s' : qSg} {u : qV} (hE : CtEnd g C r a s [u] s') (h : C.2.2.1.all (fun x => decide (x.2.1.map (fun v => v.1) = [t]) || x.2.1.isEmpty) = true) (h3 : t ≠ 3) : ∃ z, u = (t, z) := by
  obtain ⟨-, -, x, hx, r', a', -, -, hS⟩ := hE
  have e := List.all_eq_true.mp h x hx
  have e2 : [u] = x.2.1.map (qden r') := hS.now.2.1
  rw [Bool.or_eq_true] at e
  rcases e with e | e
  · have e := of_decide_eq_true e
    match hq : x.2.1, e with
    | [v], e =>
      cases (show [v.1] = [t] from e)
      rw [hq] at e2
      have e3 : u = qden r' v := (List.cons.inj e2).1
      refine ⟨qe r' v.2.1, e3.trans ?_⟩
      unfold qden
      rw [if_neg h3]
  · rw [List.isEmpty_iff.mp e] at e2
    cases e2
theorem end0 {C : qCt} {r : qW} {a : qX} {s s' : qSg} {res : List qV} (hE : CtEnd g C r a s res s') (h : C.2.2.1.all (fun x => decide (x.2.1.map (fun v => v.1) = [])) = true) : res = [] := by
  have e := end_tags hE h (fun q hq => by cases hq)
  match res, e with
  | [], _ => rfl
theorem hv_end {t : Nat} {lo hi z : Int} {r : qW} {a : qX} {s : qSg} (hT : Typed g s) (h1 : lo ≤ z) (h2 : z ≤ hi) (ht : t ≠ 3) : CtEnd g (0, (([], [], ([], []), (0, [], [], 0, [], [], [], [])), ([([], [(t, ((0, [(0, 1)]), (0, [])))], ([], []), (1, [(0, (lo, hi))], [], 0, [], [], [], []))], []))) r a s [(t, z)] s := by
  refine ⟨hT, fun _ _ => rfl, _, List.mem_cons_self, fun _ => z, a, fun v hv => absurd hv (Nat.not_lt_zero _), fun v hv => absurd hv (Nat.not_lt_zero _), Gh.triv _ _ _, fun r' a' hg => ?_⟩
  have hz : r' 0 = z := hg.1 0 Nat.zero_lt_one
  refine ⟨rfl, ?_, (fun x hx => by cases hx), (fun x hx => by cases hx), ?_, (fun x hx => by cases hx), (fun x hx => by cases hx), (fun x hx => by cases hx), (fun x hx => by cases hx), (fun x hx => by cases hx)⟩
  · show [(t, z)] = [qden r' (t, ((0, [(0, 1)]), (0, [])))]
    unfold qden
    rw [if_neg ht]
    show [(t, z)] = [(t, 0 + (1 * r' 0 + 0))]
    rw [hz]
    congr 2
    omega
  · intro x hx
    cases List.mem_singleton.mp hx
    show lo ≤ r' 0 ∧ r' 0 ≤ hi
    rw [hz]
    exact ⟨h1, h2⟩
end
