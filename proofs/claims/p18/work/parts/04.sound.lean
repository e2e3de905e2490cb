/-! THE RUNNER IS SOUND: what it computes the machine does. -/
theorem rN_eq {α : Type} (n : Nat) (k : Nat → α) : rN n k = k n := by cases n <;> rfl
theorem rB_some {α : Type} {b : Bool} {x y : Option α} {o : α} (h : rB b x y = some o) : (b = true ∧ x = some o) ∨ (b = false ∧ y = some o) := by
  cases b
  · exact Or.inr ⟨rfl, h⟩
  · exact Or.inl ⟨rfl, h⟩
theorem rB_yes {α : Type} {b : Bool} {x : Option α} {o : α} (h : rB b x none = some o) : b = true ∧ x = some o := by
  rcases rB_some h with q | q
  · exact q
  · cases q.2
theorem rB_no {α : Type} {b : Bool} {y : Option α} {o : α} (h : rB b none y = some o) : b = false ∧ y = some o := by
  rcases rB_some h with q | q
  · cases q.2
  · exact q
theorem rG_some {α β : Type} {k : α → Option β} {o : β} : ∀ (l : List α) (i : Nat), rG l i k = some o → ∃ x, l[i]? = some x ∧ k x = some o
  | [], i, h => by cases h
  | x :: l, 0, h => ⟨x, rfl, h⟩
  | x :: l, i + 1, h => by
    obtain ⟨y, h1, h2⟩ := rG_some l i h
    exact ⟨y, by rw [List.getElem?_cons_succ]; exact h1, h2⟩
theorem rS_some {α β : Type} {v : α} {o : β} : ∀ (l : List α) (i : Nat) (k : List α → Option β), rS l i v k = some o → i < l.length ∧ k (l.set i v) = some o
  | [], i, k, h => by cases h
  | x :: l, 0, k, h => ⟨Nat.succ_pos _, h⟩
  | x :: l, i + 1, k, h => by
    obtain ⟨h1, h2⟩ := rS_some l i (fun ys => k (x :: ys)) h
    exact ⟨Nat.succ_lt_succ h1, h2⟩
theorem rA_some {β : Type} {i : Nat} {k : rCV → Option β} {o : β} : ∀ (l : rLs), rA l i k = some o → ∃ v, (i, v) ∈ l ∧ k v = some o
  | [], h => by cases h
  | (a, v) :: l, h => by
    have h' : rB (Nat.beq a i) (k v) (rA l i k) = some o := h
    rcases rB_some h' with ⟨q, r⟩ | ⟨-, r⟩
    · have e : a = i := Nat.eq_of_beq_eq_true q
      subst e
      exact ⟨v, List.mem_cons_self, r⟩
    · obtain ⟨v2, h1, h2⟩ := rA_some l r
      exact ⟨v2, List.mem_cons_of_mem _ h1, h2⟩
theorem rF_eq {β : Type} {p : Nat × rCV → Bool} : ∀ (l : rLs) (k : rLs → Option β), rF p l k = k (l.filter p)
  | [], k => rfl
  | x :: l, k => by
    show rB (p x) (rF p l (fun ys => k (x :: ys))) (rF p l k) = _
    cases e : p x
    · rw [List.filter_cons_of_neg (by simp [e])]
      exact rF_eq l k
    · rw [List.filter_cons_of_pos (by simp [e])]
      exact rF_eq l _
/-- what the world tells of cell i -/
def wGet (i : Nat) : rWd → Option rCC
  | [] => none
  | (a, x) :: w => if a = i then some x else wGet i w
def wSet (i : Nat) (x : rCC) : rWd → rWd
  | [] => []
  | (a, y) :: w => if a = i then (a, x) :: w else (a, y) :: wSet i x w
theorem beq_t {a b : Nat} (h : a = b) : Nat.beq a b = true := by subst h; exact Nat.beq_refl a
theorem beq_f {a b : Nat} (h : ¬ a = b) : Nat.beq a b = false := by
  cases e : Nat.beq a b
  · rfl
  · exact absurd (Nat.eq_of_beq_eq_true e) h
theorem rWG_some {β : Type} {i : Nat} {k : rCC → Option β} {o : β} : ∀ (w : rWd), rWG w i k = some o → ∃ x, wGet i w = some x ∧ k x = some o
  | [], h => by cases h
  | (a, x) :: w, h => by
    have h' : rB (Nat.beq a i) (k x) (rWG w i k) = some o := h
    by_cases e : a = i
    · rw [beq_t e] at h'
      exact ⟨x, by show (if a = i then some x else wGet i w) = _; rw [if_pos e], h'⟩
    · rw [beq_f e] at h'
      obtain ⟨y, h1, h2⟩ := rWG_some w h'
      exact ⟨y, by show (if a = i then some x else wGet i w) = _; rw [if_neg e]; exact h1, h2⟩
theorem rWS_some {β : Type} {i : Nat} {x : rCC} {o : β} : ∀ (w : rWd) (k : rWd → Option β), rWS w i x k = some o → k (wSet i x w) = some o
  | [], k, h => by cases h
  | (a, y) :: w, k, h => by
    have h' : rB (Nat.beq a i) (k ((a, x) :: w)) (rWS w i x (fun w => k ((a, y) :: w))) = some o := h
    by_cases e : a = i
    · rw [beq_t e] at h'
      show k (if a = i then (a, x) :: w else (a, y) :: wSet i x w) = _
      rw [if_pos e]; exact h'
    · rw [beq_f e] at h'
      show k (if a = i then (a, x) :: w else (a, y) :: wSet i x w) = _
      rw [if_neg e]
      exact rWS_some w _ h'
theorem wGet_set {i j : Nat} {x : rCC} : ∀ (w : rWd) {y : rCC}, wGet j (wSet i x w) = some y → (j = i ∧ y = x) ∨ (j ≠ i ∧ wGet j w = some y)
  | [], y, h => by cases h
  | (a, z) :: w, y, h => by
    have h' : wGet j (if a = i then (a, x) :: w else (a, z) :: wSet i x w) = some y := h
    show _ ∨ (_ ∧ (if a = j then some z else wGet j w) = some y)
    by_cases e : a = i
    · rw [if_pos e] at h'
      have h2 : (if a = j then some x else wGet j w) = some y := h'
      by_cases e2 : a = j
      · rw [if_pos e2] at h2
        cases h2
        exact Or.inl ⟨e2.symm.trans e, rfl⟩
      · rw [if_neg e2] at h2
        exact Or.inr ⟨fun q => e2 (e.trans q.symm), by rw [if_neg e2]; exact h2⟩
    · rw [if_neg e] at h'
      have h2 : (if a = j then some z else wGet j (wSet i x w)) = some y := h'
      by_cases e2 : a = j
      · rw [if_pos e2] at h2 ⊢
        exact Or.inr ⟨fun q => e (e2.trans q), h2⟩
      · rw [if_neg e2] at h2 ⊢
        exact wGet_set w h2
theorem rI_some {β : Type} {v : rCV} {k : Nat → Option β} {o : β} (h : rI v k = some o) : ∃ a, v = .inl a ∧ k a = some o := by
  rcases v with a | a | a
  · exact ⟨a, rfl, h⟩
  · cases h
  · cases h
theorem rJ_some {β : Type} {v : rCV} {k : Nat → Option β} {o : β} (h : rJ v k = some o) : ∃ a, v = .inr (.inl a) ∧ k a = some o := by
  rcases v with a | a | a
  · cases h
  · exact ⟨a, rfl, h⟩
  · cases h
theorem rR_some {β : Type} {v : rCV} {k : Nat → Option β} {o : β} (h : rR v k = some o) : ∃ a, v = .inr (.inr a) ∧ k a = some o := by
  rcases v with a | a | a
  · cases h
  · cases h
  · exact ⟨a, rfl, h⟩
theorem rV_eq {β : Type} (v : rCV) (k : rCV → Option β) : rV v k = k v := by
  rcases v with a | a | a <;> rfl
theorem rP_some {β : Type} {st : List rCV} {k : rCV → List rCV → Option β} {o : β} (h : rP st k = some o) : ∃ v st', st = v :: st' ∧ k v st' = some o := by
  cases st with
  | nil => cases h
  | cons v st => exact ⟨v, st, rfl, h⟩
theorem rCO_some {β : Type} {x : rCC} {k : Nat → List rCV → Option β} {o : β} (h : rCO x k = some o) : ∃ ci fs, x = .inl (ci, fs) ∧ k ci fs = some o := by
  rcases x with ⟨a, b⟩ | x
  · exact ⟨a, b, rfl, h⟩
  · cases h
theorem rCA_some {β : Type} {x : rCC} {k : Nat → Nat → rCV → rMp → Option β} {o : β} (h : rCA x k = some o) : ∃ t N d m, x = .inr (t, N, d, m) ∧ k t N d m = some o := by
  rcases x with x | ⟨t, N, d, m⟩
  · cases h
  · exact ⟨t, N, d, m, rfl, h⟩
theorem isI_e {v : rCV} (h : isI v = true) : ∃ a, v = .inl a := by
  rcases v with a | a | a
  · exact ⟨a, rfl⟩
  · cases h
  · cases h
theorem isJ_e {v : rCV} (h : isJ v = true) : ∃ a, v = .inr (.inl a) := by
  rcases v with a | a | a
  · cases h
  · exact ⟨a, rfl⟩
  · cases h
theorem isR_e {v : rCV} (h : isR v = true) : ∃ a, v = .inr (.inr a) := by
  rcases v with a | a | a
  · cases h
  · cases h
  · exact ⟨a, rfl⟩
-- the judgement, for any reading V of the runner's states
abbrev rPr : Type := rOut → Nat → rLs → List rCV → rWd → Nat → Nat → Prop
def HS (V : rPr) (pc pc' : Nat) (h : rK → rK) : Prop := ∀ (k : rK) (ls : rLs) (st : List rCV) (w : rWd) (n c : Nat) (o : rOut), h k ls st w n c = some o → ∃ ls' st' w' n' c', k ls' st' w' n' c' = some o ∧ n ≤ n' ∧ c ≤ c' ∧ (n' ≤ o.2.2.1 → c' ≤ o.2.2.2 → V o pc' ls' st' w' n' c' → V o pc ls st w n c)
def BG (V : rPr) (o : rOut) (pc : Nat) (ls : rLs) (st : List rCV) (w : rWd) (n c : Nat) : Prop := (n ≤ o.2.2.1 ∧ c ≤ o.2.2.2) ∧ V o pc ls st w n c
def BS (V : rPr) (pcs : List Nat) (pc : Nat) (t : rBl) : Prop := ∀ (J : Nat → rK), (∀ b pb, pcs[b]? = some pb → ∀ ls st w n c o, J b ls st w n c = some o → BG V o pb ls st w n c) → ∀ ls st w n c o, t J ls st w n c = some o → BG V o pc ls st w n c
theorem HS.same {V : rPr} {pc pc' : Nat} {h : rK → rK} (H : ∀ (k : rK) (ls : rLs) (st : List rCV) (w : rWd) (n c : Nat) (o : rOut), h k ls st w n c = some o → ∃ ls' st', k ls' st' w n c = some o ∧ (V o pc' ls' st' w n c → V o pc ls st w n c)) : HS V pc pc' h := by
  intro k ls st w n c o e
  obtain ⟨ls', st', e1, h1⟩ := H k ls st w n c o e
  exact ⟨ls', st', w, n, c, e1, Nat.le_refl _, Nat.le_refl _, fun _ _ => h1⟩
theorem BS.sq {V : rPr} {pcs : List Nat} {pc pc' : Nat} {h : rK → rK} {t : rBl} (hh : HS V pc pc' h) (ht : BS V pcs pc' t) : BS V pcs pc (sq h t) := by
  intro J hJ ls st w n c o e
  obtain ⟨ls', st', w', n', c', e2, h1, h2, hV⟩ := hh (t J) ls st w n c o e
  obtain ⟨⟨a1, a2⟩, hv⟩ := ht J hJ ls' st' w' n' c' o e2
  exact ⟨⟨Nat.le_trans h1 a1, Nat.le_trans h2 a2⟩, hV a1 a2 hv⟩
theorem BS.go {V : rPr} {pcs : List Nat} {pc b : Nat} (hb : pcs[b]? = some pc) : BS V pcs pc (t_go b) := fun J hJ ls st w n c o e => hJ b pc hb ls st w n c o e
theorem BS.no {V : rPr} {pcs : List Nat} {pc : Nat} : BS V pcs pc t_no := fun J hJ ls st w n c o e => by cases e
theorem BS.via {V : rPr} {pcs : List Nat} {pc pc' : Nat} {t : rBl} (ht : BS V pcs pc' t) (h : ∀ o ls st w n c, V o pc' ls st w n c → V o pc ls st w n c) : BS V pcs pc t := by
  intro J hJ ls st w n c o e
  obtain ⟨a, b⟩ := ht J hJ ls st w n c o e
  exact ⟨a, h _ _ _ _ _ _ b⟩
def AllB (V : rPr) (pcs : List Nat) : List Nat → List rBl → Prop
  | pb :: ps, t :: ts => BS V pcs pb t ∧ AllB V pcs ps ts
  | [], [] => True
  | _, _ => False
theorem AllB.n {V : rPr} {pcs : List Nat} : AllB V pcs [] [] := trivial
theorem AllB.c {V : rPr} {pcs : List Nat} {pb : Nat} {ps : List Nat} {t : rBl} {ts : List rBl} (h1 : BS V pcs pb t) (h2 : AllB V pcs ps ts) : AllB V pcs (pb :: ps) (t :: ts) := ⟨h1, h2⟩
theorem AllB.at {V : rPr} {pcs : List Nat} : ∀ (ps : List Nat) (ts : List rBl), AllB V pcs ps ts → ∀ (b : Nat) (t : rBl), ts[b]? = some t → ∃ pb : Nat, ps[b]? = some pb ∧ BS V pcs pb t
  | [], [], _, b, t, h => by simp at h
  | [], _ :: _, h, _, _, _ => h.elim
  | _ :: _, [], h, _, _, _ => h.elim
  | pb :: ps, t0 :: ts, h, 0, t, e => by
    rw [List.getElem?_cons_zero] at e
    cases e
    exact ⟨pb, rfl, h.1⟩
  | pb :: ps, t0 :: ts, h, b + 1, t, e => by
    rw [List.getElem?_cons_succ] at e
    obtain ⟨p2, h1, h2⟩ := AllB.at ps ts h.2 b t e
    exact ⟨p2, by rw [List.getElem?_cons_succ]; exact h1, h2⟩
theorem run_ok {V : rPr} {pcs : List Nat} {bs : List rBl} (h : AllB V pcs pcs bs) : ∀ fuel b pb, pcs[b]? = some pb → ∀ ls st w n c o, rRun bs fuel b ls st w n c = some o → BG V o pb ls st w n c := by
  intro fuel
  induction fuel with
  | zero => intro b pb _ ls st w n c o e; cases e
  | succ f ih =>
    intro b pb hb ls st w n c o e
    obtain ⟨t, h1, h2⟩ := rG_some (k := fun t : rBl => t (rRun bs f) ls st w n c) bs b e
    obtain ⟨p2, h3, h4⟩ := h.at _ _ b t h1
    have e2 : p2 = pb := Option.some.inj (h3.symm.trans hb)
    subst e2
    exact h4 (rRun bs f) ih ls st w n c o h2
