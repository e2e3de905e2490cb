/-! THE RUNNER IS SOUND: what it computes the machine does. -/
theorem rN_eq {α : Type} (n : Nat) (k : Nat → α) : rN n k = k n := by cases n <;> rfl
theorem rB_some {α : Type} {b : Bool} {x y : Option α} {o : α} (h : rB b x y = some o) : (b = true ∧ x = some o) ∨ (b = false ∧ y = some o) := by
  cases b
  · exact Or.inr ⟨rfl, h⟩
  · exact Or.inl ⟨rfl, h⟩
theorem rB_yes {α : Type} {b : Bool} {x : Option α} {o : α} (h : rB b x none = some o) : b = true ∧ x = some o := by
  rcases rB_some h with q | q
  · exact q
  · cases q.2
theorem rB_no {α : Type} {b : Bool} {y : Option α} {o : α} (h : rB b none y = some o) : b = false ∧ y = some o := by
  rcases rB_some h with q | q
  · cases q.2
  · exact q
theorem rG_some {α β : Type} {k : α → Option β} {o : β} : ∀ (l : List α) (i : Nat), rG l i k = some o → ∃ x, l[i]? = some x ∧ k x = some o
  | [], i, h => by cases h
  | x :: l, 0, h => ⟨x, rfl, h⟩
  | x :: l, i + 1, h => by
    obtain ⟨y, h1, h2⟩ := rG_some l i h
    exact ⟨y, by rw [List.getElem?_cons_succ]; exact h1, h2⟩
theorem rS_some {α β : Type} {v : α} {o : β} : ∀ (l : List α) (i : Nat) (k : List α → Option β), rS l i v k = some o → i < l.length ∧ k (l.set i v) = some o
  | [], i, k, h => by cases h
  | x :: l, 0, k, h => ⟨Nat.succ_pos _, h⟩
  | x :: l, i + 1, k, h => by
    obtain ⟨h1, h2⟩ := rS_some l i (fun ys => k (x :: ys)) h
    exact ⟨Nat.succ_lt_succ h1, h2⟩
theorem rA_some {β : Type} {i : Nat} {k : rCV → Option β} {o : β} : ∀ (l : rLs), rA l i k = some o → ∃ v, (i, v) ∈ l ∧ k v = some o
  | [], h => by cases h
  | (a, v) :: l, h => by
    have h' : rB (Nat.beq a i) (k v) (rA l i k) = some o := h
    rcases rB_some h' with ⟨q, r⟩ | ⟨-, r⟩
    · have e : a = i := Nat.eq_of_beq_eq_true q
      subst e
      exact ⟨v, List.mem_cons_self, r⟩
    · obtain ⟨v2, h1, h2⟩ := rA_some l r
      exact ⟨v2, List.mem_cons_of_mem _ h1, h2⟩
theorem rF_eq {β : Type} {p : Nat × rCV → Bool} : ∀ (l : rLs) (k : rLs → Option β), rF p l k = k (l.filter p)
  | [], k => rfl
  | x :: l, k => by
    show rB (p x) (rF p l (fun ys => k (x :: ys))) (rF p l k) = _
    cases e : p x
    · rw [List.filter_cons_of_neg (by simp [e])]
      exact rF_eq l k
    · rw [List.filter_cons_of_pos (by simp [e])]
      exact rF_eq l _
theorem rI_some {β : Type} {v : rCV} {k : Nat → Option β} {o : β} (h : rI v k = some o) : ∃ a, v = .inl a ∧ k a = some o := by
  rcases v with a | a | a
  · exact ⟨a, rfl, h⟩
  · cases h
  · cases h
theorem rJ_some {β : Type} {v : rCV} {k : Nat → Option β} {o : β} (h : rJ v k = some o) : ∃ a, v = .inr (.inl a) ∧ k a = some o := by
  rcases v with a | a | a
  · cases h
  · exact ⟨a, rfl, h⟩
  · cases h
theorem rR_some {β : Type} {v : rCV} {k : Nat → Option β} {o : β} (h : rR v k = some o) : ∃ a, v = .inr (.inr a) ∧ k a = some o := by
  rcases v with a | a | a
  · cases h
  · cases h
  · exact ⟨a, rfl, h⟩
theorem rV_eq {β : Type} (v : rCV) (k : rCV → Option β) : rV v k = k v := by
  rcases v with a | a | a <;> rfl
theorem rP_some {β : Type} {st : List rCV} {k : rCV → List rCV → Option β} {o : β} (h : rP st k = some o) : ∃ v st', st = v :: st' ∧ k v st' = some o := by
  cases st with
  | nil => cases h
  | cons v st => exact ⟨v, st, rfl, h⟩
theorem rCO_some {β : Type} {x : rCC} {k : Nat → List rCV → Option β} {o : β} (h : rCO x k = some o) : ∃ ci fs, x = .inl (ci, fs) ∧ k ci fs = some o := by
  rcases x with ⟨a, b⟩ | x
  · exact ⟨a, b, rfl, h⟩
  · cases h
theorem rCA_some {β : Type} {x : rCC} {k : Nat → Nat → rCV → rMp → Option β} {o : β} (h : rCA x k = some o) : ∃ t N d m, x = .inr (t, N, d, m) ∧ k t N d m = some o := by
  rcases x with x | ⟨t, N, d, m⟩
  · cases h
  · exact ⟨t, N, d, m, rfl, h⟩
theorem isI_e {v : rCV} (h : isI v = true) : ∃ a, v = .inl a := by
  rcases v with a | a | a
  · exact ⟨a, rfl⟩
  · cases h
  · cases h
theorem isJ_e {v : rCV} (h : isJ v = true) : ∃ a, v = .inr (.inl a) := by
  rcases v with a | a | a
  · cases h
  · exact ⟨a, rfl⟩
  · cases h
theorem isR_e {v : rCV} (h : isR v = true) : ∃ a, v = .inr (.inr a) := by
  rcases v with a | a | a
  · cases h
  · cases h
  · exact ⟨a, rfl⟩
-- the judgement, for any reading V of the runner's states
abbrev rPr : Type := rOut → Nat → rLs → List rCV → rWd → Nat → Nat → Prop
def HS (V : rPr) (pc pc' : Nat) (h : rK → rK) : Prop := ∀ (k : rK) (ls : rLs) (st : List rCV) (w : rWd) (n c : Nat) (o : rOut), h k ls st w n c = some o → n = w.length → ∃ ls' st' w' n' c', k ls' st' w' n' c' = some o ∧ n' = w'.length ∧ n ≤ n' ∧ c ≤ c' ∧ (n' ≤ o.2.2.1 → c' ≤ o.2.2.2 → V o pc' ls' st' w' n' c' → V o pc ls st w n c)
def BG (V : rPr) (o : rOut) (pc : Nat) (ls : rLs) (st : List rCV) (w : rWd) (n c : Nat) : Prop := (n ≤ o.2.2.1 ∧ c ≤ o.2.2.2 ∧ o.2.2.1 = o.2.1.length) ∧ V o pc ls st w n c
def BS (V : rPr) (pcs : List Nat) (pc : Nat) (t : rBl) : Prop := ∀ (J : Nat → rK), (∀ b pb, pcs[b]? = some pb → ∀ ls st w n c o, J b ls st w n c = some o → n = w.length → BG V o pb ls st w n c) → ∀ ls st w n c o, t J ls st w n c = some o → n = w.length → BG V o pc ls st w n c
theorem HS.same {V : rPr} {pc pc' : Nat} {h : rK → rK} (H : ∀ (k : rK) (ls : rLs) (st : List rCV) (w : rWd) (n c : Nat) (o : rOut), h k ls st w n c = some o → ∃ ls' st', k ls' st' w n c = some o ∧ (V o pc' ls' st' w n c → V o pc ls st w n c)) : HS V pc pc' h := by
  intro k ls st w n c o e hn
  obtain ⟨ls', st', e1, h1⟩ := H k ls st w n c o e
  exact ⟨ls', st', w, n, c, e1, hn, Nat.le_refl _, Nat.le_refl _, fun _ _ => h1⟩
theorem BS.sq {V : rPr} {pcs : List Nat} {pc pc' : Nat} {h : rK → rK} {t : rBl} (hh : HS V pc pc' h) (ht : BS V pcs pc' t) : BS V pcs pc (sq h t) := by
  intro J hJ ls st w n c o e hn
  obtain ⟨ls', st', w', n', c', e2, hn2, h1, h2, hV⟩ := hh (t J) ls st w n c o e hn
  obtain ⟨⟨a1, a2, a3⟩, hv⟩ := ht J hJ ls' st' w' n' c' o e2 hn2
  exact ⟨⟨Nat.le_trans h1 a1, Nat.le_trans h2 a2, a3⟩, hV a1 a2 hv⟩
theorem BS.go {V : rPr} {pcs : List Nat} {pc b : Nat} (hb : pcs[b]? = some pc) : BS V pcs pc (t_go b) := fun J hJ ls st w n c o e hn => hJ b pc hb ls st w n c o e hn
theorem BS.via {V : rPr} {pcs : List Nat} {pc pc' : Nat} {t : rBl} (ht : BS V pcs pc' t) (h : ∀ o ls st w n c, V o pc' ls st w n c → V o pc ls st w n c) : BS V pcs pc t := by
  intro J hJ ls st w n c o e hn
  obtain ⟨a, b⟩ := ht J hJ ls st w n c o e hn
  exact ⟨a, h _ _ _ _ _ _ b⟩
def AllB (V : rPr) (pcs : List Nat) : List Nat → List rBl → Prop
  | pb :: ps, t :: ts => BS V pcs pb t ∧ AllB V pcs ps ts
  | [], [] => True
  | _, _ => False
theorem AllB.at {V : rPr} {pcs : List Nat} : ∀ (ps : List Nat) (ts : List rBl), AllB V pcs ps ts → ∀ (b : Nat) (t : rBl), ts[b]? = some t → ∃ pb : Nat, ps[b]? = some pb ∧ BS V pcs pb t
  | [], [], _, b, t, h => by simp at h
  | [], _ :: _, h, _, _, _ => h.elim
  | _ :: _, [], h, _, _, _ => h.elim
  | pb :: ps, t0 :: ts, h, 0, t, e => by
    rw [List.getElem?_cons_zero] at e
    cases e
    exact ⟨pb, rfl, h.1⟩
  | pb :: ps, t0 :: ts, h, b + 1, t, e => by
    rw [List.getElem?_cons_succ] at e
    obtain ⟨p2, h1, h2⟩ := AllB.at ps ts h.2 b t e
    exact ⟨p2, by rw [List.getElem?_cons_succ]; exact h1, h2⟩
theorem run_ok {V : rPr} {pcs : List Nat} {bs : List rBl} (h : AllB V pcs pcs bs) : ∀ fuel b pb, pcs[b]? = some pb → ∀ ls st w n c o, rRun bs fuel b ls st w n c = some o → n = w.length → BG V o pb ls st w n c := by
  intro fuel
  induction fuel with
  | zero => intro b pb _ ls st w n c o e; cases e
  | succ f ih =>
    intro b pb hb ls st w n c o e hn
    obtain ⟨t, h1, h2⟩ := rG_some (k := fun t : rBl => t (rRun bs f) ls st w n c) bs b e
    obtain ⟨p2, h3, h4⟩ := h.at _ _ b t h1
    have e2 : p2 = pb := Option.some.inj (h3.symm.trans hb)
    subst e2
    exact h4 (rRun bs f) ih ls st w n c o h2 hn
