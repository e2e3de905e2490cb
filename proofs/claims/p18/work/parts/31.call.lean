/-! CALLS -/
section
variable {γ : qGh}
/-- a contract: how many arguments, the template of its start, the templates of its ends, what it may write -/
abbrev qCt : Type := Nat × (qS × (List qS × List Nat))
/-- what a contract promises of an end: the known of the start goes on -/
def CtEnd (g : qG) (C : qCt) (r : qW) (a : qX) (s : qSg) (res : List qV) (s' : qSg) : Prop := Typed g s' ∧ (∀ b : Nat, ¬ b ∈ C.2.2.2 → s' b = s b) ∧ ∃ x ∈ C.2.2.1, ∃ (r' : qW) (a' : qX), (∀ v, v < C.2.1.2.2.2.1 → r' v = r v) ∧ (∀ v, v < C.2.1.2.2.2.2.2.2.1 → a' v = a v) ∧ Sat gh0 g x r' a' [] res s'
/-- a start that keeps a contract -/
def CtBeg (g : qG) (C : qCt) (as : List qV) (s : qSg) (r : qW) (a : qX) : Prop := as.length = C.1 ∧ ∃ ls, lsSub ls (lsArgs 0 as) ∧ Sat gh0 g C.2.1 r a ls [] s
def wCall (g : qG) (C : qCt) (P : qP) : qP := fun ls st s => ∃ (as : List qV) (st' : List qV) (r : qW) (a : qX), st = as.reverse ++ st' ∧ CtBeg g C as s r a ∧ st'.length ≤ 4 ∧ Typed g s ∧ ∀ res s', CtEnd g C r a s res s' → P ls (res ++ st') s'
/-- the arguments off the stack -/
noncomputable def zargs (n : Nat) (stk : List qSV) (k : List qSV → List qSV → qR) : qR := Nat.rec (motive := fun _ => List qSV → List qSV → qR) (fun as st => k as st) (fun _ ih as st => zk st (fun v st => ih (v :: as) st)) n [] stk
theorem zargs_go {k : List qSV → List qSV → qR} {o : List Nat} : ∀ (n : Nat) (as st : List qSV), (Nat.rec (motive := fun _ => List qSV → List qSV → qR) (fun as st => k as st) (fun _ ih as st => zk st (fun v st => ih (v :: as) st)) n as st) = some o → ∃ bs st', st = bs.reverse ++ st' ∧ bs.length = n ∧ k (bs ++ as) st' = some o
  | 0, as, st, h => ⟨[], st, rfl, rfl, h⟩
  | n + 1, as, st, h => by
    obtain ⟨v, st1, rfl, h2⟩ := zk_some (st := st) h
    obtain ⟨bs, st2, h3, h4, h5⟩ := zargs_go n (v :: as) st1 h2
    refine ⟨bs ++ [v], st2, ?_, by rw [List.length_append, h4]; rfl, by rw [List.append_assoc]; exact h5⟩
    rw [h3, List.reverse_append]; rfl
theorem zargs_some {n : Nat} {stk : List qSV} {k : List qSV → List qSV → qR} {o : List Nat} (h : zargs n stk k = some o) : ∃ as st', stk = as.reverse ++ st' ∧ as.length = n ∧ k as st' = some o := by
  obtain ⟨bs, st', h1, h2, h3⟩ := zargs_go n [] stk h
  rw [List.append_nil] at h3
  exact ⟨bs, st', h1, h2, h3⟩
/-- the arguments in their places -/
noncomputable def zloc (as : List qSV) : Nat → List (Nat × qSV) := List.rec (motive := fun _ => Nat → List (Nat × qSV)) (fun _ => []) (fun v _ ih p => (p, v) :: ih (qB (Nat.beq (ztag v) 1) (Nat.succ (Nat.succ p)) (Nat.succ p))) as
theorem zloc_eq (r : qW) : ∀ (as : List qSV) (p : Nat), (zloc as p).map (dloc r) = lsArgs p (as.map (qden r))
  | [], p => rfl
  | v :: as, p => by
    show dloc r (p, v) :: (zloc as _).map (dloc r) = (p, qden r v) :: lsArgs (if (qden r v).1 = 1 then p + 2 else p + 1) (as.map (qden r))
    rw [zloc_eq r as, ztag_den]
    congr 2
    cases e : Nat.beq (ztag v) 1
    · rw [qB_f rfl, if_neg (Nat.ne_of_beq_eq_false e)]
    · rw [qB_t rfl, if_pos (Nat.eq_of_beq_eq_true e)]
/-- the unknowns that a template has beyond the first m, from unknown n on -/
noncomputable def znew (n m : Nat) : List qL := Nat.rec (motive := fun _ => Nat → List qL) (fun _ => []) (fun _ ih n => qV1 n :: ih (Nat.succ n)) m n
theorem znew_get : ∀ (m n v : Nat), v < m → (znew n m)[v]? = some (qV1 (n + v))
  | 0, n, v, h => by omega
  | m + 1, n, 0, _ => rfl
  | m + 1, n, v + 1, h => by
    show (qV1 n :: znew (Nat.succ n) m)[v + 1]? = _
    rw [List.getElem?_cons_succ, znew_get m (Nat.succ n) v (by omega)]
    congr 2; omega
theorem znew_len : ∀ (m n : Nat), (znew n m).length = m
  | 0, _ => rfl
  | m + 1, n => by show (znew (Nat.succ n) m).length + 1 = m + 1; rw [znew_len m]
/-- the forms of a list, each stands for another -/
noncomputable def zmap {α β : Type} (f : α → Option β) (l : List α) : Option (List β) := List.rec (motive := fun _ => Option (List β)) (some []) (fun x _ ih => Option.rec none (fun y => Option.rec none (fun ys => some (y :: ys)) ih) (f x)) l
theorem zmap_mem {α β : Type} {f : α → Option β} : ∀ (l : List α) (m : List β), zmap f l = some m → ∀ y ∈ m, ∃ x ∈ l, f x = some y
  | [], m, h, y, hy => by cases h; cases hy
  | x :: l, m, h, y, hy => by
    have h' : Option.rec (motive := fun _ => Option (List β)) none (fun y => Option.rec none (fun ys => some (y :: ys)) (zmap f l)) (f x) = some m := h
    cases e : f x with
    | none => rw [e] at h'; cases h'
    | some z =>
      rw [e] at h'
      cases e2 : zmap f l with
      | none => rw [e2] at h'; cases h'
      | some zs =>
        rw [e2] at h'
        cases h'
        rcases List.mem_cons.mp hy with rfl | hy
        · exact ⟨x, List.mem_cons_self, e⟩
        · obtain ⟨x2, h1, h2⟩ := zmap_mem l zs e2 y hy
          exact ⟨x2, List.mem_cons_of_mem _ h1, h2⟩
theorem zmap_eq {α β γ : Type} {f : α → Option β} {p : α → γ} {q : β → γ} (e : ∀ x y, f x = some y → p x = q y) : ∀ (l : List α) (m : List β), zmap f l = some m → l.map p = m.map q
  | [], m, h => by cases h; rfl
  | x :: l, m, h => by
    have h' : Option.rec (motive := fun _ => Option (List β)) none (fun y => Option.rec none (fun ys => some (y :: ys)) (zmap f l)) (f x) = some m := h
    cases e1 : f x with
    | none => rw [e1] at h'; cases h'
    | some z =>
      rw [e1] at h'
      cases e2 : zmap f l with
      | none => rw [e2] at h'; cases h'
      | some zs =>
        rw [e2] at h'
        cases h'
        rw [List.map_cons, List.map_cons, e x z e1, zmap_eq e l zs e2]
noncomputable def zsv (th : List qL) (v : qSV) : Option qSV := qB (Nat.beq v.1 3) none (Option.rec none (fun f => some (v.1, f, qC 0)) (zsb th v.2.1))
theorem zsv_ok {th : List qL} {v w : qSV} (h : zsv th v = some w) (r : qW) : qden (zrS r th) v = qden r w := by
  unfold zsv at h
  cases e : Nat.beq v.1 3
  · rw [e, qB_f rfl] at h
    have e2 := Nat.ne_of_beq_eq_false e
    cases e3 : zsb th v.2.1 with
    | none => rw [e3] at h; cases h
    | some f =>
      rw [e3] at h
      cases h
      unfold qden
      rw [if_neg e2, if_neg e2, ← zsb_ok e3 r]
  · rw [e, qB_t rfl] at h; cases h
noncomputable def zsf (th : List qL) (q : Nat × qL) : Option (Nat × qL) := Option.rec none (fun f => some (q.1, f)) (zsb th q.2)
/-- bounds of the new unknowns: those from m on, n further -/
noncomputable def zbn (m n : Nat) (l : qBd) (acc : qBd) : qBd := List.rec (motive := fun _ => qBd) acc (fun q _ ih => qB (Nat.blt q.1 m) ih ((Nat.add n (Nat.sub q.1 m), q.2) :: ih)) l
theorem zbn_mem {m n : Nat} {acc : qBd} {x : Nat × (Int × Int)} : ∀ l : qBd, x ∈ zbn m n l acc → x ∈ acc ∨ ∃ q ∈ l, m ≤ q.1 ∧ x = (n + (q.1 - m), q.2)
  | [], h => Or.inl h
  | q :: l, h => by
    have h' : x ∈ qB (Nat.blt q.1 m) (zbn m n l acc) ((Nat.add n (Nat.sub q.1 m), q.2) :: zbn m n l acc) := h
    cases e : Nat.blt q.1 m
    · rw [e, qB_f rfl] at h'
      rcases List.mem_cons.mp h' with rfl | h2
      · exact Or.inr ⟨q, List.mem_cons_self, blt_f e, rfl⟩
      · rcases zbn_mem l h2 with h3 | ⟨y, h3, h4⟩
        · exact Or.inl h3
        · exact Or.inr ⟨y, List.mem_cons_of_mem _ h3, h4⟩
    · rw [e, qB_t rfl] at h'
      rcases zbn_mem l h' with h3 | ⟨y, h3, h4⟩
      · exact Or.inl h3
      · exact Or.inr ⟨y, List.mem_cons_of_mem _ h3, h4⟩
/-- all but the blocks of a list -/
noncomputable def zdl {α : Type} (md : List Nat) (l : List (Nat × α)) : List (Nat × α) := List.rec (motive := fun _ => List (Nat × α)) [] (fun x _ ih => qB (zmem x.1 md) ih (x :: ih)) l
theorem zmem_f {b : Nat} : ∀ l : List Nat, zmem b l = false → ¬ b ∈ l
  | [], _ => by intro h; cases h
  | x :: l, h => by
    have h' : qB (Nat.beq x b) true (zmem b l) = false := h
    cases e : Nat.beq x b
    · rw [e, qB_f rfl] at h'
      intro hm
      rcases List.mem_cons.mp hm with e2 | hm
      · exact Nat.ne_of_beq_eq_false e e2.symm
      · exact zmem_f l h' hm
    · rw [e, qB_t rfl] at h'; cases h'
theorem zdl_mem {α : Type} {md : List Nat} {x : Nat × α} : ∀ l : List (Nat × α), x ∈ zdl md l → x ∈ l ∧ ¬ x.1 ∈ md
  | [], h => by cases h
  | y :: l, h => by
    have h' : x ∈ qB (zmem y.1 md) (zdl md l) (y :: zdl md l) := h
    cases e : zmem y.1 md
    · rw [e, qB_f rfl] at h'
      rcases List.mem_cons.mp h' with rfl | h2
      · exact ⟨List.mem_cons_self, zmem_f _ e⟩
      · exact ⟨List.mem_cons_of_mem _ (zdl_mem l h2).1, (zdl_mem l h2).2⟩
    · rw [e, qB_t rfl] at h'
      exact ⟨List.mem_cons_of_mem _ (zdl_mem l h').1, (zdl_mem l h').2⟩
noncomputable def zapp {α : Type} (l m : List α) : List α := List.rec (motive := fun _ => List α) m (fun x _ ih => x :: ih) l
theorem zapp_eq {α : Type} : ∀ l m : List α, zapp l m = l ++ m
  | [], m => rfl
  | x :: l, m => by show x :: zapp l m = x :: (l ++ m); rw [zapp_eq l m]
end
