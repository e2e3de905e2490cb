/-! THE CHECKER'S STEPS: one instruction over a symbolic state. A stream of numbers tells what must be told. -/
section
variable {γ : qGh}
abbrev qR : Type := Option (List Nat)
abbrev qKk : Type := qS → List Nat → qR
noncomputable def zp {β : Type} (s : List Nat) (k : Nat → List Nat → Option β) : Option β := List.rec (motive := fun _ => Option β) none (fun x s _ => k x s) s
theorem zp_some {β : Type} {s : List Nat} {k : Nat → List Nat → Option β} {o : β} (h : zp s k = some o) : ∃ x s', k x s' = some o := by
  cases s with
  | nil => cases h
  | cons x s => exact ⟨x, s, h⟩
/-- an integer out of a number: 2 n for n, 2 n + 1 for - n - 1 -/
noncomputable def zz (n : Nat) : Int := qB (Nat.beq (Nat.mod n 2) 0) (Int.ofNat (Nat.div n 2)) (Int.negSucc (Nat.div n 2))
/-- a list of facts and multipliers -/
noncomputable def zf {β : Type} (s : List Nat) (k : List (Nat × Nat) → List Nat → Option β) : Option β := zp s (fun n s => Nat.rec (motive := fun _ => List (Nat × Nat) → List Nat → Option β) (fun acc s => k acc s) (fun _ ih acc s => zp s (fun i s => zp s (fun l s => ih ((i, l) :: acc) s))) n [] s)
theorem zf_go {β : Type} {k : List (Nat × Nat) → List Nat → Option β} {o : β} : ∀ (n : Nat) (acc : List (Nat × Nat)) (s : List Nat), (Nat.rec (motive := fun _ => List (Nat × Nat) → List Nat → Option β) (fun acc s => k acc s) (fun _ ih acc s => zp s (fun i s => zp s (fun l s => ih ((i, l) :: acc) s))) n acc s) = some o → ∃ cs s', k cs s' = some o
  | 0, acc, s, h => ⟨acc, s, h⟩
  | n + 1, acc, s, h => by
    obtain ⟨i, s1, h1⟩ := zp_some (s := s) h
    obtain ⟨l, s2, h2⟩ := zp_some h1
    exact zf_go n _ s2 h2
theorem zf_some {β : Type} {s : List Nat} {k : List (Nat × Nat) → List Nat → Option β} {o : β} (h : zf s k = some o) : ∃ cs s', k cs s' = some o := by
  obtain ⟨n, s1, h1⟩ := zp_some h
  exact zf_go n [] s1 h1
/-- f isn't negative: by bounds alone, else by facts that the stream tells -/
noncomputable def zg {β : Type} (K : qK) (f : qL) (s : List Nat) (k : List Nat → Option β) : Option β := qB (qLo K.2.1 f.2 f.1) (k s) (zf s (fun cs s => qB (qPr K.2.1 K.2.2.1 cs f) (k s) none))
theorem zg_some {β : Type} {K : qK} {f : qL} {s : List Nat} {k : List Nat → Option β} {o : β} (h : zg K f s k = some o) : (∃ s', k s' = some o) ∧ ∀ (g : qG) (r : qW) (a : qX), KnC g K r a → 0 ≤ qe r f := by
  have h' : qB (qLo K.2.1 f.2 f.1) (k s) (zf s (fun cs s => qB (qPr K.2.1 K.2.2.1 cs f) (k s) none)) = some o := h
  cases e : qLo K.2.1 f.2 f.1
  · rw [qB_f e] at h'
    obtain ⟨cs, s1, h1⟩ := zf_some h'
    cases e2 : qPr K.2.1 K.2.2.1 cs f
    · rw [e2, qB_f rfl] at h1; cases h1
    · rw [e2, qB_t rfl] at h1
      exact ⟨⟨s1, h1⟩, fun g r a C => qPr_ok C.1 C.2.1 cs f e2⟩
  · rw [qB_t e] at h'
    exact ⟨⟨s, h'⟩, fun g r a C => qLo_ok C.1 f.2 f.1 e⟩
/-- several of them -/
noncomputable def zgs {β : Type} (K : qK) (fs : List qL) : List Nat → (List Nat → Option β) → Option β := List.rec (motive := fun _ => List Nat → (List Nat → Option β) → Option β) (fun s k => k s) (fun f _ ih s k => zg K f s (fun s => ih s k)) fs
theorem zgs_some {β : Type} {K : qK} {o : β} : ∀ (fs : List qL) (s : List Nat) (k : List Nat → Option β), zgs K fs s k = some o → (∃ s', k s' = some o) ∧ ∀ (g : qG) (r : qW) (a : qX), KnC g K r a → ∀ f ∈ fs, 0 ≤ qe r f
  | [], s, k, h => ⟨⟨s, h⟩, fun _ _ _ _ f hf => by cases hf⟩
  | f :: fs, s, k, h => by
    have h' : zg K f s (fun s => zgs K fs s k) = some o := h
    obtain ⟨⟨s1, h1⟩, h2⟩ := zg_some h'
    obtain ⟨h3, h4⟩ := zgs_some fs s1 k h1
    refine ⟨h3, fun g r a C x hx => ?_⟩
    rcases List.mem_cons.mp hx with rfl | hx
    · exact h2 g r a C
    · exact h4 g r a C x hx
/-- a form, computed before it is handed on -/
noncomputable def qFz {α : Type} (z : Int) (k : Int → α) : α := Int.rec (fun n => Nat.rec (k (Int.ofNat 0)) (fun m _ => k (Int.ofNat (Nat.succ m))) n) (fun n => Nat.rec (k (Int.negSucc 0)) (fun m _ => k (Int.negSucc (Nat.succ m))) n) z
theorem qFz_eq {α : Type} (z : Int) (k : Int → α) : qFz z k = k z := by
  cases z with
  | ofNat n => cases n <;> rfl
  | negSucc n => cases n <;> rfl
noncomputable def qFt {α : Type} (t : qT) : (qT → α) → α := List.rec (motive := fun _ => (qT → α) → α) (fun k => k []) (fun x _ ih k => qFz x.2 (fun z => ih (fun t => k ((x.1, z) :: t)))) t
theorem qFt_eq {α : Type} : ∀ (t : qT) (k : qT → α), qFt t k = k t
  | [], k => rfl
  | x :: t, k => by
    show qFz x.2 (fun z => qFt t (fun t => k ((x.1, z) :: t))) = _
    rw [qFz_eq, qFt_eq t]
noncomputable def qF {α : Type} (a : qL) (k : qL → α) : α := qFz a.1 (fun c => qFt a.2 (fun t => k (c, t)))
theorem qF_eq {α : Type} (a : qL) (k : qL → α) : qF a k = k a := by
  show qFz a.1 (fun c => qFt a.2 (fun t => k (c, t))) = k a
  rw [qFz_eq, qFt_eq]
/-- what a step owes: from such a state, if what is behind it holds wherever the checker went on -/
def qStp (γ : qGh) (g : qG) (md : List Nat) (se : qSg) (d : qD) (x : qS → List Nat → qKk → qR) : Prop := ∀ (S : qS) (str : List Nat) (k : qKk) (o : List Nat) (P : qP), x S str k = some o → (∀ (S' : qS) (str' o' : List Nat), k S' str' = some o' → ∀ r a ls st s, qJ g md se s → Sat γ g S' r a ls st s → P ls st s) → ∀ r a ls st s, qJ g md se s → Sat γ g S r a ls st s → wD g d P ls st s
noncomputable def zk {β : Type} (st : List qSV) (k : qSV → List qSV → Option β) : Option β := List.rec (motive := fun _ => Option β) none (fun x s _ => k x s) st
theorem zk_some {β : Type} {st : List qSV} {k : qSV → List qSV → Option β} {o : β} (h : zk st k = some o) : ∃ x s', st = x :: s' ∧ k x s' = some o := by
  cases st with
  | nil => cases h
  | cons x s => exact ⟨x, s, rfl, h⟩
/-- a value of tag t (0, 1, 2), the top of the stack -/
noncomputable def zt {β : Type} (t : Nat) (st : List qSV) (k : qL → List qSV → Option β) : Option β := zk st (fun x s => qB (Nat.beq x.1 t) (k x.2.1 s) none)
theorem zt_some {β : Type} {t : Nat} {st : List qSV} {k : qL → List qSV → Option β} {o : β} (ht : t ≠ 3) (h : zt t st k = some o) : ∃ f s', k f s' = some o ∧ ∀ r, st.map (qden r) = (t, qe r f) :: s'.map (qden r) := by
  obtain ⟨x, s', rfl, h1⟩ := zk_some h
  cases e : Nat.beq x.1 t
  · rw [e, qB_f rfl] at h1; cases h1
  · rw [e, qB_t rfl] at h1
    have e2 := Nat.eq_of_beq_eq_true e
    refine ⟨_, s', h1, fun r => ?_⟩
    rw [List.map_cons]
    congr 1
    unfold qden
    rw [if_neg (by rw [e2]; exact ht), e2]
noncomputable def S_stk (S : qS) (stk : List qSV) : qS := (S.1, stk, S.2.2)
noncomputable def S_ls (S : qS) (loc : List (Nat × qSV)) (stk : List qSV) : qS := (loc, stk, S.2.2)
theorem Sat.stk {g : qG} {S : qS} {r : qW} {a : qX} {ls : qLS} {st st' : List qV} {s : qSg} (h : Sat γ g S r a ls st s) (stk : List qSV) (hk : ∀ r', st = S.2.1.map (qden r') → st' = stk.map (qden r')) : Sat γ g (S_stk S stk) r a ls st' s :=
  h.ls S.1 stk (fun r' a' C => ⟨C.1, hk r' C.2.1⟩)
theorem den_i (r : qW) (t : Nat) (f f' : qL) (h : t ≠ 3) : qden r (t, f, f') = (t, qe r f) := if_neg h
-- constants
noncomputable def x0 (t : Nat) (d : qD) : qS → List Nat → qKk → qR := fun S str k => k (S_stk S ((t, qC d.2.1, qC 0) :: S.2.1)) str
theorem x0_ok (g : qG) (md : List Nat) (se : qSg) (t : Nat) (c : Int) (b : Int × Int) (ht : t = 0 ∨ t = 1 ∨ t = 2) : qStp γ g md se (t, c, b) (x0 t (t, c, b)) := by
  intro S str k o P h hk r a ls st s hT hS
  have h2 : P ls ((t, c) :: st) s := hk _ _ _ h r a ls ((t, c) :: st) s hT (hS.stk _ (fun r' e => by rw [List.map_cons, den_i r' t _ _ (by omega), qC_ev, e]))
  rcases ht with rfl | rfl | rfl <;> exact h2
noncomputable def ztag (v : qSV) : Nat := qB (Nat.beq v.1 3) 0 v.1
theorem ztag_den (r : qW) (v : qSV) : (qden r v).1 = ztag v := by
  unfold qden ztag
  cases e : Nat.beq v.1 3
  · rw [qB_f rfl, if_neg (Nat.ne_of_beq_eq_false e)]
  · rw [qB_t rfl, if_pos (Nat.eq_of_beq_eq_true e)]
-- load
noncomputable def x3 (d : qD) : qS → List Nat → qKk → qR := fun S str k => Option.rec none (fun v => qB (Nat.beq (ztag v) d.2.2.1.toNat) (k (S_stk S (v :: S.2.1)) str) none) (qFi (β := Int) S.1 d.2.1.toNat)
theorem x3_ok (g : qG) (md : List Nat) (se : qSg) (b : Int × Int × Int) : qStp γ g md se (3, b) (x3 (3, b)) := by
  intro S str k o P h hk r a ls st s hT hS
  have h' : Option.rec (motive := fun _ => qR) none (fun v => qB (Nat.beq (ztag v) b.2.1.toNat) (k (S_stk S (v :: S.2.1)) str) none) (qFi (β := Int) S.1 b.1.toNat) = some o := h
  cases e : qFi (β := Int) S.1 b.1.toNat with
  | none => rw [e] at h'; cases h'
  | some v =>
    rw [e] at h'
    have h' : qB (Nat.beq (ztag v) b.2.1.toNat) (k (S_stk S (v :: S.2.1)) str) none = some o := h'
    cases ht : Nat.beq (ztag v) b.2.1.toNat
    · rw [ht, qB_f rfl] at h'; cases h'
    rw [ht, qB_t rfl] at h'
    refine ⟨qden r v, ?_, (ztag_den r v).trans (Nat.eq_of_beq_eq_true ht), ?_⟩
    · rw [hS.now.1]
      exact List.mem_map.mpr ⟨_, qFi_mem _ e, rfl⟩
    · refine hk _ _ _ h' r a ls _ s hT ?_
      refine ⟨hS.1, ?_⟩
      intro r' a' hg
      have C := hS.2 r' a' hg
      refine ⟨C.1, ?_, C.2.2⟩
      show qden r v :: st = qden r' v :: S.2.1.map (qden r')
      have e1 : dloc r (b.1.toNat, v) = dloc r' (b.1.toNat, v) := by
        have h1 := hS.now.1
        have h2 := C.1
        rw [h1] at h2
        exact List.map_inj_left.mp h2 _ (qFi_mem _ e)
      have e2 : qden r v = qden r' v := (Prod.mk.injEq _ _ _ _ ▸ e1).2
      rw [e2, C.2.1]
end
