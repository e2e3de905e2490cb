/-! METHODS WITHOUT EFFECTS: the answer depends on what is read alone -/
section
variable {gd : Nat → Option qBI} {cl : qCl} {s s' : qSg} {B : List Nat}
/-- block b holds the same in both stores -/
def AgB (gd : Nat → Option qBI) (s s' : qSg) (b : Nat) : Prop := ∀ x, gd b = some x → ∀ i, 0 ≤ i → i < x.2.1 * x.2.2.1 → s b i = s' b i
/-- the instruction reads no block but those of B -/
def okF (gd : Nat → Option qBI) (B : List Nat) (d : qD) : Bool := okD gd d && match d.1 with
  | 24 => B.contains d.2.2.1.toNat
  | 28 => B.contains d.2.1.toNat
  | _ => true
def GdP (gd : Nat → Option qBI) : Prop := ∀ b x, gd b = some x → 0 < x.2.1 ∧ 0 < x.2.2.1
theorem zD_ag (hp : GdP gd) (hB : ∀ b ∈ B, AgB gd s s' b) {d : qD} (hk : okF gd B d = true) (ls : qLS) (st : List qV) : zD gd cl s d ls st = zD gd cl s' d ls st := by
  obtain ⟨op, a, b, c⟩ := d
  unfold okF at hk
  rw [Bool.and_eq_true] at hk
  obtain ⟨ho, hk⟩ := hk
  by_cases h24 : op = 24
  · subst h24
    have hm : b.toNat ∈ B := List.contains_iff_mem.mp hk
    show (match st, gd b.toNat with | _ :: st', some x => some (ls, (x.2.2.2.1, cnv x.2.2.2.1 (s b.toNat 0)) :: st') | _, _ => none) = (match st, gd b.toNat with | _ :: st', some x => some (ls, (x.2.2.2.1, cnv x.2.2.2.1 (s' b.toNat 0)) :: st') | _, _ => none)
    cases st with
    | nil => rfl
    | cons v st =>
      cases e : gd b.toNat with
      | none => rfl
      | some x =>
        obtain ⟨p1, p2⟩ := hp _ _ e
        have := hB _ hm x e 0 (by omega) (Int.mul_pos p1 p2)
        show some (ls, (x.2.2.2.1, cnv x.2.2.2.1 (s b.toNat 0)) :: st) = some (ls, (x.2.2.2.1, cnv x.2.2.2.1 (s' b.toNat 0)) :: st)
        rw [this]
  by_cases h28 : op = 28
  · subst h28
    have hm : a.toNat ∈ B := List.contains_iff_mem.mp hk
    show (match st, gd a.toNat with | i :: f :: st', some x => (if 0 ≤ i.2 ∧ i.2 < x.2.2.1 ∧ 0 ≤ (f.2 - x.1) / 2 ∧ (f.2 - x.1) / 2 < x.2.1 then some (ls, (x.2.2.2.1, cnv x.2.2.2.1 (s a.toNat (x.2.2.1 * ((f.2 - x.1) / 2) + i.2))) :: st') else none) | _, _ => none) = (match st, gd a.toNat with | i :: f :: st', some x => (if 0 ≤ i.2 ∧ i.2 < x.2.2.1 ∧ 0 ≤ (f.2 - x.1) / 2 ∧ (f.2 - x.1) / 2 < x.2.1 then some (ls, (x.2.2.2.1, cnv x.2.2.2.1 (s' a.toNat (x.2.2.1 * ((f.2 - x.1) / 2) + i.2))) :: st') else none) | _, _ => none)
    match st with
    | [] => rfl
    | [v] => rfl
    | i :: f :: st =>
      cases e : gd a.toNat with
      | none => rfl
      | some x =>
        show (if 0 ≤ i.2 ∧ i.2 < x.2.2.1 ∧ 0 ≤ (f.2 - x.1) / 2 ∧ (f.2 - x.1) / 2 < x.2.1 then some (ls, (x.2.2.2.1, cnv x.2.2.2.1 (s a.toNat (x.2.2.1 * ((f.2 - x.1) / 2) + i.2))) :: st) else none) = (if 0 ≤ i.2 ∧ i.2 < x.2.2.1 ∧ 0 ≤ (f.2 - x.1) / 2 ∧ (f.2 - x.1) / 2 < x.2.1 then some (ls, (x.2.2.2.1, cnv x.2.2.2.1 (s' a.toNat (x.2.2.1 * ((f.2 - x.1) / 2) + i.2))) :: st) else none)
        by_cases h : 0 ≤ i.2 ∧ i.2 < x.2.2.1 ∧ 0 ≤ (f.2 - x.1) / 2 ∧ (f.2 - x.1) / 2 < x.2.1
        · rw [if_pos h, if_pos h]
          obtain ⟨h1, h2, h3, h4⟩ := h
          have m1 : 0 ≤ x.2.2.1 * ((f.2 - x.1) / 2) := Int.mul_nonneg (by omega) h3
          have m2 : x.2.2.1 * ((f.2 - x.1) / 2 + 1) ≤ x.2.2.1 * x.2.1 := Int.mul_le_mul_of_nonneg_left (by omega) (by omega)
          rw [Int.mul_add, Int.mul_one, Int.mul_comm x.2.2.1 x.2.1] at m2
          rw [hB _ hm x e _ (by omega) (by omega)]
        · rw [if_neg h, if_neg h]
  match op, ho with
  | 0, _ => rfl
  | 1, _ => rfl
  | 3, _ => rfl
  | 4, _ => rfl
  | 5, _ => rfl
  | 14, _ => rfl
  | 15, _ => rfl
  | 16, _ => rfl
  | 18, _ => rfl
  | 21, _ => rfl
  | 22, _ => rfl
  | 23, _ => rfl
  | 24, _ => exact absurd rfl h24
  | 25, _ => rfl
  | 28, _ => exact absurd rfl h28
  | 33, _ => rfl
  | 34, _ => rfl
  | 35, _ => rfl
  | 36, _ => rfl
  | 37, _ => rfl
  | 38, _ => rfl
  | 40, _ => rfl
theorem zB_ag (hp : GdP gd) (hB : ∀ b ∈ B, AgB gd s s' b) : ∀ (ds : List qD), ds.all (okF gd B) = true → ∀ (ls : qLS) (st : List qV), zB gd cl s ds ls st = zB gd cl s' ds ls st
  | [], _, _, _ => rfl
  | d :: ds, hk, ls, st => by
    rw [List.all_cons, Bool.and_eq_true] at hk
    show (match zD gd cl s d ls st with | some p => zB gd cl s ds p.1 p.2 | none => none) = (match zD gd cl s' d ls st with | some p => zB gd cl s' ds p.1 p.2 | none => none)
    rw [zD_ag hp hB hk.1]
    cases zD gd cl s' d ls st with
    | none => rfl
    | some p => exact zB_ag hp hB ds hk.2 p.1 p.2
theorem zEv_ag (hp : GdP gd) (hB : ∀ b ∈ B, AgB gd s s' b) {code : qCd} (hk : code.all (fun x => x.1.all (okF gd B)) = true) : ∀ (n b : Nat) (ls : qLS) (st : List qV), zEv gd cl s code n b ls st = zEv gd cl s' code n b ls st
  | 0, _, _, _ => rfl
  | n + 1, b, ls, st => by
    cases e : code[b]? with
    | none =>
      show (match code[b]? with
        | some blk => match zB gd cl s blk.1 ls st with
          | some p => match zN blk.2 p.2 with
            | some (.inl q) => zEv gd cl s code n q.1 p.1 q.2
            | some (.inr v) => some v
            | none => none
          | none => none
        | none => none) = (match code[b]? with
        | some blk => match zB gd cl s' blk.1 ls st with
          | some p => match zN blk.2 p.2 with
            | some (.inl q) => zEv gd cl s' code n q.1 p.1 q.2
            | some (.inr v) => some v
            | none => none
          | none => none
        | none => none)
      rw [e]
    | some blk =>
      rw [zEv_s e, zEv_s e, zB_ag hp hB blk.1 (List.all_eq_true.mp hk blk (List.mem_of_getElem? e))]
      cases zB gd cl s' blk.1 ls st with
      | none => rfl
      | some p =>
        show (match zN blk.2 p.2 with
          | some (.inl q) => zEv gd cl s code n q.1 p.1 q.2
          | some (.inr v) => some v
          | none => none) = (match zN blk.2 p.2 with
          | some (.inl q) => zEv gd cl s' code n q.1 p.1 q.2
          | some (.inr v) => some v
          | none => none)
        cases zN blk.2 p.2 with
        | none => rfl
        | some w =>
          cases w with
          | inl q => exact zEv_ag hp hB hk n q.1 p.1 q.2
          | inr v => rfl
theorem zRun_ag (hp : GdP gd) (hB : ∀ b ∈ B, AgB gd s s' b) {code : qCd} (hk : code.all (fun x => x.1.all (okF gd B)) = true) (as : List qV) : zRun gd cl s code as = zRun gd cl s' code as := by
  cases e : zRun gd cl s' code as with
  | some v =>
    obtain ⟨n, h⟩ := zRun_ex e
    exact zRun_of (n := n) (by rw [zEv_ag hp hB hk]; exact h)
  | none =>
    cases e2 : zRun gd cl s code as with
    | none => rfl
    | some v =>
      obtain ⟨n, h⟩ := zRun_ex e2
      have := zRun_of (n := n) (gd := gd) (cl := cl) (s := s') (code := code) (as := as) (v := v) (by rw [← zEv_ag hp hB hk]; exact h)
      rw [e] at this; cases this
theorem zRun_cn {code : qCd} {as bs : List qV} (h : as.map cnV = bs.map cnV) : zRun gd cl s code as = zRun gd cl s code bs := by
  unfold zRun
  rw [h]
end
/-- an exit with one piece more -/
def exQ (y : Nat × (List Nat × List qL)) (x x' : qS) : Prop := ∃ qf : List (Nat × (List Nat × List qL)), x' = (x.1, x.2.1, x.2.2.1, x.2.2.2.1, x.2.2.2.2.1, x.2.2.2.2.2.1, x.2.2.2.2.2.2.1, x.2.2.2.2.2.2.2.1, x.2.2.2.2.2.2.2.2.1, x.2.2.2.2.2.2.2.2.2.1, qf) ∧ (∀ z ∈ qf, z ∈ x.2.2.2.2.2.2.2.2.2.2 ∨ z = y) ∧ y ∈ qf
section
variable {g : qG} {s s' : qSg} {y : Nat × (List Nat × List qL)} {x x' : qS} {r : qW} {a : qX} {ls : qLS} {st : List qV}
theorem exQ_sat (h : exQ y x x') (hS : Sat gh0 g x r a ls st s) (hy : ∀ r' a', agr x.2.2.2 r r' a a' → SatC g x r' a' ls st s → PQ y.1 (y.2.1.map a') (y.2.2.map (qe r'))) : Sat gh0 g x' r a ls st s := by
  obtain ⟨qf, rfl, h1, -⟩ := h
  refine ⟨Gh.triv _ _ _, fun r' a' hg => ?_⟩
  have C := hS.2 r' a' hg
  obtain ⟨c1, c2, c3, c4, k1, k2, k3, k4, k5, k6⟩ := C
  refine ⟨c1, c2, c3, c4, k1, k2, k3, k4, k5, fun z hz => ?_⟩
  rcases h1 z hz with hz | rfl
  · exact k6 z hz
  · exact hy r' a' hg (hS.2 r' a' hg)
theorem exQ_get (h : exQ y x x') (hS : Sat gh0 g x' r a ls st s) : st = x.2.1.map (qden r) ∧ PQ y.1 (y.2.1.map a) (y.2.2.map (qe r)) := by
  obtain ⟨qf, rfl, -, h2⟩ := h
  obtain ⟨c1, c2, c3, c4, k1, k2, k3, k4, k5, k6⟩ := hS.now
  exact ⟨c2, k6 y h2⟩
end
/-- the ends of a contract, and the same with the answer said -/
def exO (p : Nat) (vs : List Nat) (zi : List qL) (t nv nx : Nat) (x x' : qS) : Prop := ∃ f, x.2.1 = [(t, f, qC 0)] ∧ exQ (p, vs, zi ++ [f]) x x' ∧ nv ≤ x.2.2.2.1 ∧ nx ≤ x.2.2.2.2.2.2.1
def exL (p : Nat) (vs : List Nat) (zi : List qL) (t nv nx : Nat) : List qS → List qS → Prop
  | [], [] => True
  | x :: l, x' :: l' => exO p vs zi t nv nx x x' ∧ exL p vs zi t nv nx l l'
  | _, _ => False
theorem exL_l {p t nv nx : Nat} {vs : List Nat} {zi : List qL} : ∀ {l l' : List qS}, exL p vs zi t nv nx l l' → ∀ {x}, x ∈ l → ∃ x' ∈ l', exO p vs zi t nv nx x x'
  | [], _, _, x, hx => by cases hx
  | y :: l, [], h, x, hx => False.elim h
  | y :: l, y' :: l', h, x, hx => by
    rcases List.mem_cons.mp hx with rfl | hx
    · exact ⟨y', List.mem_cons_self, h.1⟩
    · obtain ⟨x', h1, h2⟩ := exL_l h.2 hx
      exact ⟨x', List.mem_cons_of_mem _ h1, h2⟩
theorem exL_r {p t nv nx : Nat} {vs : List Nat} {zi : List qL} : ∀ {l l' : List qS}, exL p vs zi t nv nx l l' → ∀ {x'}, x' ∈ l' → ∃ x ∈ l, exO p vs zi t nv nx x x'
  | _, [], _, x, hx => by cases hx
  | [], y :: l, h, x, hx => False.elim h
  | y :: l, y' :: l', h, x, hx => by
    rcases List.mem_cons.mp hx with rfl | hx
    · exact ⟨y, List.mem_cons_self, h.1⟩
    · obtain ⟨x', h1, h2⟩ := exL_r h.2 hx
      exact ⟨x', List.mem_cons_of_mem _ h1, h2⟩
/-- a contract that says the answer holds where the same contract without it does, and the answer is what is said -/
theorem detC_of {g : qG} {s : qSg} {C Cd : qCt} {p t : Nat} {vs : List Nat} {zi : List qL} {f : List qV → Option qV} (h1 : C.1 = Cd.1) (h2 : C.2.1 = Cd.2.1) (h3 : C.2.2.2 = [])
    (hx : exL p vs zi t Cd.2.1.2.2.2.1 Cd.2.1.2.2.2.2.2.2.1 Cd.2.2.1 C.2.2.1) (ht : t ≠ 3) (hz : zall (zwl Cd.2.1.2.2.2.1) zi = true) (hv : zall (fun v => Nat.blt v Cd.2.1.2.2.2.2.2.2.1) vs = true)
    (hP : ∀ (fs : List (Int → Int)) (zs : List Int) (z : Int), fs.length = vs.length → zs.length = zi.length → (PQ p fs (zs ++ [z]) ↔ dEv p fs zs = some z))
    (hb : ∀ as r a, CtBeg g Cd as s r a → Typed g s → ∃ v, f (as.map cnV) = some v ∧ cnV v = v ∧ CtEnd g Cd r a s [v] s)
    (hE : ∀ as r a v, CtBeg g Cd as s r a → Typed g s → f (as.map cnV) = some v → dEv p (vs.map a) (zi.map (qe r)) = some v.2) : DetC g C s f := by
  intro as r a hB hT
  have hB' : CtBeg g Cd as s r a := by
    unfold CtBeg at hB ⊢
    rw [← h1, ← h2]; exact hB
  obtain ⟨v, e1, e2, e3⟩ := hb as r a hB' hT
  have key := hE as r a v hB' hT e1
  have vz : ∀ r' : qW, (∀ u, u < Cd.2.1.2.2.2.1 → r' u = r u) → zi.map (qe r') = zi.map (qe r) := fun r' hr => List.map_congr_left (fun y hy => zwl_ok hr (zall_ok _ hz y hy))
  have va : ∀ a' : qX, (∀ u, u < Cd.2.1.2.2.2.2.2.2.1 → a' u = a u) → vs.map a' = vs.map a := fun a' ha => List.map_congr_left (fun y hy => ha y (blt_t (zall_ok _ hv y hy)))
  obtain ⟨t1, -, x, hx1, r', a', r1, a1, hS⟩ := e3
  obtain ⟨x', hx', w, w1, w2, w3, w4⟩ := exL_l hx hx1
  have tag : ∀ r'' a'', SatC g x r'' a'' [] [v] s → v = (t, qe r'' w) := fun r'' a'' hC => by
    have q := hC.2.1
    rw [w1, List.map_cons, List.map_nil, den_i r'' _ _ _ ht] at q
    exact (List.cons.inj q).1
  refine ⟨v, e1, e2, ?_, ?_⟩
  · refine ⟨t1, fun b _ => rfl, x', hx', r', a', by rw [h2]; exact r1, by rw [h2]; exact a1, exQ_sat w2 hS (fun r'' a'' hg hC => ?_)⟩
    show PQ p (vs.map a'') ((zi ++ [w]).map (qe r''))
    rw [List.map_append, List.map_cons, List.map_nil, vz r'' (fun u hu => (hg.1 u (Nat.lt_of_lt_of_le hu w3)).trans (r1 u hu)), va a'' (fun u hu => (hg.2 u (Nat.lt_of_lt_of_le hu w4)).trans (a1 u hu))]
    refine (hP _ _ _ (by rw [List.length_map]) (by rw [List.length_map])).mpr ?_
    rw [key, tag r'' a'' hC]
  · rintro res s' ⟨-, t2, z', hz', r2, a2, r3, a3, hS2⟩
    obtain ⟨z, -, w', u1, u2, -, -⟩ := exL_r hx hz'
    obtain ⟨g1, g2⟩ := exQ_get u2 hS2
    rw [u1, List.map_cons, List.map_nil, den_i r2 _ _ _ ht] at g1
    rw [h2] at r3 a3
    have g2 : PQ p (vs.map a2) ((zi ++ [w']).map (qe r2)) := g2
    rw [List.map_append, List.map_cons, List.map_nil, vz r2 r3, va a2 a3] at g2
    have g3 := (hP _ _ _ (by rw [List.length_map]) (by rw [List.length_map])).mp g2
    rw [key] at g3
    have g4 : v.2 = qe r2 w' := Option.some.inj g3
    refine ⟨?_, funext fun b => t2 b (by rw [h3]; exact List.not_mem_nil)⟩
    rw [g1, ← g4]
    have q := tag r' a' hS.now
    rw [q]
