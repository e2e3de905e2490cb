/-! ROWS: switches -/
section KR
variable {g : qG} {L : kLay} {cl : List vw_C} {fo : List rCC} {zs : List (String × String × String × rCV)} {rs : List (String × Nat × String × Nat)} {ns : List Cond} {Ts : List Cond} {G : rGm}
variable {l : Launch} {cc : ByteArray} {nL n : Nat} {own : String} {pc : Nat} {ret : Option FieldType} {fr lo9 : Nat} {Qf : kQf}
variable {Rr : List qV → qSg → Prop}
theorem ofI_to {z : Int} (h : in32 z) : (Int32.ofInt z).toInt = z := by
  obtain ⟨h1, h2⟩ := h
  exact Int32.toInt_ofInt_of_le (by omega) (by omega)
def tbOk (pc : Nat) (pcs : List Nat) (lo : Int) (offs : List Int) (tb : List (Int × Nat)) : Bool := match offs, tb with
  | [], [] => true
  | o :: offs, x :: tb => decide (x.1 = lo) && decide (some ((pc : Int) + o) = (pcs[x.2]?).map (fun z : Nat => (z : Int))) && tbOk pc pcs (lo + 1) offs tb
  | _, _ => false
theorem tbOk_at {pc : Nat} {pcs : List Nat} : ∀ (offs : List Int) (lo : Int) (tb : List (Int × Nat)), tbOk pc pcs lo offs tb = true → (∀ (i : Nat) (o : Int), offs[i]? = some o → ∃ (b t : Nat), (lo + i, b) ∈ tb ∧ pcs[b]? = some t ∧ (pc : Int) + o = (t : Int)) ∧ ∀ x ∈ tb, lo ≤ x.1 ∧ x.1 < lo + offs.length
  | [], lo, [], h => ⟨(fun i o h => nomatch h), (fun x hx => nomatch hx)⟩
  | [], lo, x :: tb, h => by cases h
  | o :: offs, lo, [], h => by cases h
  | o :: offs, lo, x :: tb, h => by
    have h' : (decide (x.1 = lo) && decide (some ((pc : Int) + o) = (pcs[x.2]?).map (fun z : Nat => (z : Int))) && tbOk pc pcs (lo + 1) offs tb) = true := h
    rw [Bool.and_eq_true, Bool.and_eq_true] at h'
    obtain ⟨⟨h1, h2⟩, h3⟩ := h'
    have h1 := of_decide_eq_true h1
    have h2 := of_decide_eq_true h2
    obtain ⟨g1, g2⟩ := tbOk_at offs (lo + 1) tb h3
    refine ⟨fun i o' hi => ?_, fun y hy => ?_⟩
    · cases i with
      | zero =>
        cases hi
        cases e : pcs[x.2]? with
        | none => rw [e] at h2; cases h2
        | some t =>
          rw [e] at h2
          refine ⟨x.2, t, ?_, e, Option.some.inj h2⟩
          rw [show lo + ((0 : Nat) : Int) = x.1 by omega]
          exact List.mem_cons_self
      | succ i =>
        obtain ⟨b, t, e1, e2, e3⟩ := g1 i o' hi
        refine ⟨b, t, ?_, e2, e3⟩
        rw [show lo + ((i + 1 : Nat) : Int) = lo + 1 + (i : Int) by omega]
        exact List.mem_cons_of_mem _ e1
    · rw [List.length_cons]
      rcases List.mem_cons.mp hy with rfl | hy
      · omega
      · have := g2 y hy; omega
theorem k_table {dflt lo hi : Int} {offs : Array Int} {len : Nat} (V : Nat → qP) (pcs : List Nat) (hVp : ∀ (b t : Nat), pcs[b]? = some t → ∀ ls st s, V b ls st s → kW g L cl fo zs rs ns Ts G l cc nL own ret fr lo9 n Qf t ls st s) {tb : List (Int × Nat)} {d j k t0 : Nat} (hd : decode cc pc = .ok (.tableswitch dflt lo hi offs, len)) (hsz : (offs.toList.length : Int) = hi - lo + 1) (htb : tbOk pc pcs lo offs.toList tb = true) (hdf : pcs[d]? = some t0) (hdf2 : (pc : Int) + dflt = (t0 : Int)) :
    ∀ ls st s, wT V Rr (3, j, d, k, tb) ls st s → kW g L cl fo zs rs ns Ts G l cc nL own ret fr lo9 n Qf pc ls st s := by
  rintro ls st s ⟨a, st', rfl, ha, h1, h2⟩ p e R s0 m args below meth c X hq9 rl H locs hl hP hL
  obtain ⟨q1, q2⟩ := tbOk_at _ _ _ htb
  have h1 : ∀ x ∈ tb, a = x.1 → V x.2 ls st' s := h1
  have h2 : (∀ x ∈ tb, a ≠ x.1) → V d ls st' s := h2
  rw [List.map_cons, kv_i]
  have hto := ofI_to ha
  by_cases hout : a < lo ∨ hi < a
  · refine lv_tableOut X.1 X.2.1 hd (by rw [hto]; exact hout) hdf2 ?_
    exact hVp d t0 hdf ls st' s (h2 fun x hx he => by
      have := q2 x hx
      omega) p e R s0 m args below meth c X hq9 rl H locs hl hP hL
  · have hi1 : (a - lo).toNat < offs.toList.length := by omega
    obtain ⟨b, t, e1, e2, e3⟩ := q1 (a - lo).toNat _ (List.getElem?_eq_getElem hi1)
    refine lv_tableIn X.1 X.2.1 hd (by rw [hto]; omega) (by rw [hto]; omega) (off := offs.toList[(a - lo).toNat]) (by rw [hto, ← Array.getElem?_toList]; exact List.getElem?_eq_getElem hi1) e3 ?_
    exact hVp b t e2 ls st' s (h1 _ e1 (by show a = lo + ((a - lo).toNat : Int); omega)) p e R s0 m args below meth c X hq9 rl H locs hl hP hL
def luOk (pc : Nat) (pcs : List Nat) (ps : List (Int × Int)) (tb : List (Int × Nat)) : Bool := match ps, tb with
  | [], [] => true
  | o :: ps, x :: tb => decide (x.1 = o.1) && decide (some ((pc : Int) + o.2) = (pcs[x.2]?).map (fun z : Nat => (z : Int))) && luOk pc pcs ps tb
  | _, _ => false
theorem luOk_at {pc : Nat} {pcs : List Nat} {dflt a : Int} : ∀ (ps : List (Int × Int)) (tb : List (Int × Nat)), luOk pc pcs ps tb = true → (∃ b t, (a, b) ∈ tb ∧ pcs[b]? = some t ∧ (pc : Int) + Op.lookupswitch.offset ps dflt a = (t : Int)) ∨ ((∀ x ∈ tb, a ≠ x.1) ∧ Op.lookupswitch.offset ps dflt a = dflt)
  | [], [], h => Or.inr ⟨(fun x hx => nomatch hx), rfl⟩
  | [], x :: tb, h => by cases h
  | o :: ps, [], h => by cases h
  | o :: ps, x :: tb, h => by
    have h' : (decide (x.1 = o.1) && decide (some ((pc : Int) + o.2) = (pcs[x.2]?).map (fun z : Nat => (z : Int))) && luOk pc pcs ps tb) = true := h
    rw [Bool.and_eq_true, Bool.and_eq_true] at h'
    obtain ⟨⟨h1, h2⟩, h3⟩ := h'
    have h1 := of_decide_eq_true h1
    have h2 := of_decide_eq_true h2
    obtain ⟨o1, o2⟩ := o
    rw [Op.lookupswitch.offset_cons]
    by_cases c : o1 = a
    · rw [if_pos c]
      left
      cases e : pcs[x.2]? with
      | none => rw [e] at h2; cases h2
      | some t =>
        rw [e] at h2
        refine ⟨x.2, t, ?_, e, Option.some.inj h2⟩
        have h1 : x.1 = o1 := h1
        rw [← c, ← h1]
        exact List.mem_cons_self
    · rw [if_neg c]
      rcases luOk_at ps tb h3 with ⟨b, t, e1, e2, e3⟩ | ⟨e1, e2⟩
      · exact Or.inl ⟨b, t, List.mem_cons_of_mem _ e1, e2, e3⟩
      · refine Or.inr ⟨fun y hy => ?_, e2⟩
        rcases List.mem_cons.mp hy with rfl | hy
        · have h1 : y.1 = o1 := h1
          rw [h1]; exact fun q => c q.symm
        · exact e1 y hy
theorem k_look {dflt : Int} {ps : Array (Int × Int)} {len : Nat} (V : Nat → qP) (pcs : List Nat) (hVp : ∀ (b t : Nat), pcs[b]? = some t → ∀ ls st s, V b ls st s → kW g L cl fo zs rs ns Ts G l cc nL own ret fr lo9 n Qf t ls st s) {tb : List (Int × Nat)} {d j k t0 : Nat} (hd : decode cc pc = .ok (.lookupswitch dflt ps, len)) (hp : (ps.toList.zip (ps.toList.drop 1)).all (fun (a, next) => a.1 < next.1) = true) (htb : luOk pc pcs ps.toList tb = true) (hdf : pcs[d]? = some t0) (hdf2 : (pc : Int) + dflt = (t0 : Int)) :
    ∀ ls st s, wT V Rr (3, j, d, k, tb) ls st s → kW g L cl fo zs rs ns Ts G l cc nL own ret fr lo9 n Qf pc ls st s := by
  rintro ls st s ⟨a, st', rfl, ha, h1, h2⟩ p e R s0 m args below meth c X hq9 rl H locs hl hP hL
  have h1 : ∀ x ∈ tb, a = x.1 → V x.2 ls st' s := h1
  have h2 : (∀ x ∈ tb, a ≠ x.1) → V d ls st' s := h2
  rw [List.map_cons, kv_i]
  have hto := ofI_to ha
  rcases luOk_at (dflt := dflt) (a := a) _ _ htb with ⟨b, t, e1, e2, e3⟩ | ⟨e1, e2⟩
  · refine lv_lookup X.1 X.2.1 hd hp (by rw [hto]) e3 ?_
    exact hVp b t e2 ls st' s (h1 _ e1 rfl) p e R s0 m args below meth c X hq9 rl H locs hl hP hL
  · refine lv_lookup X.1 X.2.1 hd hp (by rw [hto, e2]) hdf2 ?_
    exact hVp d t0 hdf ls st' s (h2 e1) p e R s0 m args below meth c X hq9 rl H locs hl hP hL
end KR
