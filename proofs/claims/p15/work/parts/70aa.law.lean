/-! SEGMENTS: what a stretch of rows computes, said of the reading -/
theorem HS.comp {V : rPr} {pc pc1 pc2 : Nat} {h1 h2 : rK → rK} (H1 : HS V pc pc1 h1) (H2 : HS V pc1 pc2 h2) : HS V pc pc2 (fun k => h1 (h2 k)) := by
  intro k ls st w n c o e
  obtain ⟨ls1, st1, w1, n1, c1, e1, a1, a2, a3⟩ := H1 (h2 k) ls st w n c o e
  obtain ⟨ls2, st2, w2, n2, c2, e2, b1, b2, b3⟩ := H2 k ls1 st1 w1 n1 c1 o e1
  exact ⟨ls2, st2, w2, n2, c2, e2, Nat.le_trans a1 b1, Nat.le_trans a2 b2, fun x y z => a3 (Nat.le_trans b1 x) (Nat.le_trans b2 y) (b3 x y z)⟩
theorem HS.seg {V : rPr} {pc pc' : Nat} {h : rK → rK} (H : HS V pc pc' h) {o : rOut} {ls ls' : rLs} {st st' : List rCV} {w w' : rWd} {n n' c c' : Nat} (e : (fun k : rK => h k ls st w n c) = fun k => k ls' st' w' n' c') (hn : n' ≤ o.2.2.1) (hc : c' ≤ o.2.2.2) (hV : V o pc' ls' st' w' n' c') : V o pc ls st w n c := by
  classical
  obtain ⟨ls2, st2, w2, n2, c2, e2, -, -, hV2⟩ := H (fun L S W N C => if L = ls' ∧ S = st' ∧ W = w' ∧ N = n' ∧ C = c' then some o else none) ls st w n c o (by
    have := congrFun e (fun L S W N C => if L = ls' ∧ S = st' ∧ W = w' ∧ N = n' ∧ C = c' then some o else none)
    exact this.trans (if_pos ⟨rfl, rfl, rfl, rfl, rfl⟩))
  have e2 : (if ls2 = ls' ∧ st2 = st' ∧ w2 = w' ∧ n2 = n' ∧ c2 = c' then some o else none) = some o := e2
  by_cases q : ls2 = ls' ∧ st2 = st' ∧ w2 = w' ∧ n2 = n' ∧ c2 = c'
  · obtain ⟨rfl, rfl, rfl, rfl, rfl⟩ := q
    exact hV2 hn hc hV
  · rw [if_neg q] at e2; cases e2
theorem BS.seg {V : rPr} {pcs : List Nat} {pc b pb : Nat} {t : rBl} (H : BS V pcs pc t) {o : rOut} {ls ls' : rLs} {st st' : List rCV} {w w' : rWd} {n n' c c' : Nat} (e : (fun J : Nat → rK => t J ls st w n c) = fun J => J b ls' st' w' n' c') (hb : pcs[b]? = some pb) (hn : n' ≤ o.2.2.1) (hc : c' ≤ o.2.2.2) (hV : V o pb ls' st' w' n' c') : V o pc ls st w n c := by
  classical
  refine (H (fun b1 L S W N C => if b1 = b ∧ L = ls' ∧ S = st' ∧ W = w' ∧ N = n' ∧ C = c' ∧ True then some o else none) (fun b1 pb1 hb1 L S W N C o1 e1 => ?_) ls st w n c o ?_).2
  · have e1 : (if b1 = b ∧ L = ls' ∧ S = st' ∧ W = w' ∧ N = n' ∧ C = c' ∧ True then some o else none) = some o1 := e1
    by_cases q : b1 = b ∧ L = ls' ∧ S = st' ∧ W = w' ∧ N = n' ∧ C = c' ∧ True
    · rw [if_pos q] at e1
      cases e1
      obtain ⟨rfl, rfl, rfl, rfl, rfl, rfl, -⟩ := q
      cases Option.some.inj (hb1.symm.trans hb)
      exact ⟨⟨hn, hc⟩, hV⟩
    · rw [if_neg q] at e1; cases e1
  · have := congrFun e (fun b1 L S W N C => if b1 = b ∧ L = ls' ∧ S = st' ∧ W = w' ∧ N = n' ∧ C = c' ∧ True then some o else none)
    exact this.trans (if_pos ⟨rfl, rfl, rfl, rfl, rfl, rfl, trivial⟩)
theorem rArg_back {β : Type} {k : List rCV → List rCV → Option β} : ∀ (bs as st : List rCV), (Nat.rec (motive := fun _ => List rCV → List rCV → Option β) (fun as st => k as st) (fun _ ih as st => rP st (fun v st => ih (v :: as) st)) bs.length as (bs ++ st)) = k (bs.reverse ++ as) st
  | [], as, st => rfl
  | v :: bs, as, st => by
    rw [List.reverse_cons, List.append_assoc]
    exact rArg_back bs (v :: as) st
theorem rArg_rev {β : Type} {k : List rCV → List rCV → Option β} {m : Nat} (as st : List rCV) (h : as.length = m) : rArg m (as.reverse ++ st) k = k as st := by
  have := rArg_back (k := k) as.reverse [] st
  rw [List.reverse_reverse, List.append_nil, List.length_reverse, h] at this
  exact this
/-- what a call's run tells, no more than q.2 -/
theorem HS.call {V : rPr} {pc pc' na : Nat} {ok : List rCV → rWd → Nat → Option Unit} {F : rEv} (H : HS V pc pc' (h_call na ok F)) {o : rOut} (hless : ∀ {w w' : rWd} {ls : rLs} {st : List rCV} {n c : Nat}, (∀ i x, wGet i w' = some x → wGet i w = some x) → V o pc' ls st w' n c → V o pc' ls st w n c) (q : rMe) (st : List rCV) (ls : rLs) (c : Nat) (hq : rM1 F q = true) (hlen : q.1.1.length = na) (hs : rSum st ≤ 8) (hok : ok q.1.1 q.1.2.1 q.1.2.2 = some ()) (hn : q.2.2.2.1 ≤ o.2.2.1) (hc : c + q.2.2.2.2 ≤ o.2.2.2) (hV : V o pc' ls (q.2.1.toList ++ st) q.2.2.1 q.2.2.2.1 (c + q.2.2.2.2)) : V o pc ls (q.1.1.reverse ++ st) q.1.2.1 q.1.2.2 c := by
  have h2 : (Option.rec false (fun o' => rWk o' q.2) (F q.1.1 q.1.2.1 q.1.2.2) : Bool) = true := hq
  cases e : F q.1.1 q.1.2.1 q.1.2.2 with
  | none => rw [e] at h2; cases h2
  | some o1 =>
    rw [e] at h2
    obtain ⟨e1, e2, e3, e4⟩ := rWk_e h2
    refine HS.seg (ls' := ls) (st' := o1.1.toList ++ st) (w' := o1.2.1) (n' := o1.2.2.1) (c' := c + o1.2.2.2) H (funext fun k => ?_) (by rw [e2]; exact hn) (by rw [e3]; exact hc) ?_
    · show rArg na (q.1.1.reverse ++ st) _ = _
      rw [rArg_rev _ _ hlen]
      show rB (Nat.ble (rSum st) 8) (Option.rec none (fun _ => rRes (F q.1.1 q.1.2.1 q.1.2.2) (fun v w n ms => rN (Nat.add c ms) (fun c => Option.rec (k ls st w n c) (fun v => k ls (v :: st) w n c) v))) (ok q.1.1 q.1.2.1 q.1.2.2)) none = _
      rw [hok, e, Nat.ble_eq.mpr hs]
      show rN (Nat.add c o1.2.2.2) (fun c => Option.rec (motive := fun _ => Option rOut) (k ls st o1.2.1 o1.2.2.1 c) (fun v => k ls (v :: st) o1.2.1 o1.2.2.1 c) o1.1) = _
      rw [rN_eq]
      cases o1.1 <;> rfl
    · rw [e1, e2, e3]
      exact hless e4 hV
/-- a run that doesn't look at one int: a method with its object and an int -/
noncomputable def rSy (x v : rCV) (w0 : rWd) : rEv := fun as w n => rP as (fun y as => rP as (fun z as => List.rec (rI z (fun _ => rB (qqV y x) (rB (qqW w w0) (some (some v, (w0, (n, 0)))) none) none)) (fun _ _ _ => none) as))
theorem met_sy {cl : List vw_C} {fo : List rCC} {zs : List (String × String × String × rCV)} {rs : List (String × Nat × String × Nat)} {ns : List Cond} {Ts : List Cond} {l : Launch} {y : MethodName} {bytes : ByteArray} {maxL : Nat} {ret : Option FieldType} {fr lo : Nat} {F : rEv} (hF : rMet cl fo zs rs ns Ts l y bytes maxL ret fr lo F) {x : rCV} {v : Nat} {w0 : rWd} (h : ∀ a n, ∃ z, nI z = nI v ∧ F [x, .inl a] w0 n = some (some (.inl z), (w0, (n, 0)))) : rMet cl fo zs rs ns Ts l y bytes maxL ret fr lo (rSy x (.inl v) w0) := by
  intro G as w n o e0
  obtain ⟨y1, as1, rfl, h1⟩ := rP_some e0
  obtain ⟨z1, as2, rfl, h2⟩ := rP_some h1
  cases as2 with
  | cons a b => cases h2
  | nil =>
    obtain ⟨a, rfl, h3⟩ := rI_some h2
    obtain ⟨h4, h5⟩ := rB_yes h3
    obtain ⟨h6, h7⟩ := rB_yes h5
    have e1 := qV_e _ _ h4
    have e2 := qW_e _ _ h6
    subst e1; subst e2
    cases h7
    obtain ⟨z, hz, hFz⟩ := h a n
    obtain ⟨g1, g2⟩ := hF G _ _ _ _ hFz
    refine ⟨Nat.le_refl _, g2.weak fun a1 st oc t hq => ?_⟩
    obtain ⟨q1, q2, q3⟩ := hq
    refine ⟨?_, q2, q3⟩
    rw [q1]
    show Outcome.returned (some (.int (nI z))) = .returned (some (.int (nI v)))
    rw [hz]
/-- .. an object and two ints -/
noncomputable def rSy2 (x v : rCV) (w0 : rWd) : rEv := fun as w n => rP as (fun y as => rP as (fun z as => rP as (fun z2 as => List.rec (rI z (fun _ => rI z2 (fun _ => rB (qqV y x) (rB (qqW w w0) (some (some v, (w0, (n, 0)))) none) none))) (fun _ _ _ => none) as)))
theorem met_sy2 {cl : List vw_C} {fo : List rCC} {zs : List (String × String × String × rCV)} {rs : List (String × Nat × String × Nat)} {ns : List Cond} {Ts : List Cond} {l : Launch} {y : MethodName} {bytes : ByteArray} {maxL : Nat} {ret : Option FieldType} {fr lo : Nat} {F : rEv} (hF : rMet cl fo zs rs ns Ts l y bytes maxL ret fr lo F) {x : rCV} {v : Nat} {w0 : rWd} (h : ∀ a b n, ∃ z, nI z = nI v ∧ F [x, .inl a, .inl b] w0 n = some (some (.inl z), (w0, (n, 0)))) : rMet cl fo zs rs ns Ts l y bytes maxL ret fr lo (rSy2 x (.inl v) w0) := by
  intro G as w n o e0
  obtain ⟨y1, as1, rfl, h1⟩ := rP_some e0
  obtain ⟨z1, as2, rfl, h2⟩ := rP_some h1
  obtain ⟨z2, as3, rfl, h21⟩ := rP_some h2
  cases as3 with
  | cons a b => cases h21
  | nil =>
    obtain ⟨a, rfl, h3⟩ := rI_some h21
    obtain ⟨b, rfl, h31⟩ := rI_some h3
    obtain ⟨h4, h5⟩ := rB_yes h31
    obtain ⟨h6, h7⟩ := rB_yes h5
    have e1 := qV_e _ _ h4
    have e2 := qW_e _ _ h6
    subst e1; subst e2
    cases h7
    obtain ⟨z, hz, hFz⟩ := h a b n
    obtain ⟨g1, g2⟩ := hF G _ _ _ _ hFz
    refine ⟨Nat.le_refl _, g2.weak fun a1 st oc t hq => ?_⟩
    obtain ⟨q1, q2, q3⟩ := hq
    refine ⟨?_, q2, q3⟩
    rw [q1]
    show Outcome.returned (some (.int (nI z))) = .returned (some (.int (nI v)))
    rw [hz]
