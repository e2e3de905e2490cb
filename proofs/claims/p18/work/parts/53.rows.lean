/-! ROWS: fields -/
/-- a layout whose things are apart -/
def LOk (L : kLay) : Prop :=
  (∀ x ∈ L.1, ∀ y ∈ L.1, x.1 = y.1 → x = y) ∧
  (∀ x ∈ L.1, ∀ y ∈ L.1, ∀ (i j b : Nat), x.2.2[i]? = some (.inl b) → y.2.2[j]? = some (.inl b) → x.1 = y.1 ∧ i = j) ∧
  (∀ x ∈ L.1, ∀ y ∈ L.2.1, ∀ w : Nat, w < y.2.2.2.1 → y.2.2.1 + w ≠ x.1) ∧
  (∀ x ∈ L.1, ∀ y ∈ L.2.2.1, y.1 ≠ x.1) ∧
  (∀ x ∈ L.1, ∀ (i b : Nat), x.2.2[i]? = some (.inl b) → (∀ y ∈ L.2.1, y.1 ≠ b) ∧ (∀ y ∈ L.2.2.2, y.1 ≠ b)) ∧
  (∀ x ∈ L.2.1, ∀ y ∈ L.2.1, x.1 = y.1 → x = y) ∧
  (∀ x ∈ L.2.1, ∀ y ∈ L.2.1, ∀ w v : Nat, w < x.2.2.2.1 → v < y.2.2.2.1 → x.2.2.1 + w = y.2.2.1 + v → x = y ∧ w = v) ∧
  (∀ x ∈ L.2.1, ∀ w : Nat, w < x.2.2.2.1 → ∀ y ∈ L.2.2.1, y.1 ≠ x.2.2.1 + w) ∧
  (∀ x ∈ L.2.1, ∀ y ∈ L.2.2.2, y.1 ≠ x.1) ∧
  (∀ x ∈ L.2.1, ∀ y ∈ L.1, ∀ (i : Nat), y.2.2[i]? = some (.inl x.1) → False)
theorem kv_ref (G : rGm) (k : Nat) : kv G (2, 2 * (k : Int) + 1) = .ref (G.2.2.1 + k) := by
  show rv G (.inr (.inr (2 * (k : Int) + 1).toNat)) = _
  rw [show (2 * (k : Int) + 1).toNat = 2 * k + 1 by omega, rv_own G (by omega)]
  congr 2; omega
section KR
variable {g : qG} {L : kLay} {cl : List vw_C} {fo : List rCC} {zs : List (String × String × String × rCV)} {rs : List (String × Nat × String × Nat)} {ns : List Cond} {Ts : List Cond} {G : rGm}
variable {l : Launch} {cc : ByteArray} {nL n : Nat} {own : String} {pc : Nat} {ret : Option FieldType} {fr lo : Nat} {Qf : kQf}
theorem kPic.ob {s : qSg} {H : Heap} (hP : kPic g L cl fo G s n H) {k ci : Nat} {fs : List (Nat ⊕ Int)} (hx : (k, ci, fs) ∈ L.1) : va_P G.1 cl [(G.2.2.1 + k, .inr (ci, fs.map (kfld g G s)))] H := fun k9 q9 h9 => by
  have h0 : k9 < 1 := (List.getElem?_eq_some_iff.mp h9).1
  rw [show k9 = 0 by omega] at h9
  cases h9
  exact (hP.2.2.1 _ hx).2
theorem k_get {C ref : String} {T : u_T} {N ci index : Nat} (k j b : Nat) {fs : List (Nat ⊕ Int)} (hx : (k, ci, fs) ∈ L.1) (hf : fs[j]? = some (.inl b)) (hin : ∀ w ∈ u_ws C T N, w ∈ Ts) (hc : cl[ci]? = some (C, T, N)) (hj : j < N) (hlink : Cond.fieldLink own index ref (T j).2.1 (T j).2.2.1 ∈ Ts) (hsame : ref = (T j).1) (hd : decode cc pc = .ok (.getfield index, 3)) : kI g (kW g L cl fo zs rs ns Ts G l cc nL own ret fr lo n Qf) pc (pc + 3) (24, 2 * (k : Int) + 1, (b : Int), 0) := by
  rintro ls st s ⟨x, st', rfl, hg, hV⟩ p e R s0 m args below meth c X hq9 rl H locs hl hP hL
  have hk := hV p e R s0 m args below meth c X hq9 rl H locs hl hP hL
  have hb : ((24, 2 * (k : Int) + 1, (b : Int), 0) : qD).2.2.1.toNat = b := Int.toNat_natCast b
  rw [hb] at hg hk
  rw [List.map_cons, show ((24, 2 * (k : Int) + 1, (b : Int), 0) : qD).2.1 = 2 * (k : Int) + 1 from rfl, kv_ref]
  refine va_get (D := G.1) (ci := ci) (v := kv G (x.2.2.2.1, s b 0)) (C := C) (T := T) (N := N) X.1 X.2.1 X.2.2.2.2.1 hin X.2.2.2.1 X.2.2.2.2.2.1.1 (hP.ob hx) 0 rfl hc j hj (X.2.2.2.2.1 _ hlink) (fun _ h9 => by rw [hsame]; exact h9) ?_ hd hk
  rw [List.getElem?_map, hf]
  show some (kv G (((g[b]?).getD (0, 0, 0, 0, [])).2.2.2.1, s b 0)) = _
  rw [hg]; rfl
theorem k_getR {C ref : String} {T : u_T} {N ci index : Nat} (k j : Nat) (z : Int) {fs : List (Nat ⊕ Int)} (hx : (k, ci, fs) ∈ L.1) (hf : fs[j]? = some (.inr z)) (hin : ∀ w ∈ u_ws C T N, w ∈ Ts) (hc : cl[ci]? = some (C, T, N)) (hj : j < N) (hlink : Cond.fieldLink own index ref (T j).2.1 (T j).2.2.1 ∈ Ts) (hsame : ref = (T j).1) (hd : decode cc pc = .ok (.getfield index, 3)) : kI g (kW g L cl fo zs rs ns Ts G l cc nL own ret fr lo n Qf) pc (pc + 3) (25, 2 * (k : Int) + 1, z, 0) := by
  rintro ls st s ⟨st', rfl, hV⟩ p e R s0 m args below meth c X hq9 rl H locs hl hP hL
  have hk := hV p e R s0 m args below meth c X hq9 rl H locs hl hP hL
  rw [List.map_cons, show ((25, 2 * (k : Int) + 1, z, 0) : qD).2.1 = 2 * (k : Int) + 1 from rfl, kv_ref]
  refine va_get (D := G.1) (ci := ci) (v := kv G (2, z)) (C := C) (T := T) (N := N) X.1 X.2.1 X.2.2.2.2.1 hin X.2.2.2.1 X.2.2.2.2.2.1.1 (hP.ob hx) 0 rfl hc j hj (X.2.2.2.2.1 _ hlink) (fun _ h9 => by rw [hsame]; exact h9) ?_ hd hk
  rw [List.getElem?_map, hf]
  rfl
theorem k_getN {C ref : String} {T : u_T} {N ci index : Nat} (k j b : Nat) {fs : List (Nat ⊕ Int)} (hx : (k, ci, fs) ∈ L.1) (hf : fs[j]? = some (.inl b)) (hin : ∀ w ∈ u_ws C T N, w ∈ Ts) (hc : cl[ci]? = some (C, T, N)) (hj : j < N) (host : String) (hlink : Cond.fieldLinkNest own index ref (T j).2.1 (T j).2.2.1 host ∈ ns) (hsame : ref = (T j).1) (hd : decode cc pc = .ok (.getfield index, 3)) : kI g (kW g L cl fo zs rs ns Ts G l cc nL own ret fr lo n Qf) pc (pc + 3) (24, 2 * (k : Int) + 1, (b : Int), 0) := by
  rintro ls st s ⟨x, st', rfl, hg, hV⟩ p e R s0 m args below meth c X hq9 rl H locs hl hP hL
  have hk := hV p e R s0 m args below meth c X hq9 rl H locs hl hP hL
  have hb : ((24, 2 * (k : Int) + 1, (b : Int), 0) : qD).2.2.1.toNat = b := Int.toNat_natCast b
  rw [hb] at hg hk
  rw [List.map_cons, show ((24, 2 * (k : Int) + 1, (b : Int), 0) : qD).2.1 = 2 * (k : Int) + 1 from rfl, kv_ref]
  refine va_getN (D := G.1) (ci := ci) (v := kv G (x.2.2.2.1, s b 0)) (C := C) (T := T) (N := N) X.1 X.2.1 X.2.2.2.2.1 hin X.2.2.2.1 X.2.2.2.2.2.1.1 (hP.ob hx) 0 rfl hc j hj (va_Nw.use rfl (X.2.2.2.2.2.1.2.1.2 _ hlink).1) (fun _ h9 => by rw [hsame]; exact h9) ?_ hd hk
  rw [List.getElem?_map, hf]
  show some (kv G (((g[b]?).getD (0, 0, 0, 0, [])).2.2.2.1, s b 0)) = _
  rw [hg]; rfl
theorem k_getRN {C ref : String} {T : u_T} {N ci index : Nat} (k j : Nat) (z : Int) {fs : List (Nat ⊕ Int)} (hx : (k, ci, fs) ∈ L.1) (hf : fs[j]? = some (.inr z)) (hin : ∀ w ∈ u_ws C T N, w ∈ Ts) (hc : cl[ci]? = some (C, T, N)) (hj : j < N) (host : String) (hlink : Cond.fieldLinkNest own index ref (T j).2.1 (T j).2.2.1 host ∈ ns) (hsame : ref = (T j).1) (hd : decode cc pc = .ok (.getfield index, 3)) : kI g (kW g L cl fo zs rs ns Ts G l cc nL own ret fr lo n Qf) pc (pc + 3) (25, 2 * (k : Int) + 1, z, 0) := by
  rintro ls st s ⟨st', rfl, hV⟩ p e R s0 m args below meth c X hq9 rl H locs hl hP hL
  have hk := hV p e R s0 m args below meth c X hq9 rl H locs hl hP hL
  rw [List.map_cons, show ((25, 2 * (k : Int) + 1, z, 0) : qD).2.1 = 2 * (k : Int) + 1 from rfl, kv_ref]
  refine va_getN (D := G.1) (ci := ci) (v := kv G (2, z)) (C := C) (T := T) (N := N) X.1 X.2.1 X.2.2.2.2.1 hin X.2.2.2.1 X.2.2.2.2.2.1.1 (hP.ob hx) 0 rfl hc j hj (va_Nw.use rfl (X.2.2.2.2.2.1.2.1.2 _ hlink).1) (fun _ h9 => by rw [hsame]; exact h9) ?_ hd hk
  rw [List.getElem?_map, hf]
  rfl
theorem kfld_up {s : qSg} {b : Nat} {z : Int} {f : Nat ⊕ Int} (h : f ≠ .inl b) : kfld g G (qUp s b 0 z) f = kfld g G s f := by
  rcases f with c | r
  · show kv G (_, qUp s b 0 z c 0) = kv G (_, s c 0)
    unfold qUp
    rw [if_neg (fun q => h (by rw [q.1]))]
  · rfl
theorem qUp_b {s : qSg} {b c : Nat} {i z : Int} (h : c ≠ b) : qUp s b i z c = s c := by
  funext j
  exact if_neg (fun q => h q.1)
theorem kPic.put {s : qSg} {H H' : Heap} (hL : LOk L) (hP : kPic g L cl fo G s n H) {k ci j b : Nat} {fs : List (Nat ⊕ Int)} (hx : (k, ci, fs) ∈ L.1) (hf : fs[j]? = some (.inl b)) {z : Int}
    (h1 : ∃ r : vw_C, cl[ci]? = some r ∧ t_OB (G.2.2.1 + k) (G.1.1 ci) r.2.2 (G.1.2 ci) H' (vp_V (fs.map (kfld g G (qUp s b 0 z))))) (h2 : H'.size = H.size) (h3 : ∀ q : Nat, q ≠ G.2.2.1 + k → H'[q]? = H[q]?) : kPic g L cl fo G (qUp s b 0 z) n H' := by
  obtain ⟨l1, l2, l3, l4, l5, l6, l7, l8, l9, l10⟩ := hL
  obtain ⟨p1, p2, p3, p4, p5, p6⟩ := hP
  refine ⟨(by rw [h2]; exact p1), fun q hq => (h3 q (by omega)).trans (p2 q hq), ?_, ?_, ?_, ?_⟩
  · intro x hxx
    by_cases e : x.1 = k
    · have := l1 x hxx _ hx e
      subst this
      exact ⟨(p3 _ hxx).1, h1⟩
    · obtain ⟨q1, r, q2, q3⟩ := p3 x hxx
      refine ⟨q1, r, q2, ?_⟩
      rw [map_congr_mem (f := kfld g G (qUp s b 0 z)) (h := kfld g G s) (fun f hfm => kfld_up (fun hfb => by
        obtain ⟨i, hi⟩ := List.getElem?_of_mem hfm
        rw [hfb] at hi
        exact e (l2 x hxx _ hx i j b hi hf).1))]
      exact q3.kept (h3 _ (by omega))
  · intro x hxx
    obtain ⟨q1, q2, q3⟩ := p4 x hxx
    refine ⟨q1, q2, fun w hw => ⟨(q3 w hw).1, ?_⟩⟩
    rw [qUp_b ((l5 _ hx j b hf).1 x hxx), h3 _ (by have := l3 _ hx x hxx w hw; omega)]
    exact (q3 w hw).2
  · intro x hxx
    obtain ⟨q1, q2, q3, q4, q5⟩ := p5 x hxx
    exact ⟨q1, q2, q3, q4, by rw [h3 _ (by have := l4 _ hx x hxx; omega)]; exact q5⟩
  · intro x hxx
    obtain ⟨q1, d, mm, q2, q3⟩ := p6 x hxx
    exact ⟨q1, d, mm, q2, fun i hi => by rw [qUp_b ((l5 _ hx j b hf).2 x hxx)]; exact q3 i hi⟩
end KR
