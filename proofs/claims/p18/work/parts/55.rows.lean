/-! ROWS: array writes, rows of rows, statics, ends -/
section KR
variable {g : qG} {L : kLay} {cl : List vw_C} {fo : List rCC} {zs : List (String × String × String × rCV)} {rs : List (String × Nat × String × Nat)} {ns : List Cond} {Ts : List Cond} {G : rGm}
variable {l : Launch} {cc : ByteArray} {nL n : Nat} {own : String} {pc : Nat} {ret : Option FieldType} {fr lo : Nat} {Qf : kQf}
theorem qUp_ne {s : qSg} {b c : Nat} {i j z : Int} (h : ¬ (c = b ∧ j = i)) : qUp s b i z c j = s c j := if_neg h
theorem kfld_upg {s : qSg} {b : Nat} {i z : Int} {f : Nat ⊕ Int} (h : f ≠ .inl b) : kfld g G (qUp s b i z) f = kfld g G s f := by
  rcases f with c | r
  · show kv G (_, qUp s b i z c 0) = kv G (_, s c 0)
    rw [qUp_ne (fun q => h (by rw [q.1]))]
  · rfl
theorem kidx {M v w i j : Nat} (hv : v ≠ w) (hi : i < M) (hj : j < M) : (M : Int) * v + i ≠ (M : Int) * w + j := by
  intro q
  have q' : M * v + i = M * w + j := by
    have e1 : ((M * v + i : Nat) : Int) = (M : Int) * v + i := by rw [Int.natCast_add, Int.natCast_mul]
    have e2 : ((M * w + j : Nat) : Int) = (M : Int) * w + j := by rw [Int.natCast_add, Int.natCast_mul]
    exact Int.ofNat.inj (by show ((M * v + i : Nat) : Int) = ((M * w + j : Nat) : Int); rw [e1, e2, q])
  rcases Nat.lt_or_ge v w with h | h
  · have h1 : M * (v + 1) ≤ M * w := Nat.mul_le_mul_left M h
    rw [Nat.mul_add, Nat.mul_one] at h1
    omega
  · have h1 : M * (w + 1) ≤ M * v := Nat.mul_le_mul_left M (by omega)
    rw [Nat.mul_add, Nat.mul_one] at h1
    omega
theorem kPic.ast {s : qSg} {H H' : Heap} (hL : LOk L) (hP : kPic g L cl fo G s n H) {b t k R M : Nat} (hx : (b, t, k, R, M) ∈ L.2.1) {w j : Nat} (hw : w < R) (hj : j < M) {z : Int}
    (h1 : H'[G.2.2.1 + (k + w)]? = some (arrV (G.2.1 t) M (fun i => kel t (qUp s b ((M : Int) * w + j) z b ((M : Int) * w + i))))) (h2 : H'.size = H.size) (h3 : ∀ q : Nat, q ≠ G.2.2.1 + (k + w) → H'[q]? = H[q]?) : kPic g L cl fo G (qUp s b ((M : Int) * w + j) z) n H' := by
  obtain ⟨l1, l2, l3, l4, l5, l6, l7, l8, l9, l10⟩ := hL
  obtain ⟨p1, p2, p3, p4, p5, p6⟩ := hP
  refine ⟨(by rw [h2]; exact p1), fun q hq => (h3 q (by omega)).trans (p2 q hq), ?_, ?_, ?_, ?_⟩
  · intro x hxx
    obtain ⟨q1, r, q2, q3⟩ := p3 x hxx
    refine ⟨q1, r, q2, ?_⟩
    rw [map_congr_mem (f := kfld g G (qUp s b ((M : Int) * w + j) z)) (h := kfld g G s) (fun f hfm => kfld_upg (fun hfb => by
      obtain ⟨i, hi⟩ := List.getElem?_of_mem hfm
      rw [hfb] at hi
      exact l10 _ hx x hxx i hi))]
    exact q3.kept (h3 _ (by have : k + w ≠ x.1 := l3 x hxx _ hx w hw; omega))
  · intro x hxx
    obtain ⟨q1, q2, q3⟩ := p4 x hxx
    refine ⟨q1, q2, fun v hv => ⟨(q3 v hv).1, ?_⟩⟩
    by_cases e : x.2.2.1 + v = k + w
    · obtain ⟨e1, e2⟩ := l7 x hxx _ hx v w hv hw e
      subst e1; subst e2
      exact h1
    · rw [h3 _ (by omega)]
      refine (q3 v hv).2.trans (congrArg some (arrV_ext fun i hi => congrArg (kel x.2.1) ?_))
      refine (qUp_ne fun q => ?_).symm
      have e1 := l6 x hxx _ hx q.1
      subst e1
      exact kidx (fun e9 => e (by rw [e9])) hi hj q.2
  · intro x hxx
    obtain ⟨q1, q2, q3, q4, q5⟩ := p5 x hxx
    exact ⟨q1, q2, q3, q4, by rw [h3 _ (by have : x.1 ≠ k + w := l8 _ hx w hw x hxx; omega)]; exact q5⟩
  · intro x hxx
    obtain ⟨q1, d, mm, q2, q3⟩ := p6 x hxx
    refine ⟨q1, d, mm, q2, fun i hi => ?_⟩
    rw [qUp_ne (fun q => l9 _ hx x hxx q.1)]
    exact q3 i hi
theorem kPic.aset {s : qSg} {H H' : Heap} (hL : LOk L) (hP : kPic g L cl fo G s n H) {b t k R M : Nat} (hx : (b, t, k, R, M) ∈ L.2.1) {w j : Nat} (hw : w < R) (hj : j < M) {z : Int} {v : Value} (hv : v = kel t z)
    (h1 : H'[G.2.2.1 + (k + w)]? = some ((arrV (G.2.1 t) M (fun i => kel t (s b ((M : Int) * w + i)))).setSlot j v)) (h2 : H'.size = H.size) (h3 : ∀ q : Nat, q ≠ G.2.2.1 + (k + w) → H'[q]? = H[q]?) : kPic g L cl fo G (qUp s b ((M : Int) * w + j) z) n H' := by
  refine hP.ast hL hx hw hj ?_ h2 h3
  rw [h1, arrV_store, hv]
  refine congrArg some (arrV_ext fun i hi => ?_)
  unfold updV
  by_cases e : i = j
  · subst e
    rw [if_pos rfl]
    unfold qUp
    rw [if_pos ⟨rfl, rfl⟩]
  · rw [if_neg e]
    refine congrArg (kel t) (qUp_ne fun q => e ?_).symm
    have := q.2
    omega
theorem kref (G : rGm) (k w : Nat) : kv G (2, 2 * (k : Int) + 1 + 2 * (w : Int)) = .ref (G.2.2.1 + (k + w)) := by
  rw [show 2 * (k : Int) + 1 + 2 * (w : Int) = 2 * ((k + w : Nat) : Int) + 1 by omega, kv_ref]
theorem k_iastore (hLO : LOk L) (b : Nat) {k R M : Nat} {cols : List (Int × Int)} (hb : (b, 0, k, R, M) ∈ L.2.1) (hgb : g[b]? = some (2 * (k : Int) + 1, (R : Int), (M : Int), 0, cols)) (hd : decode cc pc = .ok (.iastore, 1)) : kI g (kW g L cl fo zs rs ns Ts G l cc nL own ret fr lo n Qf) pc (pc + 1) (29, (b : Int), 0, 0) := by
  rintro ls st s ⟨x, i, w, z, c, st', rfl, hg, h0, h1, h2, h3, h4, h5, hV⟩ p e R9 s0 m args below meth c9 X hq9 rl H locs hl hP hL
  have hb9 : ((29, (b : Int), 0, 0) : qD).2.1.toNat = b := Int.toNat_natCast b
  rw [hb9] at hg hV
  rw [hgb] at hg
  cases hg
  obtain ⟨wn, rfl⟩ := Int.eq_ofNat_of_zero_le h0
  obtain ⟨jn, rfl⟩ := Int.eq_ofNat_of_zero_le h2
  have hw : wn < R := by have h9 : (wn : Int) < (R : Int) := h1; omega
  have hj : jn < M := by have h9 : (jn : Int) < (M : Int) := h3; omega
  obtain ⟨q1, q2, q3⟩ := hP.2.2.2.1 _ hb
  obtain ⟨q4, q5⟩ := q3 wn hw
  have q2 : M ≤ 60000000 := q2
  show W _ _ _ _ _ _ _ _ _ _ _ _ _ _ _ (F0 _ _ _ (kv G (0, z) :: kv G (0, (jn : Int)) :: kv G (2, 2 * (k : Int) + 1 + 2 * (wn : Int)) :: st'.map (kv G)))
  rw [kref, kv_i, kv_i, ofI_n]
  refine W.iast X.1 X.2.1 q5 (X.2.2.2.2.2.1.arr (t := 0) (by decide) M _) (fun q => by cases q) (ix_in hj q2 (by rw [arrV_size]; exact Nat.le_refl _)) rfl rfl hd (fun H1 e1 z1 o1 => ?_)
  rw [nI_clamp (by omega)] at e1
  exact hV p e R9 s0 m args below meth c9 X hq9 rl H1 _ hl (hP.aset hLO hb hw hj rfl e1 z1 o1) (locs_put hL)
theorem k_lastore (hLO : LOk L) (b : Nat) {k R M : Nat} {cols : List (Int × Int)} (hb : (b, 1, k, R, M) ∈ L.2.1) (hgb : g[b]? = some (2 * (k : Int) + 1, (R : Int), (M : Int), 1, cols)) (hd : decode cc pc = .ok (.lastore, 1)) : kI g (kW g L cl fo zs rs ns Ts G l cc nL own ret fr lo n Qf) pc (pc + 1) (29, (b : Int), 0, 0) := by
  rintro ls st s ⟨x, i, w, z, c, st', rfl, hg, h0, h1, h2, h3, h4, h5, hV⟩ p e R9 s0 m args below meth c9 X hq9 rl H locs hl hP hL
  have hb9 : ((29, (b : Int), 0, 0) : qD).2.1.toNat = b := Int.toNat_natCast b
  rw [hb9] at hg hV
  rw [hgb] at hg
  cases hg
  obtain ⟨wn, rfl⟩ := Int.eq_ofNat_of_zero_le h0
  obtain ⟨jn, rfl⟩ := Int.eq_ofNat_of_zero_le h2
  have hw : wn < R := by have h9 : (wn : Int) < (R : Int) := h1; omega
  have hj : jn < M := by have h9 : (jn : Int) < (M : Int) := h3; omega
  obtain ⟨q1, q2, q3⟩ := hP.2.2.2.1 _ hb
  obtain ⟨q4, q5⟩ := q3 wn hw
  have q2 : M ≤ 60000000 := q2
  show W _ _ _ _ _ _ _ _ _ _ _ _ _ _ _ (F0 _ _ _ (kv G (1, z) :: kv G (0, (jn : Int)) :: kv G (2, 2 * (k : Int) + 1 + 2 * (wn : Int)) :: st'.map (kv G)))
  rw [kref, kv_j, kv_i, ofI_n]
  refine W.last X.1 X.2.1 q5 (X.2.2.2.2.2.1.arr (t := 1) (by decide) M _) (fun q => by cases q) (ix_in hj q2 (by rw [arrV_size]; exact Nat.le_refl _)) rfl rfl hd (fun H1 e1 z1 o1 => ?_)
  rw [nI_clamp (by omega)] at e1
  exact hV p e R9 s0 m args below meth c9 X hq9 rl H1 _ hl (hP.aset hLO hb hw hj rfl e1 z1 o1) (locs_put hL)
theorem k_bastore (hLO : LOk L) (b : Nat) {k R M : Nat} {cols : List (Int × Int)} (hb : (b, 2, k, R, M) ∈ L.2.1) (hgb : g[b]? = some (2 * (k : Int) + 1, (R : Int), (M : Int), 0, cols)) (hfit : ∀ (i : Int) (c : Int × Int) (z : Int), colAt cols i = some c → inR c.1 c.2 z → narrow .byte (.int (Int32.ofInt z)) = .int (Int32.ofInt z)) (hd : decode cc pc = .ok (.bastore, 1)) : kI g (kW g L cl fo zs rs ns Ts G l cc nL own ret fr lo n Qf) pc (pc + 1) (29, (b : Int), 0, 0) := by
  rintro ls st s ⟨x, i, w, z, c, st', rfl, hg, h0, h1, h2, h3, h4, h5, hV⟩ p e R9 s0 m args below meth c9 X hq9 rl H locs hl hP hL
  have hb9 : ((29, (b : Int), 0, 0) : qD).2.1.toNat = b := Int.toNat_natCast b
  rw [hb9] at hg hV
  rw [hgb] at hg
  cases hg
  obtain ⟨wn, rfl⟩ := Int.eq_ofNat_of_zero_le h0
  obtain ⟨jn, rfl⟩ := Int.eq_ofNat_of_zero_le h2
  have hw : wn < R := by have h9 : (wn : Int) < (R : Int) := h1; omega
  have hj : jn < M := by have h9 : (jn : Int) < (M : Int) := h3; omega
  obtain ⟨q1, q2, q3⟩ := hP.2.2.2.1 _ hb
  obtain ⟨q4, q5⟩ := q3 wn hw
  have q2 : M ≤ 60000000 := q2
  show W _ _ _ _ _ _ _ _ _ _ _ _ _ _ _ (F0 _ _ _ (kv G (0, z) :: kv G (0, (jn : Int)) :: kv G (2, 2 * (k : Int) + 1 + 2 * (wn : Int)) :: st'.map (kv G)))
  rw [kref, kv_i, kv_i, ofI_n]
  refine W.bast X.1 X.2.1 q5 (X.2.2.2.2.2.1.arr (t := 2) (by decide) M _) (fun q => by cases q) (ix_in hj q2 (by rw [arrV_size]; exact Nat.le_refl _)) rfl rfl hd (fun H1 e1 z1 o1 => ?_)
  rw [nI_clamp (by omega)] at e1
  exact hV p e R9 s0 m args below meth c9 X hq9 rl H1 _ hl (hP.aset hLO hb hw hj (hfit _ c z h4 h5) e1 z1 o1) (locs_put hL)
theorem k_zastore (hLO : LOk L) (b : Nat) {k R M : Nat} {cols : List (Int × Int)} (hb : (b, 3, k, R, M) ∈ L.2.1) (hgb : g[b]? = some (2 * (k : Int) + 1, (R : Int), (M : Int), 0, cols)) (hfit : ∀ (i : Int) (c : Int × Int) (z : Int), colAt cols i = some c → inR c.1 c.2 z → narrow .boolean (.int (Int32.ofInt z)) = .int (Int32.ofInt z)) (hd : decode cc pc = .ok (.bastore, 1)) : kI g (kW g L cl fo zs rs ns Ts G l cc nL own ret fr lo n Qf) pc (pc + 1) (29, (b : Int), 0, 0) := by
  rintro ls st s ⟨x, i, w, z, c, st', rfl, hg, h0, h1, h2, h3, h4, h5, hV⟩ p e R9 s0 m args below meth c9 X hq9 rl H locs hl hP hL
  have hb9 : ((29, (b : Int), 0, 0) : qD).2.1.toNat = b := Int.toNat_natCast b
  rw [hb9] at hg hV
  rw [hgb] at hg
  cases hg
  obtain ⟨wn, rfl⟩ := Int.eq_ofNat_of_zero_le h0
  obtain ⟨jn, rfl⟩ := Int.eq_ofNat_of_zero_le h2
  have hw : wn < R := by have h9 : (wn : Int) < (R : Int) := h1; omega
  have hj : jn < M := by have h9 : (jn : Int) < (M : Int) := h3; omega
  obtain ⟨q1, q2, q3⟩ := hP.2.2.2.1 _ hb
  obtain ⟨q4, q5⟩ := q3 wn hw
  have q2 : M ≤ 60000000 := q2
  show W _ _ _ _ _ _ _ _ _ _ _ _ _ _ _ (F0 _ _ _ (kv G (0, z) :: kv G (0, (jn : Int)) :: kv G (2, 2 * (k : Int) + 1 + 2 * (wn : Int)) :: st'.map (kv G)))
  rw [kref, kv_i, kv_i, ofI_n]
  refine W.zast X.1 X.2.1 q5 (X.2.2.2.2.2.1.arr (t := 3) (by decide) M _) (fun q => by cases q) (ix_in hj q2 (by rw [arrV_size]; exact Nat.le_refl _)) rfl rfl hd (fun H1 e1 z1 o1 => ?_)
  rw [nI_clamp (by omega)] at e1
  exact hV p e R9 s0 m args below meth c9 X hq9 rl H1 _ hl (hP.aset hLO hb hw hj (hfit _ c z h4 h5) e1 z1 o1) (locs_put hL)
theorem k_aaload (b : Nat) {k9 t k R : Nat} {mm : Int} {tg : Nat} {cols : List (Int × Int)} (ho : (k9, t, k, R) ∈ L.2.2.1) (hgb : g[b]? = some (2 * (k : Int) + 1, (R : Int), mm, tg, cols)) (hd : decode cc pc = .ok (.aaload, 1)) : kI g (kW g L cl fo zs rs ns Ts G l cc nL own ret fr lo n Qf) pc (pc + 1) (27, 2 * (k9 : Int) + 1, (b : Int), 0) := by
  rintro ls st s ⟨x, i, st', rfl, hg, h0, h1, hV⟩ p e R9 s0 m args below meth c9 X hq9 rl H locs hl hP hL
  have hb9 : ((27, 2 * (k9 : Int) + 1, (b : Int), 0) : qD).2.2.1.toNat = b := Int.toNat_natCast b
  rw [hb9, hgb] at hg
  cases hg
  obtain ⟨j, rfl⟩ := Int.eq_ofNat_of_zero_le h0
  have hj : j < R := by have h9 : (j : Int) < (R : Int) := h1; omega
  obtain ⟨q1, q2, q3, q4, q5⟩ := hP.2.2.2.2.1 _ ho
  have hk := hV p e R9 s0 m args below meth c9 X hq9 rl H locs hl hP hL
  rw [List.map_cons] at hk
  have e1 : kv G (2, ((2 * (k : Int) + 1, (R : Int), mm, tg, cols) : qBI).1 + 2 * (j : Int)) = .ref (G.2.2.1 + (k + j)) := kref G k j
  have hk' := e1 ▸ hk
  have q3 : R ≤ 60000000 := q3
  show W _ _ _ _ _ _ _ _ _ _ _ _ _ _ _ (F0 _ _ _ (kv G (0, (j : Int)) :: kv G (2, 2 * (k9 : Int) + 1) :: st'.map (kv G)))
  rw [kv_ref, kv_i, ofI_n]
  exact W.aald X.1 X.2.1 q5 (X.2.2.2.2.2.1.arr (t := t) q2 R _) (rTy_ref q1) (fun q => by cases q) (ix_in hj q3 (by rw [arrV_size]; exact Nat.le_refl _)) (by rw [nI_clamp (by omega), arrV_read _ _ hj]) rfl rfl hd hk'
theorem k_null (hd : decode cc pc = .ok (.aconst_null, 1)) : kI g (kW g L cl fo zs rs ns Ts G l cc nL own ret fr lo n Qf) pc (pc + 1) (2, 0, 0, 0) := fun ls st s hV p e R s0 m args below meth c X hq9 rl H locs hl hP hL => lv_null X.1 X.2.1 hd (hV p e R s0 m args below meth c X hq9 rl H locs hl hP hL)
theorem k_gets (r : Nat) {C n1 d ref : String} {ix : Nat} (hz : (C, n1, d, .inr (.inr r)) ∈ zs) (hlink : Cond.fieldLink own ix ref n1 d ∈ Ts) (hsame : ref = C) (hd : decode cc pc = .ok (.getstatic ix, 3)) : kI g (kW g L cl fo zs rs ns Ts G l cc nL own ret fr lo n Qf) pc (pc + 3) (2, (r : Int), 0, 0) := by
  intro ls st s hV p e R9 s0 m args below meth c9 X hq9 rl H locs hl hP hL
  have hk := hV p e R9 s0 m args below meth c9 X hq9 rl H locs hl hP hL
  obtain ⟨cf, kf, fi, f, a, cell, g1, g2, g3, g4, g5, g6, g7, g8⟩ := X.2.2.2.2.2.1.2.2.2.1 _ hz
  have ha : a < G.2.2.1 := by
    rw [← X.2.2.2.2.2.1.2.1.1.1]
    exact (Array.getElem?_eq_some_iff.mp g5).1
  exact W.gets X.1 X.2.1 X.2.2.2.1 (X.2.2.2.2.1 _ hlink) (by rw [hsame]; exact g1) g2 g3 g4 (by rw [hP.2.1 a ha]; exact g5) (fun q => by rw [q] at g6; cases g6) g7 rfl hd hk
-- ends
/-- what a method's end tells -/
def kQ (g : qG) (L : kLay) (cl : List vw_C) (fo : List rCC) (zs : List (String × String × String × rCV)) (rs : List (String × Nat × String × Nat)) (ns : List Cond) (G : rGm) (n : Nat) (R : List qV → qSg → Prop) : Array Value → State → Outcome → State → Prop := fun _ _ oc t => ∃ (res : List qV) (s' : qSg), oc = .returned (res.head?.map (kv G)) ∧ res.length ≤ 1 ∧ R res s' ∧ kPic g L cl fo G s' n t.heap ∧ rKK cl fo zs rs ns G t
abbrev kMQ (g : qG) (L : kLay) (cl : List vw_C) (fo : List rCC) (zs : List (String × String × String × rCV)) (rs : List (String × Nat × String × Nat)) (ns : List Cond) (G : rGm) (n : Nat) (R : List qV → qSg → Prop) : kQf := (fun _ => True, ((0, 0), fun below args s => MQ below (kQ g L cl fo zs rs ns G n R) args s 0 0 (fun q => G.2.2.1 ≤ q)))
variable {Rr : List qV → qSg → Prop}
theorem k_ret (hr : ret = none) (hd : decode cc pc = .ok (.return_, 1)) : ∀ ls st s, (st = [] ∧ Rr [] s) → kW g L cl fo zs rs ns Ts G l cc nL own ret fr lo n (kMQ g L cl fo zs rs ns G n Rr) pc ls st s := by
  rintro ls st s ⟨rfl, hR⟩ p e R9 s0 m args below meth c X hq9 rl H locs hl hP hL
  exact W.vret X.1 X.2.1 (X.2.2.2.2.2.2.2.2.1.trans hr) (fun t ht hW => ⟨[], s, rfl, Nat.zero_le _, hR, by rw [ht]; exact hP, X.2.2.2.2.2.1.warm hW⟩) hL hd X.2.2.2.2.2.2.1
theorem k_reti {ty : FieldType} {lo1 hi1 : Int} {j1 j2 k1 k2 : Nat} (V : Nat → qP) (hr : ret = some ty) (hn : ∀ z, lo1 ≤ z → z ≤ hi1 → narrow ty (.int (Int32.ofInt z)) = .int (Int32.ofInt z)) (hd : decode cc pc = .ok (.ireturn, 1)) : ∀ ls st s, wT V Rr (5, 0, j1, j2, [(lo1, k1), (hi1, k2)]) ls st s → kW g L cl fo zs rs ns Ts G l cc nL own ret fr lo n (kMQ g L cl fo zs rs ns G n Rr) pc ls st s := by
  rintro ls st s ⟨z, a, b, rfl, h1, h2, h3, hR⟩ p e R9 s0 m args below meth c X hq9 rl H locs hl hP hL
  cases h1
  exact W.zret X.1 X.2.1 (X.2.2.2.2.2.2.2.2.1.trans hr) (hn z h2 h3) (fun t ht hW => ⟨[(0, z)], s, rfl, Nat.le_refl _, hR, by rw [ht]; exact hP, X.2.2.2.2.2.1.warm hW⟩) hL hd X.2.2.2.2.2.2.1
theorem k_retl {lo1 hi1 : Int} {j1 j2 k1 k2 : Nat} (V : Nat → qP) (hr : ret = some .long) (hd : decode cc pc = .ok (.lreturn, 1)) : ∀ ls st s, wT V Rr (5, 1, j1, j2, [(lo1, k1), (hi1, k2)]) ls st s → kW g L cl fo zs rs ns Ts G l cc nL own ret fr lo n (kMQ g L cl fo zs rs ns G n Rr) pc ls st s := by
  rintro ls st s ⟨z, a, b, rfl, h1, h2, h3, hR⟩ p e R9 s0 m args below meth c X hq9 rl H locs hl hP hL
  exact W.lret X.1 X.2.1 (X.2.2.2.2.2.2.2.2.1.trans hr) (fun t ht hW => ⟨[(1, z)], s, rfl, Nat.le_refl _, hR, by rw [ht]; exact hP, X.2.2.2.2.2.1.warm hW⟩) hL hd X.2.2.2.2.2.2.1
theorem k_reta {ty : FieldType} {lo1 hi1 : Int} {j1 j2 k1 k2 : Nat} (V : Nat → qP) (hr : ret = some ty) (hrt : (∃ n, ty = .object n) ∨ ∃ t, ty = .array t) (hd : decode cc pc = .ok (.areturn, 1)) : ∀ ls st s, wT V Rr (5, 2, j1, j2, [(lo1, k1), (hi1, k2)]) ls st s → kW g L cl fo zs rs ns Ts G l cc nL own ret fr lo n (kMQ g L cl fo zs rs ns G n Rr) pc ls st s := by
  rintro ls st s ⟨z, a, b, rfl, h1, h2, h3, hR⟩ p e R9 s0 m args below meth c X hq9 rl H locs hl hP hL
  exact W.aret X.1 X.2.1 (X.2.2.2.2.2.2.2.2.1.trans hr) hrt (rv_r G X.2.2.2.2.2.1.2.2.1 z.toNat) (fun t ht hW => ⟨[(2, z)], s, rfl, Nat.le_refl _, hR, by rw [ht]; exact hP, X.2.2.2.2.2.1.warm hW⟩) hL hd X.2.2.2.2.2.2.1
end KR
