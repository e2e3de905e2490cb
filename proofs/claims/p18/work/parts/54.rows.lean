/-! ROWS: fields written, arrays -/
section KR
variable {g : qG} {L : kLay} {cl : List vw_C} {fo : List rCC} {zs : List (String × String × String × rCV)} {rs : List (String × Nat × String × Nat)} {ns : List Cond} {Ts : List Cond} {G : rGm}
variable {l : Launch} {cc : ByteArray} {nL n : Nat} {own : String} {pc : Nat} {ret : Option FieldType} {fr lo : Nat} {Qf : kQf}
/-- values of block b fit its field's type -/
def kFit (g : qG) (G : rGm) (b : Nat) (ty : FieldType) : Prop := ∀ (x : qBI) (c : Int × Int) (z : Int), g[b]? = some x → colAt x.2.2.2.2 0 = some c → inR c.1 c.2 z → narrow ty (kv G (x.2.2.2.1, z)) = kv G (x.2.2.2.1, z) ∧ fits ty (kv G (x.2.2.2.1, z)) = true
theorem k_put (hLO : LOk L) {C ref : String} {T : u_T} {N ci index : Nat} (ty0 : Nat → FieldType) (k j b : Nat) {fs : List (Nat ⊕ Int)} (hx : (k, ci, fs) ∈ L.1) (hf : fs[j]? = some (.inl b)) (hfit : kFit g G b (ty0 j)) (hin : ∀ w ∈ u_ws C T N, w ∈ Ts) (hty : ∀ k, k < N → parseFieldDescriptor (T k).2.2.1 = some (ty0 k)) (hnm : ∀ a, a < N → ∀ b, b < N → a ≠ b → (T a).2.1 ≠ (T b).2.1) (hc : cl[ci]? = some (C, T, N)) (hj : j < N) (hlink : Cond.fieldLink own index ref (T j).2.1 (T j).2.2.1 ∈ Ts) (hsame : ref = (T j).1) (hfin : (T j).2.2.2 = false) (hd : decode cc pc = .ok (.putfield index, 3)) : kI g (kW g L cl fo zs rs ns Ts G l cc nL own ret fr lo n Qf) pc (pc + 3) (26, 2 * (k : Int) + 1, (b : Int), 0) := by
  rintro ls st s ⟨x, cc0, z, st', rfl, hg, hcol, hz, hV⟩ p e R s0 m args below meth c X hq9 rl H locs hl hP hL
  have hb : ((26, 2 * (k : Int) + 1, (b : Int), 0) : qD).2.2.1.toNat = b := Int.toNat_natCast b
  rw [hb] at hg hV
  have hK := X.2.2.2.2.2.1.1
  have hap := va_apart (own := own) X.2.2.2.2.1 hin ty0 hty hnm hK hc
  obtain ⟨-, r0, hr0, cell, d1, d2, d3, d4⟩ := hP.2.2.1 _ hx
  have hr : r0 = (C, T, N) := Option.some.inj (hr0.symm.trans hc)
  subst hr
  obtain ⟨hS, hfc, kC, hkC, hkind⟩ := hK.1 ci _ hc
  obtain ⟨cf, kf, fi, f9, hi, hsl⟩ := hS j hj
  have hlay := X.2.2.2.2.1 _ (hin _ (u_in_lay hj))
  unfold u_lay at hlay
  rw [if_neg (by rw [hfin]; decide)] at hlay
  have hst := (u_facts hfc hkC (u_lays X.2.2.2.2.1 hin hj) hi).1
  have h6 := u_store hfc hkC hkind hlay hi (hty j hj) (hfit x cc0 z hg hcol hz).1 (hfit x cc0 z hg hcol hz).2
  rw [List.map_cons, List.map_cons, show ((26, 2 * (k : Int) + 1, (b : Int), 0) : qD).2.1 = 2 * (k : Int) + 1 from rfl, kv_ref]
  refine W.putK X.1 X.2.1 (f := f9) ⟨X.2.2.2.1, X.2.2.2.2.1 _ hlink, ⟨_, _, _, by rw [hsame]; exact hi⟩, hst⟩ (by rw [d2]; exact h6) d1 d3 (by rw [hsl]; exact k2_hasslot (d4 j hj)) rfl rfl hd fun H' e1 e2 e3 => ?_
  rw [hsl] at e1 ⊢
  refine hV p e R s0 m args below meth c X hq9 rl H' _ hl (hP.put hLO hx hf ⟨_, hc, t_OB.to (V := updV (vp_V (fs.map (kfld g G s))) j (kv G (x.2.2.2.1, z))) ⟨_, e1, d2, d3, t_set d4 hap hj (kv G (x.2.2.2.1, z))⟩ (fun i9 h9 => ?_)⟩ e2 e3) (locs_put hL)
  have hjl : j < fs.length := (List.getElem?_eq_some_iff.mp hf).1
  rw [vp_updV_set (by rw [List.length_map]; exact hjl) (kv G (x.2.2.2.1, z)) i9]
  congr 1
  refine Eq.symm ?_
  apply List.ext_getElem?
  intro i
  rw [List.getElem?_set, List.getElem?_map, List.getElem?_map, List.length_map]
  by_cases e9 : j = i
  · subst e9
    rw [if_pos rfl, if_pos hjl, hf]
    show some (kv G (((g[b]?).getD (0, 0, 0, 0, [])).2.2.2.1, qUp s b 0 z b 0)) = _
    rw [hg]
    unfold qUp
    rw [if_pos ⟨rfl, rfl⟩]; rfl
  · rw [if_neg e9]
    cases e8 : fs[i]? with
    | none => rfl
    | some f =>
      show some (kfld g G (qUp s b 0 z) f) = some (kfld g G s f)
      rw [kfld_up (fun q => e9 (hLO.2.1 _ hx _ hx j i b hf (by rw [e8, q])).2)]
theorem k_putN (hLO : LOk L) {C ref : String} {T : u_T} {N ci index : Nat} (ty0 : Nat → FieldType) (k j b : Nat) {fs : List (Nat ⊕ Int)} (hx : (k, ci, fs) ∈ L.1) (hf : fs[j]? = some (.inl b)) (hfit : kFit g G b (ty0 j)) (hin : ∀ w ∈ u_ws C T N, w ∈ Ts) (hty : ∀ k, k < N → parseFieldDescriptor (T k).2.2.1 = some (ty0 k)) (hnm : ∀ a, a < N → ∀ b, b < N → a ≠ b → (T a).2.1 ≠ (T b).2.1) (hc : cl[ci]? = some (C, T, N)) (hj : j < N) (host : String) (hlink : Cond.fieldLinkNest own index ref (T j).2.1 (T j).2.2.1 host ∈ ns) (hsame : ref = (T j).1) (hfin : (T j).2.2.2 = false) (hd : decode cc pc = .ok (.putfield index, 3)) : kI g (kW g L cl fo zs rs ns Ts G l cc nL own ret fr lo n Qf) pc (pc + 3) (26, 2 * (k : Int) + 1, (b : Int), 0) := by
  rintro ls st s ⟨x, cc0, z, st', rfl, hg, hcol, hz, hV⟩ p e R s0 m args below meth c X hq9 rl H locs hl hP hL
  have hb : ((26, 2 * (k : Int) + 1, (b : Int), 0) : qD).2.2.1.toNat = b := Int.toNat_natCast b
  rw [hb] at hg hV
  have hK := X.2.2.2.2.2.1.1
  have hap := va_apart (own := own) X.2.2.2.2.1 hin ty0 hty hnm hK hc
  obtain ⟨-, r0, hr0, cell, d1, d2, d3, d4⟩ := hP.2.2.1 _ hx
  have hr : r0 = (C, T, N) := Option.some.inj (hr0.symm.trans hc)
  subst hr
  obtain ⟨hS, hfc, kC, hkC, hkind⟩ := hK.1 ci _ hc
  obtain ⟨cf, kf, fi, f9, hi, hsl⟩ := hS j hj
  have hlay := X.2.2.2.2.1 _ (hin _ (u_in_lay hj))
  unfold u_lay at hlay
  rw [if_neg (by rw [hfin]; decide)] at hlay
  have hst := (u_facts hfc hkC (u_lays X.2.2.2.2.1 hin hj) hi).1
  have h6 := u_store hfc hkC hkind hlay hi (hty j hj) (hfit x cc0 z hg hcol hz).1 (hfit x cc0 z hg hcol hz).2
  rw [List.map_cons, List.map_cons, show ((26, 2 * (k : Int) + 1, (b : Int), 0) : qD).2.1 = 2 * (k : Int) + 1 from rfl, kv_ref]
  refine va_WputK X.1 X.2.1 (f := f9) X.2.2.2.1 (va_Nw.use rfl (X.2.2.2.2.2.1.2.1.2 _ hlink).1) (by rw [hsame]; exact hi) hst (by rw [d2]; exact h6) d1 d3 (by rw [hsl]; exact k2_hasslot (d4 j hj)) rfl rfl hd fun H' e1 e2 e3 => ?_
  rw [hsl] at e1 ⊢
  refine hV p e R s0 m args below meth c X hq9 rl H' _ hl (hP.put hLO hx hf ⟨_, hc, t_OB.to (V := updV (vp_V (fs.map (kfld g G s))) j (kv G (x.2.2.2.1, z))) ⟨_, e1, d2, d3, t_set d4 hap hj (kv G (x.2.2.2.1, z))⟩ (fun i9 h9 => ?_)⟩ e2 e3) (locs_put hL)
  have hjl : j < fs.length := (List.getElem?_eq_some_iff.mp hf).1
  rw [vp_updV_set (by rw [List.length_map]; exact hjl) (kv G (x.2.2.2.1, z)) i9]
  congr 1
  refine Eq.symm ?_
  apply List.ext_getElem?
  intro i
  rw [List.getElem?_set, List.getElem?_map, List.getElem?_map, List.length_map]
  by_cases e9 : j = i
  · subst e9
    rw [if_pos rfl, if_pos hjl, hf]
    show some (kv G (((g[b]?).getD (0, 0, 0, 0, [])).2.2.2.1, qUp s b 0 z b 0)) = _
    rw [hg]
    unfold qUp
    rw [if_pos ⟨rfl, rfl⟩]; rfl
  · rw [if_neg e9]
    cases e8 : fs[i]? with
    | none => rfl
    | some f =>
      show some (kfld g G (qUp s b 0 z) f) = some (kfld g G s f)
      rw [kfld_up (fun q => e9 (hLO.2.1 _ hx _ hx j i b hf (by rw [e8, q])).2)]
def kTag (t : Nat) : Nat := if t = 1 then 1 else 0
theorem kel_kv (G : rGm) (t : Nat) (z : Int) : kv G (kTag t, z) = kel t z := by
  unfold kTag kel
  by_cases h : t = 1
  · rw [if_pos h, if_pos h]; rfl
  · rw [if_neg h, if_neg h]; rfl
/-- block b is an array of type t, of R rows of M places -/
def kBlk (g : qG) (L : kLay) (b t R M : Nat) : Prop := (∃ (k : Nat) (cols : List (Int × Int)), (b, t, k, R, M) ∈ L.2.1 ∧ g[b]? = some (2 * (k : Int) + 1, (R : Int), (M : Int), kTag t, cols)) ∨ (∃ (i : Nat) (cols : List (Int × Int)), (b, t, i, M) ∈ L.2.2.2 ∧ R = 1 ∧ g[b]? = some (2 * (i : Int) + 2, (1 : Int), (M : Int), kTag t, cols))
theorem karr_at {s : qSg} {s0 : State} {H : Heap} (hK : rKK cl fo zs rs ns G s0) (hP : kPic g L cl fo G s n H) {b t R M : Nat} (hB : kBlk g L b t R M) {x : qBI} (hx : g[b]? = some x) {w : Int} (hw0 : 0 ≤ w) (hw : w < x.2.1) :
    t < 4 ∧ M ≤ 60000000 ∧ x.2.2.1 = (M : Int) ∧ x.2.2.2.1 = kTag t ∧ ∃ (a : Nat) (cell : Cell), kv G (2, x.1 + 2 * w) = .ref a ∧ H[a]? = some cell ∧ s0.isArrayOf cell (rTy t) ∧ cell.vm ≠ .unknown ∧ M ≤ cell.slots.size ∧ cell.slots.size.toInt32 = nI M ∧ ∀ j : Nat, j < M → cell.slots[j]? = some (kel t (s b (x.2.2.1 * w + j))) := by
  rcases hB with ⟨k, cols, h1, h2⟩ | ⟨i, cols, h1, rfl, h2⟩
  · rw [hx] at h2
    cases h2
    obtain ⟨q1, q2, q3⟩ := hP.2.2.2.1 _ h1
    obtain ⟨wn, rfl⟩ := Int.eq_ofNat_of_zero_le hw0
    obtain ⟨q4, q5⟩ := q3 wn (by show wn < R; have : (wn : Int) < (R : Int) := hw; omega)
    refine ⟨q1, q2, rfl, rfl, _, _, ?_, q5, rKK.arr hK (by omega) _ _, (fun q => by cases q), by rw [arrV_size]; exact Nat.le_refl _, by rw [arrV_size]; rfl, fun j hj => by rw [arrV_read _ _ hj]⟩
    show kv G (2, 2 * (k : Int) + 1 + 2 * (wn : Int)) = _
    rw [show 2 * (k : Int) + 1 + 2 * (wn : Int) = 2 * ((k + wn : Nat) : Int) + 1 by omega, kv_ref]
  · rw [hx] at h2
    cases h2
    obtain ⟨q1, d, mm, q2, q3⟩ := hP.2.2.2.2.2 _ h1
    have hw2 : w = 0 := by have : w < 1 := hw; omega
    subst hw2
    obtain ⟨a, g1, g2, g3, g4, cell, g5, g6, g7, g8, g9, g10, -⟩ := hK.2.2.2.2.2 _ _ q2
    refine ⟨by omega, g4, rfl, rfl, a, cell, ?_, by rw [hP.2.1 a g2]; exact g5, g6, g7, g8, g9, fun j hj => ?_⟩
    · show rv G (.inr (.inr (2 * (i : Int) + 2 + 2 * 0).toNat)) = _
      rw [show (2 * (i : Int) + 2 + 2 * 0).toNat = 2 * i + 2 by omega, rv_ext G (by omega) (by omega), show (2 * i + 2) / 2 - 1 = i by omega, g1]
    · rw [g10 j hj]
      show some (rv G (rL d mm j)) = _
      rw [q3 j hj]
      show some (kel t (s b (j : Int))) = some (kel t (s b ((M : Int) * 0 + j)))
      rw [Int.mul_zero, Int.zero_add]
theorem kix {i : Int} {M : Nat} {cell : Cell} {v : Value} (h0 : 0 ≤ i) (h1 : i < (M : Int)) (hM : M ≤ 60000000) (hz : M ≤ cell.slots.size) (hv : cell.slots[i.toNat]? = some v) : ¬ (Int32.ofInt i < 0 ∨ cell.slots.size ≤ (Int32.ofInt i).toNatClampNeg) ∧ cell.slots[(Int32.ofInt i).toNatClampNeg]? = some v := by
  obtain ⟨j, rfl⟩ := Int.eq_ofNat_of_zero_le h0
  rw [ofI_n]
  refine ⟨ix_in (by omega) hM hz, ?_⟩
  rw [nI_clamp (by omega)]
  exact hv
theorem k_alen (b : Nat) {t R M : Nat} (hB : kBlk g L b t R M) (hd : decode cc pc = .ok (.arraylength, 1)) : kI g (kW g L cl fo zs rs ns Ts G l cc nL own ret fr lo n Qf) pc (pc + 1) (30, (b : Int), 0, 0) := by
  rintro ls st s ⟨x, w, st', rfl, hg, h0, h1, hV⟩ p e R s0 m args below meth c X hq9 rl H locs hl hP hL
  have hb : ((30, (b : Int), 0, 0) : qD).2.1.toNat = b := Int.toNat_natCast b
  rw [hb] at hg
  obtain ⟨c1, c2, c3, c4, a, cell, c5, c6, c7, c8, c9, c10, c11⟩ := karr_at X.2.2.2.2.2.1 hP hB hg h0 h1
  have hk := hV p e R s0 m args below meth c X hq9 rl H locs hl hP hL
  rw [List.map_cons, c5]
  refine W.alen (n := nI M) X.1 X.2.1 c6 c7 c10 rfl rfl hd ?_
  have e1 : kv G (0, x.2.2.1) = .int (nI M) := by rw [c3, kv_i, ofI_n]
  rw [List.map_cons, e1] at hk
  exact hk
theorem k_iaload (b : Nat) {R M : Nat} (hB : kBlk g L b 0 R M) (hd : decode cc pc = .ok (.iaload, 1)) : kI g (kW g L cl fo zs rs ns Ts G l cc nL own ret fr lo n Qf) pc (pc + 1) (28, (b : Int), 0, 0) := by
  rintro ls st s ⟨x, i, w, st', rfl, hg, h0, h1, h2, h3, hV⟩ p e R s0 m args below meth c X hq9 rl H locs hl hP hL
  have hb : ((28, (b : Int), 0, 0) : qD).2.1.toNat = b := Int.toNat_natCast b
  rw [hb] at hg hV
  obtain ⟨c1, c2, c3, c4, a, cell, c5, c6, c7, c8, c9, c10, c11⟩ := karr_at X.2.2.2.2.2.1 hP hB hg h0 h1
  have hk := hV p e R s0 m args below meth c X hq9 rl H locs hl hP hL
  rw [List.map_cons, List.map_cons, c5]
  rw [List.map_cons, c4, kel_kv] at hk
  have hv := c11 i.toNat (by omega)
  rw [Int.toNat_of_nonneg h2] at hv
  obtain ⟨k1, k2⟩ := kix h2 (by omega) c2 c9 hv
  exact W.iald X.1 X.2.1 c6 c7 c8 k1 k2 rfl rfl hd hk
theorem k_laload (b : Nat) {R M : Nat} (hB : kBlk g L b 1 R M) (hd : decode cc pc = .ok (.laload, 1)) : kI g (kW g L cl fo zs rs ns Ts G l cc nL own ret fr lo n Qf) pc (pc + 1) (28, (b : Int), 0, 0) := by
  rintro ls st s ⟨x, i, w, st', rfl, hg, h0, h1, h2, h3, hV⟩ p e R s0 m args below meth c X hq9 rl H locs hl hP hL
  have hb : ((28, (b : Int), 0, 0) : qD).2.1.toNat = b := Int.toNat_natCast b
  rw [hb] at hg hV
  obtain ⟨c1, c2, c3, c4, a, cell, c5, c6, c7, c8, c9, c10, c11⟩ := karr_at X.2.2.2.2.2.1 hP hB hg h0 h1
  have hk := hV p e R s0 m args below meth c X hq9 rl H locs hl hP hL
  rw [List.map_cons, List.map_cons, c5]
  rw [List.map_cons, c4, kel_kv] at hk
  have hv := c11 i.toNat (by omega)
  rw [Int.toNat_of_nonneg h2] at hv
  obtain ⟨k1, k2⟩ := kix h2 (by omega) c2 c9 hv
  exact W.lald X.1 X.2.1 c6 c7 c8 k1 k2 rfl rfl hd hk
theorem k_baload (b : Nat) {R M : Nat} (hB : kBlk g L b 2 R M) (hd : decode cc pc = .ok (.baload, 1)) : kI g (kW g L cl fo zs rs ns Ts G l cc nL own ret fr lo n Qf) pc (pc + 1) (28, (b : Int), 0, 0) := by
  rintro ls st s ⟨x, i, w, st', rfl, hg, h0, h1, h2, h3, hV⟩ p e R s0 m args below meth c X hq9 rl H locs hl hP hL
  have hb : ((28, (b : Int), 0, 0) : qD).2.1.toNat = b := Int.toNat_natCast b
  rw [hb] at hg hV
  obtain ⟨c1, c2, c3, c4, a, cell, c5, c6, c7, c8, c9, c10, c11⟩ := karr_at X.2.2.2.2.2.1 hP hB hg h0 h1
  have hk := hV p e R s0 m args below meth c X hq9 rl H locs hl hP hL
  rw [List.map_cons, List.map_cons, c5]
  rw [List.map_cons, c4, kel_kv] at hk
  have hv := c11 i.toNat (by omega)
  rw [Int.toNat_of_nonneg h2] at hv
  obtain ⟨k1, k2⟩ := kix h2 (by omega) c2 c9 hv
  exact W.bald X.1 X.2.1 c6 c7 c8 k1 k2 rfl rfl hd hk
theorem k_zaload (b : Nat) {R M : Nat} (hB : kBlk g L b 3 R M) (hd : decode cc pc = .ok (.baload, 1)) : kI g (kW g L cl fo zs rs ns Ts G l cc nL own ret fr lo n Qf) pc (pc + 1) (28, (b : Int), 0, 0) := by
  rintro ls st s ⟨x, i, w, st', rfl, hg, h0, h1, h2, h3, hV⟩ p e R s0 m args below meth c X hq9 rl H locs hl hP hL
  have hb : ((28, (b : Int), 0, 0) : qD).2.1.toNat = b := Int.toNat_natCast b
  rw [hb] at hg hV
  obtain ⟨c1, c2, c3, c4, a, cell, c5, c6, c7, c8, c9, c10, c11⟩ := karr_at X.2.2.2.2.2.1 hP hB hg h0 h1
  have hk := hV p e R s0 m args below meth c X hq9 rl H locs hl hP hL
  rw [List.map_cons, List.map_cons, c5]
  rw [List.map_cons, c4, kel_kv] at hk
  have hv := c11 i.toNat (by omega)
  rw [Int.toNat_of_nonneg h2] at hv
  obtain ⟨k1, k2⟩ := kix h2 (by omega) c2 c9 hv
  exact W.zald X.1 X.2.1 c6 c7 c8 k1 k2 rfl rfl hd hk
end KR
