/-! ROWS: copies of stretches of arrays -/
/-- the contract of a copy out of an array at z1 (R1 rows of M1) into block b2, at z2 (R2 rows of M2) -/
def cpC (z1 : Int) (R1 M1 : Nat) (z2 : Int) (R2 M2 b2 : Nat) : qCt :=
  (5, ([(0, (2, ((z1, [(3, 2)]), (0, [])))), (1, (0, ((0, [(0, 1)]), (0, [])))), (2, (2, ((z2, [(4, 2)]), (0, [])))), (3, (0, ((0, [(1, 1)]), (0, [])))), (4, (0, ((0, [(2, 1)]), (0, []))))], [], ([], []),
    (5, [(0, (0, (M1 : Int))), (1, (0, (M2 : Int))), (2, (0, (M2 : Int))), (3, (0, (R1 : Int) - 1)), (4, (0, (R2 : Int) - 1))], [((M1 : Int), [(0, -1), (2, -1)]), ((M2 : Int), [(1, -1), (2, -1)])], 0, [], [], [], [])),
   [([], [], ([], []), (5, [], [], 0, [], [], [], []))], [b2])
theorem lsArgs_hd {p : Nat} {v x : qV} {as : List qV} (h : (p, x) ∈ lsArgs p (v :: as)) : v = x := by
  rcases List.mem_cons.mp (show (p, x) ∈ (p, v) :: lsArgs (if v.1 = 1 then p + 2 else p + 1) as from h) with h | h
  · exact (congrArg Prod.snd h).symm
  · exfalso
    have h5 := lsArgs_ge _ _ _ h
    have h5 : (if v.1 = 1 then p + 2 else p + 1) ≤ p := h5
    by_cases c : v.1 = 1
    · rw [if_pos c] at h5; omega
    · rw [if_neg c] at h5; omega
theorem lsArgs_tl {p q tg : Nat} {z : Int} {x : qV} {as : List qV} (hv : tg ≠ 1) (hq : q ≠ p) (h : (q, x) ∈ lsArgs p ((tg, z) :: as)) : (q, x) ∈ lsArgs (p + 1) as := by
  rcases List.mem_cons.mp (show (q, x) ∈ (p, ((tg, z) : qV)) :: lsArgs (if tg = 1 then p + 2 else p + 1) as from h) with h | h
  · exact absurd (congrArg Prod.fst h) hq
  · rw [if_neg hv] at h; exact h
theorem colAt_s (c : Int × Int) (i : Int) : colAt [c] i = some c := by
  unfold colAt
  rw [show (i % (([c] : List (Int × Int)).length : Int)).toNat = 0 by show (i % 1).toNat = 0; omega]
  rfl
section KR
variable {g : qG} {L : kLay} {cl : List vw_C} {fo : List rCC} {zs : List (String × String × String × rCV)} {rs : List (String × Nat × String × Nat)} {ns : List Cond} {Ts : List Cond} {G : rGm}
variable {l : Launch} {cc : ByteArray} {nL n : Nat} {own : String} {pc : Nat} {ret : Option FieldType} {fr lo : Nat} {Qf : kQf}
theorem kPic.arow {s s' : qSg} {H H' : Heap} (hL : LOk L) (hP : kPic g L cl fo G s n H) {b t k R M : Nat} (hx : (b, t, k, R, M) ∈ L.2.1) {w : Nat} (hw : w < R) (hs : ∀ c : Nat, c ≠ b → s' c = s c) (hs2 : ∀ v j : Nat, v ≠ w → j < M → s' b ((M : Int) * v + j) = s b ((M : Int) * v + j))
    (h1 : H'[G.2.2.1 + (k + w)]? = some (arrV (G.2.1 t) M (fun i => kel t (s' b ((M : Int) * w + i))))) (h2 : H'.size = H.size) (h3 : ∀ q : Nat, q ≠ G.2.2.1 + (k + w) → H'[q]? = H[q]?) : kPic g L cl fo G s' n H' := by
  obtain ⟨l1, l2, l3, l4, l5, l6, l7, l8, l9, l10⟩ := hL
  obtain ⟨p1, p2, p3, p4, p5, p6⟩ := hP
  refine ⟨(by rw [h2]; exact p1), fun q hq => (h3 q (by omega)).trans (p2 q hq), ?_, ?_, ?_, ?_⟩
  · intro x hxx
    obtain ⟨q1, r, q2, q3⟩ := p3 x hxx
    refine ⟨q1, r, q2, ?_⟩
    rw [map_congr_mem (f := kfld g G s') (h := kfld g G s) (fun f hfm => by
      rcases f with c | z
      · obtain ⟨i, hi⟩ := List.getElem?_of_mem hfm
        have : c ≠ b := fun e => l10 _ hx x hxx i (by rw [hi, e])
        show kv G (_, s' c 0) = kv G (_, s c 0)
        rw [hs c this]
      · rfl)]
    exact q3.kept (h3 _ (by have : k + w ≠ x.1 := l3 x hxx _ hx w hw; omega))
  · intro x hxx
    obtain ⟨q1, q2, q3⟩ := p4 x hxx
    refine ⟨q1, q2, fun v hv => ⟨(q3 v hv).1, ?_⟩⟩
    by_cases e : x.2.2.1 + v = k + w
    · obtain ⟨e1, e2⟩ := l7 x hxx _ hx v w hv hw e
      subst e1; subst e2
      exact h1
    · rw [h3 _ (by omega)]
      refine (q3 v hv).2.trans (congrArg some (arrV_ext fun i hi => congrArg (kel x.2.1) ?_))
      by_cases e0 : x.1 = b
      · have e1 := l6 x hxx _ hx e0
        subst e1
        exact (hs2 v i (fun e9 => e (by rw [e9])) hi).symm
      · rw [hs _ e0]
  · intro x hxx
    obtain ⟨q1, q2, q3, q4, q5⟩ := p5 x hxx
    exact ⟨q1, q2, q3, q4, by rw [h3 _ (by have : x.1 ≠ k + w := l8 _ hx w hw x hxx; omega)]; exact q5⟩
  · intro x hxx
    obtain ⟨q1, d, mm, q2, q3⟩ := p6 x hxx
    refine ⟨q1, d, mm, q2, fun i hi => ?_⟩
    rw [hs _ (l9 _ hx x hxx)]
    exact q3 i hi
theorem kmul_lt {M R w j : Nat} (hw : w < R) (hj : j < M) : M * w + j < R * M := by
  have h1 : M * (w + 1) ≤ M * R := Nat.mul_le_mul_left M hw
  rw [Nat.mul_add, Nat.mul_one, Nat.mul_comm M R] at h1
  omega
theorem k_acopy {ix b1 b2 t R1 M1 k2 R2 M2 : Nat} {z1 : Int} {c1 c2 : Int × Int} (hLO : LOk L) (hB1 : kBlk g L b1 t R1 M1) (hg1 : g[b1]? = some (z1, (R1 : Int), (M1 : Int), kTag t, [c1])) (hb2 : (b2, t, k2, R2, M2) ∈ L.2.1) (hg2 : g[b2]? = some (2 * (k2 : Int) + 1, (R2 : Int), (M2 : Int), kTag t, [c2])) (hc : c2.1 ≤ c1.1 ∧ c1.2 ≤ c2.2) (hfit : ∀ z, c1.1 ≤ z → z ≤ c1.2 → fits (rTy t) (kel t z) = true)
    (w1 : Cond.methodLink own ix arraycopyName ∈ Ts) (w2 : Cond.native arraycopyName ∈ Ts) (w3 : Cond.static arraycopyName ∈ Ts) (w4 : Cond.initialized "java/lang/System" ∈ Ts) (hf : 1 ≤ fr) (hlo : 8 + (nativeFrameWords "java/lang/System" "arraycopy" 5 + 11) ≤ lo) (hd : decode cc pc = .ok (.invokestatic ix, 3)) :
    ∀ ls st s, wCall g (cpC z1 R1 M1 (2 * (k2 : Int) + 1) R2 M2 b2) (kW g L cl fo zs rs ns Ts G l cc nL own ret fr lo n Qf (pc + 3)) ls st s → kW g L cl fo zs rs ns Ts G l cc nL own ret fr lo n Qf pc ls st s := by
  rintro ls st s ⟨as, st', r, a0, rfl, ⟨hlen, ls1, hsub, hsat⟩, hlen4, hT, hV⟩ p e R s0 m args below meth c X hq9 rl H locs hl hP hL
  obtain ⟨hls, -, -, -, ⟨hbd, hfc, -⟩⟩ := hsat.now
  have hlen : as.length = 5 := hlen
  match as, hlen with
  | [v0, v1, v2, v3, v4], _ =>
  have x0 := hsub (0, (2, qe r (z1, [(3, 2)]))) (by rw [hls]; exact List.mem_cons_self)
  have x1 := hsub (1, (0, qe r (0, [(0, 1)]))) (by rw [hls]; exact List.mem_cons_of_mem _ List.mem_cons_self)
  have x2 := hsub (2, (2, qe r (2 * (k2 : Int) + 1, [(4, 2)]))) (by rw [hls]; exact List.mem_cons_of_mem _ (List.mem_cons_of_mem _ List.mem_cons_self))
  have x3 := hsub (3, (0, qe r (0, [(1, 1)]))) (by rw [hls]; exact List.mem_cons_of_mem _ (List.mem_cons_of_mem _ (List.mem_cons_of_mem _ List.mem_cons_self)))
  have x4 := hsub (4, (0, qe r (0, [(2, 1)]))) (by rw [hls]; exact List.mem_cons_of_mem _ (List.mem_cons_of_mem _ (List.mem_cons_of_mem _ (List.mem_cons_of_mem _ List.mem_cons_self))))
  cases lsArgs_hd x0
  cases lsArgs_hd (lsArgs_tl (by decide) (by decide) x1)
  cases lsArgs_hd (lsArgs_tl (by decide) (by decide) (lsArgs_tl (by decide) (by decide) x2))
  cases lsArgs_hd (lsArgs_tl (by decide) (by decide) (lsArgs_tl (by decide) (by decide) (lsArgs_tl (by decide) (by decide) x3)))
  cases lsArgs_hd (lsArgs_tl (by decide) (by decide) (lsArgs_tl (by decide) (by decide) (lsArgs_tl (by decide) (by decide) (lsArgs_tl (by decide) (by decide) x4))))
  have f0 := hbd (0, (0, (M1 : Int))) List.mem_cons_self
  have f1 := hbd (1, (0, (M2 : Int))) (List.mem_cons_of_mem _ List.mem_cons_self)
  have f2 := hbd (2, (0, (M2 : Int))) (List.mem_cons_of_mem _ (List.mem_cons_of_mem _ List.mem_cons_self))
  have f3 := hbd (3, (0, (R1 : Int) - 1)) (List.mem_cons_of_mem _ (List.mem_cons_of_mem _ (List.mem_cons_of_mem _ List.mem_cons_self)))
  have f4 := hbd (4, (0, (R2 : Int) - 1)) (List.mem_cons_of_mem _ (List.mem_cons_of_mem _ (List.mem_cons_of_mem _ (List.mem_cons_of_mem _ List.mem_cons_self))))
  have f5 := hfc ((M1 : Int), [(0, -1), (2, -1)]) List.mem_cons_self
  have f6 := hfc ((M2 : Int), [(1, -1), (2, -1)]) (List.mem_cons_of_mem _ List.mem_cons_self)
  obtain ⟨sp, e0⟩ := Int.eq_ofNat_of_zero_le f0.1
  obtain ⟨dp, e1⟩ := Int.eq_ofNat_of_zero_le f1.1
  obtain ⟨N, e2⟩ := Int.eq_ofNat_of_zero_le f2.1
  obtain ⟨wa, e3⟩ := Int.eq_ofNat_of_zero_le f3.1
  obtain ⟨wb, e4⟩ := Int.eq_ofNat_of_zero_le f4.1
  have e0 : r 0 = (sp : Int) := e0
  have e1 : r 1 = (dp : Int) := e1
  have e2 : r 2 = (N : Int) := e2
  have e3 : r 3 = (wa : Int) := e3
  have e4 : r 4 = (wb : Int) := e4
  have f3 : r 3 ≤ (R1 : Int) - 1 := f3.2
  have f4 : r 4 ≤ (R2 : Int) - 1 := f4.2
  have f5 : 0 ≤ (M1 : Int) + (-1 * r 0 + (-1 * r 2 + 0)) := f5
  have f6 : 0 ≤ (M2 : Int) + (-1 * r 1 + (-1 * r 2 + 0)) := f6
  have g3 : sp + N ≤ M1 := by omega
  have g4 : dp + N ≤ M2 := by omega
  have hwa : wa < R1 := by omega
  have hwb : wb < R2 := by omega
  have u0 : qe r (z1, [(3, 2)]) = z1 + 2 * (wa : Int) := by show z1 + (2 * r 3 + 0) = _; omega
  have u1 : qe r (0, [(0, 1)]) = (sp : Int) := by show (0 : Int) + (1 * r 0 + 0) = _; omega
  have u2 : qe r (2 * (k2 : Int) + 1, [(4, 2)]) = 2 * (k2 : Int) + 1 + 2 * (wb : Int) := by show 2 * (k2 : Int) + 1 + (2 * r 4 + 0) = _; omega
  have u3 : qe r (0, [(1, 1)]) = (dp : Int) := by show (0 : Int) + (1 * r 1 + 0) = _; omega
  have u4 : qe r (0, [(2, 1)]) = (N : Int) := by show (0 : Int) + (1 * r 2 + 0) = _; omega
  obtain ⟨a1, a2, -, -, a, cs, a3, a4, a5, a6, a7, a8, a9⟩ := karr_at X.2.2.2.2.2.1 hP hB1 hg1 (w := (wa : Int)) (by omega) (by show (wa : Int) < (R1 : Int); omega)
  have a3 : kv G (2, z1 + 2 * (wa : Int)) = .ref a := a3
  obtain ⟨b1', b2', b3'⟩ := hP.2.2.2.1 _ hb2
  have b2' : M2 ≤ 60000000 := b2'
  obtain ⟨b4, b5⟩ := b3' wb hwb
  have b5 : H[G.2.2.1 + (k2 + wb)]? = some (arrV (G.2.1 t) M2 (fun j => kel t (s b2 ((M2 : Int) * wb + j)))) := b5
  obtain ⟨ks0, ks, hks, sComp, hsk⟩ := a5
  obtain ⟨-, kd, hkd, dComp, hdk⟩ := X.2.2.2.2.2.1.arr (t := t) (by omega) M2 (fun j => kel t (s b2 ((M2 : Int) * wb + j)))
  have hR1 := X.2.2.2.2.2.2.2.2.2.2.1
  have hR2 := X.2.2.2.2.2.2.2.2.2.2.2
  have hget : ∀ i, i < N → cs.slots.getD ((nI sp).toNatClampNeg + i) .null = kel t (s b1 ((M1 : Int) * wa + (sp + i : Nat))) := fun i hi => by
    rw [nI_clamp (n := sp) (by omega), Array.getD_eq_getD_getElem?, a9 _ (by omega)]
    rfl
  have hbnd : ∀ i, i < N → c1.1 ≤ s b1 ((M1 : Int) * wa + (sp + i : Nat)) ∧ s b1 ((M1 : Int) * wa + (sp + i : Nat)) ≤ c1.2 := fun i hi => by
    have hk := kmul_lt (M := M1) (R := R1) (w := wa) (j := sp + i) hwa (by omega)
    obtain ⟨c9, d1, d2, d3⟩ := hT b1 _ hg1 ((M1 : Int) * wa + (sp + i : Nat)) (by rw [← Int.natCast_mul, ← Int.natCast_add]; exact Int.natCast_nonneg _) (by
      show (M1 : Int) * wa + (sp + i : Nat) < (R1 : Int) * (M1 : Int)
      rw [← Int.natCast_mul, ← Int.natCast_add, ← Int.natCast_mul]
      exact Int.ofNat_lt.mpr hk)
    have d1 : colAt [c1] ((M1 : Int) * wa + (sp + i : Nat)) = some c9 := d1
    rw [colAt_s] at d1
    cases d1
    exact ⟨d2, d3⟩
  show W _ _ _ _ _ _ _ _ _ _ _ _ _ _ _ (F0 _ _ _ (kv G (0, qe r (0, [(2, 1)])) :: kv G (0, qe r (0, [(1, 1)])) :: kv G (2, qe r (2 * (k2 : Int) + 1, [(4, 2)])) :: kv G (0, qe r (0, [(0, 1)])) :: kv G (2, qe r (z1, [(3, 2)])) :: st'.map (kv G)))
  rw [u0, u1, u2, u3, u4, kref, a3, kv_i, kv_i, kv_i, ofI_n, ofI_n, ofI_n]
  intro T hT0 Xs
  have hrank : (rTy t = .int ∨ rTy t = .long ∨ rTy t = .byte ∨ rTy t = .boolean) := by
    match t, a1 with
    | 0, _ => exact Or.inl rfl
    | 1, _ => exact Or.inr (Or.inl rfl)
    | 2, _ => exact Or.inr (Or.inr (Or.inl rfl))
    | 3, _ => exact Or.inr (Or.inr (Or.inr rfl))
  have hsm := ksum G X.2.2.2.2.2.1.2.2.1 st'
  obtain ⟨vm', X', step⟩ := Xs.arraycopy X.1 X.2.2.2.1 (X.2.2.2.2.1 _ w1) (X.2.2.2.2.1 _ w2) (X.2.2.2.2.1 _ w3) (X.2.2.2.2.1 _ w4) (src := a) (dst := G.2.2.1 + (k2 + wb)) (cs := cs) (srcPos := nI sp) (destPos := nI dp) (n := nI N) (by rw [hT0]; exact a4) (by rw [hT0]; exact b5)
    ks0 (fun _ h => by cases h) a6 (fun h => by cases h) hks hkd hsk hdk (by rcases hrank with h | h | h | h <;> rw [h] <;> rfl) (nI_pos (by omega)) (nI_pos (by omega)) (nI_pos (by omega))
    (by rw [nI_toInt (by omega), nI_toInt (by omega)]; omega)
    (by rw [nI_toInt (by omega), nI_toInt (by omega)]; show ¬ _ > ((arrV _ M2 _).slots.size : Int); rw [arrV_size]; omega)
    (fun vm₁ _ i hi => by
      rw [nI_clamp (n := N) (by omega)] at hi
      rw [hget i hi]
      have hfit' := hfit _ (hbnd i hi).1 (hbnd i hi).2
      refine ⟨hfit', ?_⟩
      rcases hrank with h | h | h | h <;> rw [h] at hfit' <;> revert hfit' <;> cases kel t (s b1 ((M1 : Int) * wa + (sp + i : Nat))) <;> intro hfit' <;> first | exact trivial | cases hfit')
    (g := F0 m pc rl (.int (nI N) :: .int (nI dp) :: .ref (G.2.2.1 + (k2 + wb)) :: .int (nI sp) :: .ref a :: st'.map (kv G))) rfl (by rw [X.2.2.1]; exact hl.1) (rest := st'.map (kv G)) rfl (by rw [X.2.1]; exact hd) (by rw [hR1]; exact hf) (by rw [hR2]; show 2 * 0 + _ + _ ≤ _; omega)
  let s' : qSg := fun cb i => if cb = b2 ∧ (M2 : Int) * wb + dp ≤ i ∧ i < (M2 : Int) * wb + dp + N then s b1 ((M1 : Int) * wa + sp + (i - ((M2 : Int) * wb + dp))) else s cb i
  have ec : copied cs (arrV (G.2.1 t) M2 (fun j => kel t (s b2 ((M2 : Int) * wb + j)))) (nI sp) (nI dp) (nI N) = arrV (G.2.1 t) M2 (fun j => kel t (s' b2 ((M2 : Int) * wb + j))) := by
    show (arrV (G.2.1 t) M2 (fun j => kel t (s b2 ((M2 : Int) * wb + j)))).storeRun (nI dp).toNatClampNeg (cs.stretch (nI sp).toNatClampNeg (nI N).toNatClampNeg) = _
    have es : cs.stretch (nI sp).toNatClampNeg (nI N).toNatClampNeg = (List.range N).map (fun i => kel t (s b1 ((M1 : Int) * wa + (sp + i : Nat)))) := by
      unfold Cell.stretch
      rw [nI_clamp (n := N) (by omega)]
      apply List.map_congr_left
      intro i hi
      exact hget i (List.mem_range.mp hi)
    rw [es, Cell.storeRun, va_pairs, nI_clamp (n := dp) (by omega)]
    congr 1
    funext j
    simp only [List.length_map, List.length_range, Nat.add_zero]
    show _ = kel t (if b2 = b2 ∧ (M2 : Int) * wb + dp ≤ (M2 : Int) * wb + j ∧ (M2 : Int) * wb + j < (M2 : Int) * wb + dp + N then s b1 ((M1 : Int) * wa + sp + ((M2 : Int) * wb + j - ((M2 : Int) * wb + dp))) else s b2 ((M2 : Int) * wb + j))
    by_cases h : dp ≤ j ∧ j < dp + N
    · rw [if_pos h, if_pos ⟨rfl, by omega, by omega⟩, List.getD_eq_getElem?_getD, List.getElem?_map, List.getElem?_range (by omega)]
      show kel t (s b1 ((M1 : Int) * wa + ((sp + (j - dp) : Nat) : Int))) = _
      congr 2
      omega
    · rw [if_neg h, if_neg (fun q => h ⟨by omega, by omega⟩)]
  rw [ec] at X' step
  have hl1 : G.2.2.1 + (k2 + wb) < H.size := (Array.getElem?_eq_some_iff.mp b5).1
  have hheap : ((T.setVm vm').setCell (G.2.2.1 + (k2 + wb)) (arrV (G.2.1 t) M2 (fun j => kel t (s' b2 ((M2 : Int) * wb + j))))).heap = H.setIfInBounds (G.2.2.1 + (k2 + wb)) (arrV (G.2.1 t) M2 (fun j => kel t (s' b2 ((M2 : Int) * wb + j)))) := by rw [← hT0]; rfl
  have hfr : ∀ cb : Nat, cb ≠ b2 → s' cb = s cb := fun cb hcb => by funext i; exact if_neg (fun q => hcb q.1)
  have hTy : Typed g s' := by
    intro b x hx i hi0 hi1
    by_cases eb : b = b2
    · subst eb
      rw [hg2] at hx
      cases hx
      by_cases h : b = b ∧ (M2 : Int) * wb + dp ≤ i ∧ i < (M2 : Int) * wb + dp + N
      · have es' : s' b i = s b1 ((M1 : Int) * wa + sp + (i - ((M2 : Int) * wb + dp))) := if_pos h
        refine ⟨c2, colAt_s c2 i, ?_⟩
        have hb := hbnd (i - ((M2 : Int) * wb + dp)).toNat (by omega)
        rw [show (M1 : Int) * wa + ((sp + (i - ((M2 : Int) * wb + dp)).toNat : Nat) : Int) = (M1 : Int) * wa + sp + (i - ((M2 : Int) * wb + dp)) by omega] at hb
        rw [es']
        omega
      · have es' : s' b i = s b i := if_neg h
        rw [es']
        exact hT b _ hg2 i hi0 hi1
    · rw [hfr b eb]
      exact hT b x hx i hi0 hi1
  have hpic : kPic g L cl fo G s' n (H.setIfInBounds (G.2.2.1 + (k2 + wb)) (arrV (G.2.1 t) M2 (fun j => kel t (s' b2 ((M2 : Int) * wb + j))))) := hP.arow hLO hb2 hwb hfr (fun v j hv hj => if_neg (fun q => by
      obtain ⟨-, q1, q2⟩ := q
      have h9 := kidx (M := M2) (v := v) (w := wb) (i := j) (j := (((M2 : Int) * v + j - (M2 : Int) * wb)).toNat) hv hj (by omega)
      omega)) (by simp [Array.getElem?_setIfInBounds, hl1]) (by simp) (fun q hq => by simp [Array.getElem?_setIfInBounds, Ne.symm hq])
  obtain ⟨t9, q1, q2⟩ := hV [] s' ⟨hTy, fun b hb => hfr b (fun e9 => hb (by rw [e9]; exact List.mem_cons_self)), _, List.mem_cons_self, r, a0, fun _ _ => rfl, fun _ _ => rfl, Gh.triv _ _ _, fun r' a' _ => ⟨rfl, rfl, (fun x hx => nomatch hx), (fun x hx => nomatch hx), (fun x hx => nomatch hx), (fun x hx => nomatch hx), (fun x hx => nomatch hx), (fun x hx => nomatch hx), (fun x hx => nomatch hx), (fun x hx => nomatch hx)⟩⟩ p e R s0 m args below meth c X hq9 rl _ _ hl hpic (fun x hx => by
    rcases List.mem_append.mp hx with h | h
    · exact hL x h
    · obtain ⟨z, -, hz⟩ := List.mem_map.mp h
      rw [← hz]
      exact Nat.le_add_right _ _) _ hheap X'
  exact ⟨t9, step t9 q1, q2⟩
end KR
