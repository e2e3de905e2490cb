/-! METHODS THAT RETURN OR THROW -/
section KR
variable {g : qG} {L : kLay} {cl : List vw_C} {fo : List rCC} {zs : List (String × String × String × rCV)} {rs : List (String × Nat × String × Nat)} {ns : List Cond} {Ts : List Cond} {G : rGm}
variable {l : Launch} {cc : ByteArray} {nL n : Nat} {own : String} {pc : Nat} {ret : Option FieldType} {fr lo : Nat}
/-- more cells, the old ones as they were -/
theorem kPic.more {s : qSg} {H H' : Heap} (hP : kPic g L cl fo G s n H) (h1 : H.size ≤ H'.size) (hk : ∀ q : Nat, q < H.size → H'[q]? = H[q]?) : kPic g L cl fo G s n H' := by
  obtain ⟨p1, p2, p3, p4, p5, p6⟩ := hP
  refine ⟨by omega, fun q hq => (hk q (by omega)).trans (p2 q hq), fun x hx => ?_, fun x hx => ?_, fun x hx => ?_, p6⟩
  · obtain ⟨q1, r, q2, q3⟩ := p3 x hx
    exact ⟨by omega, r, q2, q3.kept (hk _ (by omega))⟩
  · obtain ⟨q1, q2, q3⟩ := p4 x hx
    exact ⟨q1, q2, fun w hw => ⟨by have := (q3 w hw).1; omega, (hk _ (by have := (q3 w hw).1; omega)).trans (q3 w hw).2⟩⟩
  · obtain ⟨q1, q2, q3, q4, q5⟩ := p5 x hx
    exact ⟨q1, q2, q3, by omega, (hk _ (by omega)).trans q5⟩
/-- what is said of a throw: of the exception's class, of the store -/
def kXC (g : qG) (L : kLay) (cl : List vw_C) (fo : List rCC) (G : rGm) (n : Nat) (Rx : String → qSg → Prop) : String → State → State → Prop := fun E _ t => ∃ s' : qSg, Rx E s' ∧ kPic g L cl fo G s' n t.heap
abbrev kXQ (g : qG) (L : kLay) (cl : List vw_C) (fo : List rCC) (zs : List (String × String × String × rCV)) (rs : List (String × Nat × String × Nat)) (ns : List Cond) (G : rGm) (n : Nat) (Rr : List qV → qSg → Prop) (Rx : String → qSg → Prop) : kQf := (fun R => 1 ≤ R.cells ∧ 6 ≤ R.slots, ((0, 0), fun below args s => vx_MQ below (kQ g L cl fo zs rs ns G n Rr) (kXC g L cl fo G n Rx) args s 1 6 (fun q => G.2.2.1 ≤ q)))
variable {Rr : List qV → qSg → Prop} {Rx : String → qSg → Prop}
theorem yEh_x {Rn : List qV → qSg → Prop} (hR : ∀ v s, Rr [v] s → Rn [v] s) (hr : ret ≠ none) : yEh (kW g L cl fo zs rs ns Ts G l cc nL own ret fr lo n (kXQ g L cl fo zs rs ns G n Rn Rx)) cc ret Rr := by
  refine ⟨fun h => absurd h hr, fun ty lo1 hi1 hr hn pc hd V j1 j2 k1 k2 => ?_, fun hr lo1 hi1 pc hd V j1 j2 k1 k2 => ?_⟩
  · rintro ls st s ⟨z, a, b, rfl, h1, h2, h3, hRr⟩ p e R9 s0 m args below meth c X hR9 rl H locs hl hP hL
    cases h1
    exact vx_ret (W.widen (Nat.zero_le 1) (Nat.zero_le 6) (W.zret X.1 X.2.1 (X.2.2.2.2.2.2.2.2.1.trans hr) (hn z h2 h3) (fun t ht hW => ⟨[(0, z)], s, rfl, Nat.le_refl _, hR _ _ hRr, by rw [ht]; exact hP, X.2.2.2.2.2.1.warm hW⟩) hL hd X.2.2.2.2.2.2.1))
  · rintro ls st s ⟨z, a, b, rfl, h1, h2, h3, hRr⟩ p e R9 s0 m args below meth c X hR9 rl H locs hl hP hL
    exact vx_ret (W.widen (Nat.zero_le 1) (Nat.zero_le 6) (W.lret X.1 X.2.1 (X.2.2.2.2.2.2.2.2.1.trans hr) (fun t ht hW => ⟨[(1, z)], s, rfl, Nat.le_refl _, hR _ _ hRr, by rw [ht]; exact hP, X.2.2.2.2.2.1.warm hW⟩) hL hd X.2.2.2.2.2.2.1))
/-- 'throw new cls(text)' -/
theorem kx_thr {i ik is ic : Nat} {cls text : String} {Rn : List qV → qSg → Prop} (names : List String) (hl : l.stackTraces = false) (hown : own ≠ "NativeWorksLaw") (hcls : Bundle.fit cls = true) (hnames : ∀ n ∈ names, Bundle.fit n = true)
    (w1 : Cond.classLink own ik cls ∈ Ts) (w2 : Cond.initialized cls ∈ Ts) (hstr : (own, is, text, i) ∈ rs) (hat : ∀ w ∈ vx_atS own ic cls names, w ∈ Ts ∨ (w ∈ ns ∧ w.onTables = true)) (hgood : ∀ w ∈ Cond.classLink own ik cls :: Cond.initialized cls :: vx_atS own ic cls names, vx_ot w = true)
    (d0 : decode cc pc = .ok (.new ik, 3)) (d3 : decode cc (pc + 3) = .ok (.dup, 1)) (d4 : decode cc (pc + 4) = .ok (.ldc is, 2)) (d6 : decode cc (pc + 6) = .ok (.invokespecial ic, 3)) (d9 : decode cc (pc + 9) = .ok (.athrow, 1))
    (hf : names.length + 3 < fr) (hlo : 13 * (names.length + 1) + 43 ≤ lo) (hx : ∀ s, Rr [] s → Rx cls s) : ∀ ls st s, (st = [] ∧ Rr [] s) → kW g L cl fo zs rs ns Ts G l cc nL own ret fr lo n (kXQ g L cl fo zs rs ns G n Rn Rx) pc ls st s := by
  rintro ls st s ⟨rfl, hRr⟩ p e R s0 m args below meth c X hR9 rl H locs hL0 hP hL
  obtain ⟨a, h1, h2⟩ := X.2.2.2.2.2.1.2.2.2.2.1 _ hstr
  have hR1 := X.2.2.2.2.2.2.2.2.2.2.1
  have hR2 := X.2.2.2.2.2.2.2.2.2.2.2
  have h8 := X.2.2.2.2.2.2.2.1
  have hz := X.2.2.2.2.2.1.2.1.1
  obtain ⟨⟨r1, r2⟩, -, -⟩ := hR9
  have hq : ∀ a : Nat, a < G.2.2.2.2.size → ¬ G.2.2.1 ≤ a → s0.heap[a]? = G.2.2.2.2[a]? := fun a _ ha => h8.2.1 a (by omega)
  intro T hT Xs
  have hge : s0.heap.size ≤ H.size := by
    have h9 := Xs.same.2.1
    rw [← hT]; exact h9
  refine (ux_throwS (A := fun q => G.2.2.1 ≤ q) X.1 X.2.1 hl X.2.2.2.1 hcls hnames (X.2.2.2.2.1 _ w1) (X.2.2.2.2.1 _ w2) h2 (fun w hw => ?_) hgood (vx_Zq.kept hz.2.1 hq) (vx_Zq.kept hz.2.2 hq) ⟨?_, fun q hq hA => ?_, hL⟩ (by rw [X.2.2.1]; exact hL0.1) d0 d3 d4 d6 d9 (fun x hx => (h8.2.2 hown x hx).elim) (by rw [hR1]; exact hf) (by rw [hR2]; show 0 + _ ≤ _; omega) (by omega) (by omega) X.2.2.2.2.2.2.1 (fun t hvm hs hk => ?_) hL (Nat.le_refl _) (Nat.le_refl _)) T hT Xs
  · rcases hat w hw with q | ⟨q, q2⟩
    · exact X.2.2.2.2.1 _ q
    · exact va_Nw.use q2 (X.2.2.2.2.2.1.2.1.2 _ q).1
  · exact hge
  · rw [hP.2.1 q (by omega)]
    exact (h8.2.1 q (by omega)).symm
  · have h9 := hP.1
    exact ⟨s, hx s hRr, hP.more (by omega) hk⟩
/-- the same of NoSuchElementException -/
theorem kx_thrN {i ik is ic : Nat} {text : String} {Rn : List qV → qSg → Prop} (hl : l.stackTraces = false) (hown : own ≠ "NativeWorksLaw")
    (w1 : Cond.classLink own ik nxE ∈ Ts) (w2 : Cond.initialized nxE ∈ Ts) (hstr : (own, is, text, i) ∈ rs) (hat : ∀ w ∈ nx_at own ic, w ∈ Ts ∨ (w ∈ ns ∧ w.onTables = true)) (hgood : ∀ w ∈ Cond.classLink own ik nxE :: Cond.initialized nxE :: nx_at own ic, vx_ot w = true)
    (d0 : decode cc pc = .ok (.new ik, 3)) (d3 : decode cc (pc + 3) = .ok (.dup, 1)) (d4 : decode cc (pc + 4) = .ok (.ldc is, 2)) (d6 : decode cc (pc + 6) = .ok (.invokespecial ic, 3)) (d9 : decode cc (pc + 9) = .ok (.athrow, 1))
    (hf : 5 < fr) (hlo : 82 ≤ lo) (hx : ∀ s, Rr [] s → Rx nxE s) : ∀ ls st s, (st = [] ∧ Rr [] s) → kW g L cl fo zs rs ns Ts G l cc nL own ret fr lo n (kXQ g L cl fo zs rs ns G n Rn Rx) pc ls st s := by
  rintro ls st s ⟨rfl, hRr⟩ p e R s0 m args below meth c X hR9 rl H locs hL0 hP hL
  obtain ⟨a, h1, h2⟩ := X.2.2.2.2.2.1.2.2.2.2.1 _ hstr
  have hR1 := X.2.2.2.2.2.2.2.2.2.2.1
  have hR2 := X.2.2.2.2.2.2.2.2.2.2.2
  have h8 := X.2.2.2.2.2.2.2.1
  have hz := X.2.2.2.2.2.1.2.1.1
  obtain ⟨⟨r1, r2⟩, -, -⟩ := hR9
  have hq : ∀ a : Nat, a < G.2.2.2.2.size → ¬ G.2.2.1 ≤ a → s0.heap[a]? = G.2.2.2.2[a]? := fun a _ ha => h8.2.1 a (by omega)
  intro T hT Xs
  have hge : s0.heap.size ≤ H.size := by
    have h9 := Xs.same.2.1
    rw [← hT]; exact h9
  refine (nx_throwS (A := fun q => G.2.2.1 ≤ q) X.1 X.2.1 hl X.2.2.2.1 (X.2.2.2.2.1 _ w1) (X.2.2.2.2.1 _ w2) h2 (fun w hw => ?_) hgood (vx_Zq.kept hz.2.1 hq) (vx_Zq.kept hz.2.2 hq) ⟨?_, fun q hq hA => ?_, hL⟩ (by rw [X.2.2.1]; exact hL0.1) d0 d3 d4 d6 d9 (fun x hx => (h8.2.2 hown x hx).elim) (by rw [hR1]; exact hf) (by rw [hR2]; show 0 + _ ≤ _; omega) (by omega) (by omega) X.2.2.2.2.2.2.1 (fun t hvm hs hk => ?_) hL (Nat.le_refl _) (Nat.le_refl _)) T hT Xs
  · rcases hat w hw with q | ⟨q, q2⟩
    · exact X.2.2.2.2.1 _ q
    · exact va_Nw.use q2 (X.2.2.2.2.2.1.2.1.2 _ q).1
  · exact hge
  · rw [hP.2.1 q (by omega)]
    exact (h8.2.1 q (by omega)).symm
  · have h9 := hP.1
    exact ⟨s, hx s hRr, hP.more (by omega) hk⟩
end KR
section KR
variable {g : qG} {L : kLay} {cl : List vw_C} {fo : List rCC} {zs : List (String × String × String × rCV)} {rs : List (String × Nat × String × Nat)} {ns : List Cond} {Ts : List Cond}
variable {l : Launch} {ret : Option FieldType} {fr lo : Nat}
/-- the method returns or throws as contract C tells; EX: which exceptions -/
def kMetX (g : qG) (L : kLay) (cl : List vw_C) (fo : List rCC) (zs : List (String × String × String × rCV)) (rs : List (String × Nat × String × Nat)) (ns : List Cond) (Ts : List Cond) (l : Launch) (y : MethodName) (bytes : ByteArray) (maxL : Nat) (ret : Option FieldType) (fr lo : Nat) (C : qCt) (EX : String → Prop) : Prop :=
  ∀ (G : rGm) (n : Nat) (s : qSg) (r : qW) (a : qX) (as : List qV), Typed g s → CtBeg g C as s r a →
    vx_Met l y (.code y bytes maxL ret :: Ts) { frames := fr, cells := 1, slots := 6, locals := lo } (va_Pc (as.map (kv G)) (fun U => kPic g L cl fo G s n U.heap ∧ rKK cl fo zs rs ns G U)) (kQ g L cl fo zs rs ns G n (fun res s' => (∃ v, res = [v]) ∧ CtEnd g C r a s res s')) (kXC g L cl fo G n (fun E s' => EX E ∧ CtEnd g C r a s [] s')) 1 6 (fun q => G.2.2.1 ≤ q)
theorem kmetx_y {y : MethodName} {bytes : ByteArray} {maxL rt : Nat} {C : qCt} {cts : List qCt} {code : qCd} {P : List Nat} {tb : yTb} {mt : yMt} {GH : List Nat} {EX : String → Prop} (hy : plainName y.cls = true) (h : yRun g cts code C) (hw : zwid C.2.1.1 C.1 0 maxL = true) (hp : P[0]? = some 0)
    (hr : yRows g L tb mt GH maxL rt (zby bytes) P code P = true) (hLO : LOk L) (hLa : yLa g L) (hT : yTO cl zs ns Ts y.cls tb) (hG : ∀ b ∈ GH, kGhost L b = true) (hrt : yRt rt ret) (hrn : ret ≠ none)
    (hC : ∀ (G : rGm) (n : Nat) (Qf : kQf), ∀ x ∈ mt.1, ∃ C, cts[x.2.2]? = some C ∧ ySite g L cl fo zs rs ns Ts G l bytes maxL y.cls ret fr lo n Qf x.1 x.2.1 C)
    (hM : mt.2.1 = []) (hS : mt.2.2.1 = [])
    (hX : ∀ (G : rGm) (n : Nat) (Rr : List qV → qSg → Prop), ∀ x ∈ mt.2.2.2, ∀ ls st s, (st = [] ∧ Rr [] s) → kW g L cl fo zs rs ns Ts G l bytes maxL y.cls ret fr lo n (kXQ g L cl fo zs rs ns G n (fun res s' => (∃ v, res = [v]) ∧ Rr res s') (fun E s' => EX E ∧ Rr [] s')) x ls st s) :
    kMetX g L cl fo zs rs ns Ts l y bytes maxL ret fr lo C EX := by
  intro G n s r a as hTy hB
  refine vx_ofW (cc := bytes) (maxL := maxL) (ret := ret) hy rfl ?_
  intro p e s0 m args below meth c s₁ B hml ht hv
  obtain ⟨rfl, hP, hKK⟩ := hv
  have hts := atoms_spec (ws := .code y bytes maxL ret :: Ts) B.pre
  have hAll := yRows_ok (G := G) (n := n) (Qf := kXQ g L cl fo zs rs ns G n (fun res s' => (∃ v, res = [v]) ∧ CtEnd g C r a s res s') (fun E s' => EX E ∧ CtEnd g C r a s [] s')) (Rr := CtEnd g C r a s) hLO hLa hT hG (hC G n _) (fun x hx => by rw [hM] at hx; cases hx) (yEh_x (fun v s9 h9 => ⟨⟨v, rfl⟩, h9⟩) hrn) hrt (fun x hx => by rw [hS] at hx; cases hx) (hX G n (CtEnd g C r a s)) code P hr
  have hV := kV_rule (K := kW g L cl fo zs rs ns Ts G l bytes maxL y.cls ret fr lo n (kXQ g L cl fo zs rs ns G n (fun res s' => (∃ v, res = [v]) ∧ CtEnd g C r a s res s') (fun E s' => EX E ∧ CtEnd g C r a s [] s'))) (fun t ls ls' st s h1 h2 => k_sub h1 h2) hAll
  have hVV := kV_at hp (h s r a as hTy hB _ hV)
  obtain ⟨hlen, ls, hsub, hsat⟩ := hB
  have h3 := zwid_ok (r := r) G hKK.2.2.1 as 0 (by rw [hlen]; exact hw) (fun q hq _ => hsub q (by rw [hsat.now.1]; exact hq))
  rw [Nat.zero_add] at h3
  have hl := lv_entry (as.map (kv G)) (n := maxL) h3
  rw [lg_entry_eq]
  rw [← kLv_args G hKK.2.2.1] at hl
  exact hVV p e { frames := fr, cells := 1, slots := 6, locals := lo } s0 m (as.map (kv G)).toArray below meth c ⟨B.exec, B.bytes, hml, findClass_of_methodNamed B.named, fun q hq => hts q (List.mem_cons_of_mem _ hq), hKK, B.notSynchronized, ⟨Nat.le_trans (Nat.le_add_right _ _) hP.1, hP.2.1, fun _ => ht⟩, B.returns, (fun hi => Bool.noConfusion hi), rfl, rfl⟩ ⟨⟨Nat.le_refl _, Nat.le_refl _⟩, Nat.zero_le _, Nat.zero_le _⟩ _ s0.heap [] hl hP (fun x hx => by cases hx)
end KR
