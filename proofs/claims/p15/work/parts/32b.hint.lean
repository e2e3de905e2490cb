/-! HINTS: cases, rules, places looked at, between instructions -/
/-- a form out of the stream: constant, how many terms, terms -/
noncomputable def zlin {β : Type} (s : List Nat) (k : qL → List Nat → Option β) : Option β := zp s (fun c s => zp s (fun n s => Nat.rec (motive := fun _ => qL → List Nat → Option β) (fun f s => k f s) (fun _ ih f s => zp s (fun v s => zp s (fun x s => qF (qA f (zz x) (qV1 v)) (fun f => ih f s)))) n (qC (zz c)) s))
theorem zlin_go {β : Type} {k : qL → List Nat → Option β} {o : β} : ∀ (n : Nat) (f : qL) (s : List Nat), (Nat.rec (motive := fun _ => qL → List Nat → Option β) (fun f s => k f s) (fun _ ih f s => zp s (fun v s => zp s (fun x s => qF (qA f (zz x) (qV1 v)) (fun f => ih f s)))) n f s) = some o → ∃ f s', k f s' = some o
  | 0, f, s, h => ⟨f, s, h⟩
  | n + 1, f, s, h => by
    obtain ⟨v, s1, h1⟩ := zp_some (s := s) h
    obtain ⟨x, s2, h2⟩ := zp_some h1
    rw [qF_eq] at h2
    exact zlin_go n _ s2 h2
theorem zlin_some {β : Type} {s : List Nat} {k : qL → List Nat → Option β} {o : β} (h : zlin s k = some o) : ∃ f s', k f s' = some o := by
  obtain ⟨c, s1, h1⟩ := zp_some h
  obtain ⟨n, s2, h2⟩ := zp_some h1
  exact zlin_go n _ s2 h2
noncomputable def zlins {β : Type} (n : Nat) (s : List Nat) (k : List qL → List Nat → Option β) : Option β := Nat.rec (motive := fun _ => List Nat → (List qL → List Nat → Option β) → Option β) (fun s k => k [] s) (fun _ ih s k => zlin s (fun f s => ih s (fun l s => k (f :: l) s))) n s k
theorem zlins_some {β : Type} {o : β} : ∀ (n : Nat) (s : List Nat) (k : List qL → List Nat → Option β), zlins n s k = some o → ∃ l s', k l s' = some o
  | 0, s, k, h => ⟨[], s, h⟩
  | n + 1, s, k, h => by
    obtain ⟨f, s1, h1⟩ := zlin_some (show zlin s (fun f s => zlins n s (fun l s => k (f :: l) s)) = some o from h)
    obtain ⟨l, s2, h2⟩ := zlins_some n s1 _ h1
    exact ⟨f :: l, s2, h2⟩
noncomputable def znats {β : Type} (n : Nat) (s : List Nat) (k : List Nat → List Nat → Option β) : Option β := Nat.rec (motive := fun _ => List Nat → (List Nat → List Nat → Option β) → Option β) (fun s k => k [] s) (fun _ ih s k => zp s (fun f s => ih s (fun l s => k (f :: l) s))) n s k
theorem znats_some {β : Type} {o : β} : ∀ (n : Nat) (s : List Nat) (k : List Nat → List Nat → Option β), znats n s k = some o → ∃ l s', k l s' = some o
  | 0, s, k, h => ⟨[], s, h⟩
  | n + 1, s, k, h => by
    obtain ⟨f, s1, h1⟩ := zp_some (s := s) (show zp s (fun f s => znats n s (fun l s => k (f :: l) s)) = some o from h)
    obtain ⟨l, s2, h2⟩ := znats_some n s1 _ h1
    exact ⟨f :: l, s2, h2⟩
/-- a rule's sentence: kind, numbers, coefficients. 0: the sum of coefficients (a constant first) times the numbers isn't negative; 1: function n0 at number n1 is number n2; 2: function n0 is n1 but for n3 at n2; 3 + p: property p of so many functions (n0 of them follow), then numbers -/
abbrev qSn : Type := Nat × (List Nat × List Int)
abbrev qRl : Type := List qSn × List qSn
def snSum : List Int → List Int → Int
  | c :: cs, z :: zs => c * z + snSum cs zs
  | _, _ => 0
def nthZ (zs : List Int) (i : Nat) : Int := (zs[i]?).getD 0
def nthF (fs : List (Int → Int)) (i : Nat) : Int → Int := (fs[i]?).getD (fun _ => 0)
def SnOk (fs : List (Int → Int)) (zs : List Int) (x : qSn) : Prop := match x with
  | (0, _, cs) => 0 ≤ snSum cs (1 :: zs)
  | (1, [a, b, c], _) => nthF fs a (nthZ zs b) = nthZ zs c
  | (2, [a, b, c, d], _) => ∀ i : Int, nthF fs a i = if i = nthZ zs c then nthZ zs d else nthF fs b i
  | (p + 3, n :: l, _) => PQ p ((l.take n).map (nthF fs)) ((l.drop n).map (nthZ zs))
  | _ => False
def RlOk (R : qRl) : Prop := ∀ (fs : List (Int → Int)) (zs : List Int), (∀ x ∈ R.1, SnOk fs zs x) → ∀ x ∈ R.2, SnOk fs zs x
noncomputable def zsum (cs : List Int) : List qL → qL → qL := List.rec (motive := fun _ => List qL → qL → qL) (fun _ a => a) (fun c _ ih fs a => List.rec (motive := fun _ => qL) a (fun f fs _ => qF (qA a c f) (fun a => ih fs a)) fs) cs
theorem zsum_ev (r : qW) : ∀ (cs : List Int) (fs : List qL) (a : qL), qe r (zsum cs fs a) = qe r a + snSum cs (fs.map (qe r))
  | [], fs, a => by show qe r a = qe r a + 0; omega
  | c :: cs, [], a => by show qe r a = qe r a + 0; omega
  | c :: cs, f :: fs, a => by
    show qe r (qF (qA a c f) (fun a => zsum cs fs a)) = qe r a + (c * qe r f + snSum cs (fs.map (qe r)))
    rw [qF_eq, zsum_ev r cs fs, qA_ev]; omega
noncomputable def zat {α : Type} (d : α) (l : List α) (i : Nat) : α := Option.rec d (fun x => x) (qNth l i)
theorem zat_z (r : qW) (l : List qL) (i : Nat) : qe r (zat (qC 0) l i) = nthZ (l.map (qe r)) i := by
  unfold zat nthZ
  rw [qNth_get, List.getElem?_map]
  cases l[i]? with
  | none => exact qC_ev r 0
  | some x => rfl
noncomputable def zaf (l : List Nat) (i : Nat) : Option Nat := qNth l i
theorem zaf_f {a : qX} {l : List Nat} {i v : Nat} (h : zaf l i = some v) : nthF (l.map a) i = a v := by
  unfold zaf at h
  rw [qNth_get] at h
  unfold nthF
  rw [List.getElem?_map, h]
  rfl
noncomputable def zqe {β : Type} (K : qK) (f f' : qL) (str : List Nat) (k : List Nat → Option β) : Option β := zg K (qA f (-1) f') str (fun str => zg K (qA f' (-1) f) str k)
theorem zqe_some {β : Type} {K : qK} {f f' : qL} {str : List Nat} {k : List Nat → Option β} {o : β} (h : zqe K f f' str k = some o) : (∃ s', k s' = some o) ∧ ∀ (g : qG) (r : qW) (a : qX), KnC g K r a → qe r f = qe r f' := by
  obtain ⟨⟨s1, h1⟩, p1⟩ := zg_some h
  obtain ⟨h2, p2⟩ := zg_some h1
  refine ⟨h2, fun g r a C => ?_⟩
  have q1 := p1 g r a C
  have q2 := p2 g r a C
  rw [qA_ev] at q1 q2
  omega
/-- a premise holds -/
noncomputable def zpm (K : qK) (vs : List Nat) (fs : List qL) (x : qSn) (str : List Nat) (k : List Nat → qR) : qR := match x with
  | (0, _, cs) => zg K (zsum cs (qC 1 :: fs) (qC 0)) str k
  | (1, [a, b, c], _) => Option.rec none (fun v => zp str (fun n str => zres K (zat (qC 0) fs b) n v str (fun z str => zqe K z (zat (qC 0) fs c) str k))) (zaf vs a)
  | (2, [a, b, c, d], _) => Option.rec none (fun v => Option.rec none (fun w => Option.rec none (fun y => qB (Nat.beq y.1 w) (zqe K y.2.1 (zat (qC 0) fs c) str (fun str => zqe K y.2.2 (zat (qC 0) fs d) str k)) none) (qFi (β := Int) K.2.2.2.2.2.2.1 v)) (zaf vs b)) (zaf vs a)
  | (p + 3, n :: l, _) => zp str (fun i str => Option.rec none (fun y => qB (Nat.beq y.1 p) (qB (zz2 (fun v w => Option.rec false (fun u => Nat.beq u w) (zaf vs v)) (l.take n) y.2.1) (qB (zz2 (fun j f => zc (qA (zat (qC 0) fs j) (-1) f) 0) (l.drop n) y.2.2) (k str) none) none) none) (qNth K.2.2.2.2.2.2.2 i))
  | _ => none
theorem zpm_ok {K : qK} {vs : List Nat} {fs : List qL} {x : qSn} {str : List Nat} {k : List Nat → qR} {o : List Nat} (h : zpm K vs fs x str k = some o) : (∃ s', k s' = some o) ∧ ∀ (g : qG) (r : qW) (a : qX), KnC g K r a → SnOk (vs.map a) (fs.map (qe r)) x := by
  unfold zpm at h
  split at h
  · obtain ⟨h1, p⟩ := zg_some h
    refine ⟨h1, fun g r a C => ?_⟩
    have := p g r a C
    rw [zsum_ev, qC_ev, List.map_cons, qC_ev] at this
    show 0 ≤ snSum _ (1 :: fs.map (qe r))
    omega
  · obtain ⟨v, e, h1⟩ := opt_some h
    obtain ⟨n, s1, h2⟩ := zp_some h1
    obtain ⟨z, s2, h3, p⟩ := zres_some _ _ _ _ h2
    obtain ⟨h4, p2⟩ := zqe_some h3
    refine ⟨h4, fun g r a C => ?_⟩
    show nthF (vs.map a) _ (nthZ (fs.map (qe r)) _) = nthZ (fs.map (qe r)) _
    rw [zaf_f e, ← zat_z, ← zat_z, p g r a C, p2 g r a C]
  · obtain ⟨v, e, h1⟩ := opt_some h
    obtain ⟨w, e2, h2⟩ := opt_some h1
    obtain ⟨y, e3, h3⟩ := opt_some h2
    obtain ⟨u1, h4⟩ := qB_y h3
    obtain ⟨⟨s1, h5⟩, p1⟩ := zqe_some h4
    obtain ⟨h6, p2⟩ := zqe_some h5
    refine ⟨h6, fun g r a C i => ?_⟩
    have q := C.2.2.2.1 _ (qFi_mem _ e3) i
    rw [zaf_f e, zaf_f e2, ← zat_z, ← zat_z, ← p1 g r a C, ← p2 g r a C]
    rw [Nat.eq_of_beq_eq_true u1] at q
    exact q
  · obtain ⟨i, s1, h1⟩ := zp_some h
    obtain ⟨y, e, h2⟩ := opt_some h1
    obtain ⟨u1, h3⟩ := qB_y h2
    obtain ⟨u2, h4⟩ := qB_y h3
    obtain ⟨u3, h5⟩ := qB_y h4
    refine ⟨⟨s1, h5⟩, fun g r a C => ?_⟩
    have q := C.2.2.2.2.2 y (qNth_mem _ _ e)
    rename_i p0 n0 l0 _
    show PQ p0 ((l0.take n0).map (nthF (vs.map a))) ((l0.drop n0).map (nthZ (fs.map (qe r))))
    rw [zz2_ok (f := nthF (vs.map a)) (h := a) (fun v w hvw => by
      cases e4 : zaf vs v with
      | none => rw [e4] at hvw; cases hvw
      | some u =>
        rw [e4] at hvw
        rw [zaf_f e4]
        have : u = w := Nat.eq_of_beq_eq_true hvw
        rw [this]) _ _ u2, zz2_ok (f := nthZ (fs.map (qe r))) (h := qe r) (fun j f hjf => by
      have := zc_t hjf r
      rw [qA_ev] at this
      rw [← zat_z]; omega) _ _ u3, ← Nat.eq_of_beq_eq_true u1]
    exact q
  · cases h
noncomputable def zpms (K : qK) (vs : List Nat) (fs : List qL) (l : List qSn) : List Nat → (List Nat → qR) → qR := List.rec (motive := fun _ => List Nat → (List Nat → qR) → qR) (fun s k => k s) (fun x _ ih s k => zpm K vs fs x s (fun s => ih s k)) l
theorem zpms_ok {K : qK} {vs : List Nat} {fs : List qL} {o : List Nat} : ∀ (l : List qSn) (s : List Nat) (k : List Nat → qR), zpms K vs fs l s k = some o → (∃ s', k s' = some o) ∧ ∀ (g : qG) (r : qW) (a : qX), KnC g K r a → ∀ x ∈ l, SnOk (vs.map a) (fs.map (qe r)) x
  | [], s, k, h => ⟨⟨s, h⟩, fun _ _ _ _ x hx => by cases hx⟩
  | y :: l, s, k, h => by
    obtain ⟨⟨s1, h1⟩, p1⟩ := zpm_ok (show zpm K vs fs y s (fun s => zpms K vs fs l s k) = some o from h)
    obtain ⟨h2, p2⟩ := zpms_ok l s1 k h1
    refine ⟨h2, fun g r a C x hx => ?_⟩
    rcases List.mem_cons.mp hx with rfl | hx
    · exact p1 g r a C
    · exact p2 g r a C x hx
/-- what a rule gives is known -/
noncomputable def kSn (vs : List Nat) (fs : List qL) (x : qSn) (K : qK) : Option qK := match x with
  | (0, _, cs) => qF (zsum cs (qC 1 :: fs) (qC 0)) (fun f => some (kFact K f))
  | (p + 3, n :: l, _) => Option.rec none (fun us => some (K.1, K.2.1, K.2.2.1, K.2.2.2.1, K.2.2.2.2.1, K.2.2.2.2.2.1, K.2.2.2.2.2.2.1, (p, us, (l.drop n).map (zat (qC 0) fs)) :: K.2.2.2.2.2.2.2)) (zmap (zaf vs) (l.take n))
  | _ => none
section
variable {γ : qGh}
theorem kSn_ok {g : qG} {vs : List Nat} {fs : List qL} {x : qSn} {S : qS} {K : qK} (h : kSn vs fs x S.2.2.2 = some K) {r : qW} {a : qX} {ls : qLS} {st : List qV} {s : qSg} (hS : Sat γ g S r a ls st s) (hx : ∀ r' a', agr S.2.2.2 r r' a a' → SatC g S r' a' ls st s → SnOk (vs.map a') (fs.map (qe r')) x) : Sat γ g (S.1, S.2.1, S.2.2.1, K) r a ls st s ∧ K.1 = S.2.2.2.1 ∧ K.2.2.2.1 = S.2.2.2.2.2.2.1 := by
  unfold kSn at h
  split at h
  · rw [qF_eq] at h
    cases h
    refine ⟨hS.fact _ (fun r' a' hg C => ?_), rfl, rfl⟩
    have := hx r' a' hg C
    rw [zsum_ev, qC_ev, List.map_cons, qC_ev]
    have q : 0 ≤ snSum _ (1 :: fs.map (qe r')) := this
    omega
  · obtain ⟨us, e, h1⟩ := opt_some h
    cases h1
    refine ⟨⟨hS.1, fun r' a' hg => ?_⟩, rfl, rfl⟩
    obtain ⟨c1, c2, c3, c4, k1, k2, k3, k4, k5, k6⟩ := hS.2 r' a' hg
    refine ⟨c1, c2, c3, c4, k1, k2, k3, k4, k5, ?_⟩
    intro y hy
    rcases List.mem_cons.mp hy with rfl | hy
    · have q := hx r' a' hg (hS.2 r' a' hg)
      rename_i p0 n0 l0 _
      have q2 : PQ p0 ((l0.take n0).map (nthF (vs.map a'))) ((l0.drop n0).map (nthZ (fs.map (qe r')))) := q
      rw [zmap_eq (p := nthF (vs.map a')) (q := a') (fun v w hvw => zaf_f hvw) _ _ e] at q2
      show PQ p0 (us.map a') (((l0.drop n0).map (zat (qC 0) fs)).map (qe r'))
      rw [List.map_map, map_congr_mem (f := qe r' ∘ zat (qC 0) fs) (h := nthZ (fs.map (qe r'))) (fun j _ => zat_z r' fs j)]
      exact q2
    · exact k6 y hy
  · cases h
noncomputable def zcns (vs : List Nat) (fs : List qL) (l : List qSn) (K : qK) (k : qK → qR) : qR := List.rec (motive := fun _ => qK → qR) (fun K => k K) (fun x _ ih K => Option.rec none (fun K => ih K) (kSn vs fs x K)) l K
theorem zcns_ok {g : qG} {vs : List Nat} {fs : List qL} {k : qK → qR} {o : List Nat} {r : qW} {a : qX} {ls : qLS} {st : List qV} {s : qSg} : ∀ (l : List qSn) (S : qS), zcns vs fs l S.2.2.2 k = some o → Sat γ g S r a ls st s → (∀ r' a', agr S.2.2.2 r r' a a' → SatC g S r' a' ls st s → ∀ x ∈ l, SnOk (vs.map a') (fs.map (qe r')) x) → ∃ K, k K = some o ∧ Sat γ g (S.1, S.2.1, S.2.2.1, K) r a ls st s
  | [], S, h, hS, _ => ⟨_, h, hS⟩
  | x :: l, S, h, hS, hx => by
    obtain ⟨K, e, h1⟩ := opt_some (show Option.rec (motive := fun _ => qR) none (fun K => zcns vs fs l K k) (kSn vs fs x S.2.2.2) = some o from h)
    obtain ⟨h2, e1, e2⟩ := kSn_ok e hS (fun r' a' hg C => hx r' a' hg C x List.mem_cons_self)
    exact zcns_ok l (S.1, S.2.1, S.2.2.1, K) h1 h2 (fun r' a' hg C y hy => by
      have hg' : agr S.2.2.2 r r' a a' := ⟨fun v hv => hg.1 v (by show v < K.1; rw [e1]; exact hv), fun v hv => hg.2 v (by show v < K.2.2.2.1; rw [e2]; exact hv)⟩
      exact hx r' a' hg' (hS.2 r' a' hg') y (List.mem_cons_of_mem _ hy))
/-- a rule is used -/
noncomputable def zrule (R : qRl) (nv nz : Nat) (S : qS) (str : List Nat) (k : qKk) : qR := znats nv str (fun vs str => zlins nz str (fun fs str => qB (zall (fun v => Nat.blt v S.2.2.2.2.2.2.1) vs) (qB (zall (zwl S.2.2.2.1) fs) (zpms S.2.2.2 vs fs R.1 str (fun str => zcns vs fs R.2 S.2.2.2 (fun K => k (S.1, S.2.1, S.2.2.1, K) str))) none) none))
theorem zrule_ok {g : qG} {R : qRl} (hR : RlOk R) {nv nz : Nat} {S : qS} {str : List Nat} {k : qKk} {o : List Nat} (h : zrule R nv nz S str k = some o) {r : qW} {a : qX} {ls : qLS} {st : List qV} {s : qSg} (hS : Sat γ g S r a ls st s) : ∃ S' str', k S' str' = some o ∧ Sat γ g S' r a ls st s := by
  obtain ⟨vs, s1, h1⟩ := znats_some _ _ _ h
  obtain ⟨fs, s2, h2⟩ := zlins_some _ _ _ h1
  obtain ⟨w1, h3⟩ := qB_y h2
  obtain ⟨w2, h4⟩ := qB_y h3
  obtain ⟨⟨s3, h5⟩, p⟩ := zpms_ok _ _ _ h4
  obtain ⟨K, h6, h7⟩ := zcns_ok R.2 S h5 hS (fun r' a' hg C => hR _ _ (p g r' a' C.2.2.2.2))
  exact ⟨_, s3, h6, h7⟩
noncomputable def zseq0 (x : qR) (k : List Nat → qR) : qR := Option.rec none (fun s => k s) x
/-- the hints of a place: 0 no more; 1 two cases; 2 a rule; 3 a place looked at; 4 it can't be so -/
noncomputable def zhint (rl : Nat → Option qRl) (n : Nat) : qS → List Nat → qKk → qR := Nat.rec (motive := fun _ => qS → List Nat → qKk → qR) (fun _ _ _ => none) (fun _ ih S str k => zp str (fun c str =>
  Nat.rec (motive := fun _ => qR) (k S str) (fun c _ =>
  Nat.rec (motive := fun _ => qR) (zlin str (fun f str => qB (zwl S.2.2.2.1 f) (zseq0 (ih (S.1, S.2.1, S.2.2.1, kFact S.2.2.2 f) str k) (fun str => ih (S.1, S.2.1, S.2.2.1, kFact S.2.2.2 (qA (qC (-1)) (-1) f)) str k)) none)) (fun c _ =>
  Nat.rec (motive := fun _ => qR) (zp str (fun i str => zp str (fun nv str => zp str (fun nz str => Option.rec none (fun R => zrule R nv nz S str (fun S str => ih S str k)) (rl i))))) (fun c _ =>
  Nat.rec (motive := fun _ => qR) (zp str (fun v str => zlin str (fun f str => qB (Nat.blt v S.2.2.2.2.2.2.1) (qB (zwl S.2.2.2.1 f) (ih (S.1, S.2.1, S.2.2.1, kRead (kVar0 S.2.2.2) v f (qV1 S.2.2.2.1)) str k) none) none))) (fun _ _ =>
    zg S.2.2.2 (qC (-1)) str (fun str => some str)) c) c) c) c)) n
theorem zhint_ok {g : qG} {md : List Nat} {se : qSg} {rl : Nat → Option qRl} (hL : ∀ n R, rl n = some R → RlOk R) {P : qP} {k : qKk} (hk : ∀ (S' : qS) (str' o' : List Nat), k S' str' = some o' → ∀ r a ls st s, qJ g md se s → Sat γ g S' r a ls st s → P ls st s) : ∀ (n : Nat) (S : qS) (str o : List Nat), zhint rl n S str k = some o → ∀ r a ls st s, qJ g md se s → Sat γ g S r a ls st s → P ls st s
  | 0, S, str, o, h => by cases h
  | n + 1, S, str, o, h => by
    intro r a ls st s hT hS
    obtain ⟨c, s1, h1⟩ := zp_some (s := str) h
    match c with
    | 0 => exact hk S s1 o h1 r a ls st s hT hS
    | 1 =>
      obtain ⟨f, s2, h2⟩ := zlin_some (show zlin s1 (fun f str => qB (zwl S.2.2.2.1 f) (zseq0 (zhint rl n (S.1, S.2.1, S.2.2.1, kFact S.2.2.2 f) str k) (fun str => zhint rl n (S.1, S.2.1, S.2.2.1, kFact S.2.2.2 (qA (qC (-1)) (-1) f)) str k)) none) = some o from h1)
      obtain ⟨w, h3⟩ := qB_y h2
      obtain ⟨s3, h4, h5⟩ := opt_some h3
      by_cases c : 0 ≤ qe r f
      · exact zhint_ok hL hk n _ s2 s3 h4 r a ls st s hT (hS.fact f (fun r' a' hg C => by rw [zwl_ok hg.1 w]; exact c))
      · exact zhint_ok hL hk n _ s3 o h5 r a ls st s hT (hS.fact _ (fun r' a' hg C => by rw [qA_ev, qC_ev, zwl_ok hg.1 w]; omega))
    | 2 =>
      obtain ⟨i, s2, h2⟩ := zp_some (s := s1) (show zp s1 (fun i str => zp str (fun nv str => zp str (fun nz str => Option.rec (motive := fun _ => qR) none (fun R => zrule R nv nz S str (fun S str => zhint rl n S str k)) (rl i)))) = some o from h1)
      obtain ⟨nv, s3, h3⟩ := zp_some h2
      obtain ⟨nz, s4, h4⟩ := zp_some h3
      obtain ⟨R, e, h5⟩ := opt_some h4
      obtain ⟨S', s5, h6, h7⟩ := zrule_ok (hL _ _ e) h5 hS
      exact zhint_ok hL hk n S' s5 o h6 r a ls st s hT h7
    | 3 =>
      obtain ⟨v, s2, h2⟩ := zp_some (s := s1) (show zp s1 (fun v str => zlin str (fun f str => qB (Nat.blt v S.2.2.2.2.2.2.1) (qB (zwl S.2.2.2.1 f) (zhint rl n (S.1, S.2.1, S.2.2.1, kRead (kVar0 S.2.2.2) v f (qV1 S.2.2.2.1)) str k) none) none)) = some o from h1)
      obtain ⟨f, s3, h3⟩ := zlin_some h2
      obtain ⟨w1, h4⟩ := qB_y h3
      obtain ⟨w2, h5⟩ := qB_y h4
      have hV := hS.var0 (a v (qe r f))
      refine zhint_ok hL hk n _ s3 o h5 (wUp r S.2.2.2.1 (a v (qe r f))) a ls st s hT (hV.read v f (qV1 S.2.2.2.1) (fun r' a' hg C => ?_))
      have g1 : ∀ u, u < S.2.2.2.1 → r' u = r u := fun u hu => by
        rw [hg.1 u (Nat.lt_succ_of_lt hu)]; exact if_neg (Nat.ne_of_lt hu)
      rw [qV1_ev, hg.1 _ (Nat.lt_succ_self _), wUp_same, hg.2 v (blt_t w1), zwl_ok g1 w2]
    | c + 4 =>
      obtain ⟨-, p⟩ := zg_some (show zg S.2.2.2 (qC (-1)) s1 (fun str => some str) = some o from h1)
      have q := p g r a hS.now.2.2.2.2
      rw [qC_ev] at q
      omega
end
