/-! SYMBOLIC STATES AND WHAT THEY SAY -/
/-- a symbolic value: tag 0 int, 1 long, 2 reference, of the first form; 3 the int that compares the two forms -/
abbrev qSV : Type := Nat × (qL × qL)
abbrev qW : Type := Nat → Int
abbrev qX : Type := Nat → Int → Int
/-- what is known: next unknown, bounds, facts (forms that aren't negative), next version, versions' blocks, places read: version, index, value; versions written: the new one, the old one, index, value -/
abbrev qK : Type := Nat × (qBd × (List qL × (Nat × (List (Nat × Nat) × (List (Nat × (qL × qL)) × (List (Nat × (Nat × (qL × qL))) × List (Nat × (List Nat × List qL))))))))
/-- fields that were touched and what they hold; arrays that were touched and their versions -/
abbrev qMm : Type := List (Nat × qL) × List (Nat × Nat)
abbrev qS : Type := List (Nat × qSV) × (List qSV × (qMm × qK))
def qden (r : qW) (v : qSV) : qV := if v.1 = 3 then (0, cmpZ (qe r v.2.1) (qe r v.2.2)) else (v.1, qe r v.2.1)
def dloc (r : qW) (q : Nat × qSV) : Nat × qV := (q.1, qden r q.2)
def inCols (x : qBI) (f : Int → Int) : Prop := ∀ i : Int, 0 ≤ i → i < x.2.1 * x.2.2.1 → ∃ c : Int × Int, colAt x.2.2.2.2 i = some c ∧ c.1 ≤ f i ∧ f i ≤ c.2
/-- what the known says of the unknowns r and the versions a -/
def KnC (g : qG) (K : qK) (r : qW) (a : qX) : Prop :=
  qBok r K.2.1 ∧ (∀ f ∈ K.2.2.1, 0 ≤ qe r f) ∧ (∀ x ∈ K.2.2.2.2.2.1, a x.1 (qe r x.2.1) = qe r x.2.2) ∧
  (∀ x ∈ K.2.2.2.2.2.2.1, ∀ i : Int, a x.1 i = if i = qe r x.2.2.1 then qe r x.2.2.2 else a x.2.1 i) ∧
  (∀ x ∈ K.2.2.2.2.1, ∀ y : qBI, g[x.2]? = some y → inCols y (a x.1)) ∧ (∀ x ∈ K.2.2.2.2.2.2.2, PQ x.1 (x.2.1.map a) (x.2.2.map (qe r)))
def SatC (g : qG) (S : qS) (r : qW) (a : qX) (ls : qLS) (st : List qV) (s : qSg) : Prop :=
  ls = S.1.map (dloc r) ∧ st = S.2.1.map (qden r) ∧ (∀ x ∈ S.2.2.1.1, s x.1 0 = qe r x.2) ∧ (∀ x ∈ S.2.2.1.2, ∀ i : Int, s x.1 i = a x.2 i) ∧ KnC g S.2.2.2 r a
/-- unknowns and versions that stay: how many, what they are -/
abbrev qGh : Type := Nat × (qW × (Nat × qX))
def Gh (γ : qGh) (K : qK) (r : qW) (a : qX) : Prop := γ.1 ≤ K.1 ∧ γ.2.2.1 ≤ K.2.2.2.1 ∧ (∀ v, v < γ.1 → r v = γ.2.1 v) ∧ (∀ v, v < γ.2.2.1 → a v = γ.2.2.2 v)
def gh0 : qGh := (0, fun _ => 0, 0, fun _ _ => 0)
theorem Gh.triv (K : qK) (r : qW) (a : qX) : Gh gh0 K r a := ⟨Nat.zero_le _, Nat.zero_le _, fun v hv => absurd hv (Nat.not_lt_zero v), fun v hv => absurd hv (Nat.not_lt_zero v)⟩
def agr (K : qK) (r r' : qW) (a a' : qX) : Prop := (∀ v, v < K.1 → r' v = r v) ∧ (∀ v, v < K.2.2.2.1 → a' v = a v)
/-- .. whatever the unknowns that aren't made yet are -/
def Sat (γ : qGh) (g : qG) (S : qS) (r : qW) (a : qX) (ls : qLS) (st : List qV) (s : qSg) : Prop := Gh γ S.2.2.2 r a ∧ ∀ r' a', agr S.2.2.2 r r' a a' → SatC g S r' a' ls st s
section
variable {γ : qGh}
theorem agr_refl (K : qK) (r : qW) (a : qX) : agr K r r a a := ⟨fun _ _ => rfl, fun _ _ => rfl⟩
theorem Sat.now {g : qG} {S : qS} {r : qW} {a : qX} {ls : qLS} {st : List qV} {s : qSg} (h : Sat γ g S r a ls st s) : SatC g S r a ls st s := h.2 r a (agr_refl _ r a)
/-- nothing new is known; locals, stack, store may change -/
theorem Sat.to {g : qG} {S : qS} {r : qW} {a : qX} {ls ls' : qLS} {st st' : List qV} {s s' : qSg} (h : Sat γ g S r a ls st s) (loc : List (Nat × qSV)) (stk : List qSV) (mm : qMm)
    (hk : ∀ r' a', SatC g S r' a' ls st s → ls' = loc.map (dloc r') ∧ st' = stk.map (qden r') ∧ (∀ x ∈ mm.1, s' x.1 0 = qe r' x.2) ∧ (∀ x ∈ mm.2, ∀ i : Int, s' x.1 i = a' x.2 i)) :
    Sat γ g (loc, stk, mm, S.2.2.2) r a ls' st' s' := by
  refine ⟨h.1, ?_⟩
  intro r' a' hg
  have C := h.2 r' a' hg
  obtain ⟨h1, h2, h3, h4⟩ := hk r' a' C
  exact ⟨h1, h2, h3, h4, C.2.2.2.2⟩
/-- locals and stack change alone -/
theorem Sat.ls {g : qG} {S : qS} {r : qW} {a : qX} {ls ls' : qLS} {st st' : List qV} {s : qSg} (h : Sat γ g S r a ls st s) (loc : List (Nat × qSV)) (stk : List qSV)
    (hk : ∀ r' a', SatC g S r' a' ls st s → ls' = loc.map (dloc r') ∧ st' = stk.map (qden r')) : Sat γ g (loc, stk, S.2.2.1, S.2.2.2) r a ls' st' s :=
  h.to loc stk S.2.2.1 (fun r' a' C => ⟨(hk r' a' C).1, (hk r' a' C).2, C.2.2.1, C.2.2.2.1⟩)
/-- a new unknown -/
noncomputable def kVar (K : qK) (lo hi : Int) : qK := (Nat.succ K.1, (K.1, (lo, hi)) :: K.2.1, K.2.2)
def wUp (r : qW) (v : Nat) (z : Int) : qW := fun n => if n = v then z else r n
theorem wUp_same (r : qW) (v : Nat) (z : Int) : wUp r v z v = z := if_pos rfl
theorem Sat.var {g : qG} {S : qS} {r : qW} {a : qX} {ls : qLS} {st : List qV} {s : qSg} (h : Sat γ g S r a ls st s) (z lo hi : Int) (h1 : lo ≤ z) (h2 : z ≤ hi) :
    Sat γ g (S.1, S.2.1, S.2.2.1, kVar S.2.2.2 lo hi) (wUp r S.2.2.2.1 z) a ls st s := by
  refine ⟨⟨Nat.le_succ_of_le h.1.1, h.1.2.1, fun v hv => (if_neg (Nat.ne_of_lt (Nat.lt_of_lt_of_le hv h.1.1))).trans (h.1.2.2.1 v hv), h.1.2.2.2⟩, ?_⟩
  intro r' a' hg
  have hz : r' S.2.2.2.1 = z := by rw [hg.1 _ (Nat.lt_succ_self _), wUp_same]
  obtain ⟨c1, c2, c3, c4, k1, k2, k3, k4, k5, k6⟩ := h.2 r' a' ⟨fun v hv => by
    rw [hg.1 v (Nat.lt_succ_of_lt hv)]
    exact if_neg (Nat.ne_of_lt hv), fun v hv => hg.2 v hv⟩
  refine ⟨c1, c2, c3, c4, ?_, k2, k3, k4, k5, k6⟩
  intro x hx
  rcases List.mem_cons.mp hx with rfl | hx
  · show lo ≤ r' S.2.2.2.1 ∧ r' S.2.2.2.1 ≤ hi
    rw [hz]; exact ⟨h1, h2⟩
  · exact k1 x hx
/-- a new fact -/
noncomputable def kFact (K : qK) (f : qL) : qK := (K.1, K.2.1, f :: K.2.2.1, K.2.2.2)
theorem Sat.fact {g : qG} {S : qS} {r : qW} {a : qX} {ls : qLS} {st : List qV} {s : qSg} (h : Sat γ g S r a ls st s) (f : qL) (hf : ∀ r' a', agr S.2.2.2 r r' a a' → SatC g S r' a' ls st s → 0 ≤ qe r' f) :
    Sat γ g (S.1, S.2.1, S.2.2.1, kFact S.2.2.2 f) r a ls st s := by
  refine ⟨h.1, ?_⟩
  intro r' a' hg
  have C := h.2 r' a' hg
  obtain ⟨c1, c2, c3, c4, k1, k2, k3, k4, k5, k6⟩ := C
  refine ⟨c1, c2, c3, c4, k1, ?_, k3, k4, k5, k6⟩
  intro x hx
  rcases List.mem_cons.mp hx with rfl | hx
  · exact hf r' a' hg (h.2 r' a' hg)
  · exact k2 x hx
/-- a place that was read -/
noncomputable def kRead (K : qK) (v : Nat) (i x : qL) : qK := (K.1, K.2.1, K.2.2.1, K.2.2.2.1, K.2.2.2.2.1, (v, (i, x)) :: K.2.2.2.2.2.1, K.2.2.2.2.2.2)
theorem Sat.read {g : qG} {S : qS} {r : qW} {a : qX} {ls : qLS} {st : List qV} {s : qSg} (h : Sat γ g S r a ls st s) (v : Nat) (i x : qL) (hf : ∀ r' a', agr S.2.2.2 r r' a a' → SatC g S r' a' ls st s → a' v (qe r' i) = qe r' x) :
    Sat γ g (S.1, S.2.1, S.2.2.1, kRead S.2.2.2 v i x) r a ls st s := by
  refine ⟨h.1, ?_⟩
  intro r' a' hg
  obtain ⟨c1, c2, c3, c4, k1, k2, k3, k4, k5, k6⟩ := h.2 r' a' hg
  refine ⟨c1, c2, c3, c4, k1, k2, ?_, k4, k5, k6⟩
  intro y hy
  rcases List.mem_cons.mp hy with rfl | hy
  · exact hf r' a' hg (h.2 r' a' hg)
  · exact k3 y hy
/-- what block b holds now: its first version, or a new one -/
noncomputable def kVer (K : qK) (b : Nat) : qK := (K.1, K.2.1, K.2.2.1, Nat.succ K.2.2.2.1, (K.2.2.2.1, b) :: K.2.2.2.2.1, K.2.2.2.2.2)
def xUp (a : qX) (v : Nat) (f : Int → Int) : qX := fun n => if n = v then f else a n
/-- a new version f of block b; the store may have changed there -/
theorem Sat.ver {g : qG} {S : qS} {r : qW} {a : qX} {ls : qLS} {st : List qV} {s s' : qSg} (h : Sat γ g S r a ls st s) (b : Nat) (f : Int → Int) (av : List (Nat × Nat)) (hav : ∀ x ∈ av, (x ∈ S.2.2.1.2 ∧ s' x.1 = s x.1) ∨ x = (b, S.2.2.2.2.2.2.1))
    (hsc : ∀ x ∈ S.2.2.1.1, s' x.1 0 = s x.1 0) (hs : ∀ i : Int, s' b i = f i) (ht : ∀ y : qBI, g[b]? = some y → inCols y f) :
    Sat γ g (S.1, S.2.1, (S.2.2.1.1, av), kVer S.2.2.2 b) r (xUp a S.2.2.2.2.2.2.1 f) ls st s' := by
  refine ⟨⟨h.1.1, Nat.le_succ_of_le h.1.2.1, h.1.2.2.1, fun v hv => (if_neg (Nat.ne_of_lt (Nat.lt_of_lt_of_le hv h.1.2.1))).trans (h.1.2.2.2 v hv)⟩, ?_⟩
  intro r' a' hg
  have hf : a' S.2.2.2.2.2.2.1 = f := by rw [hg.2 _ (Nat.lt_succ_self _)]; exact if_pos rfl
  obtain ⟨c1, c2, c3, c4, k1, k2, k3, k4, k5, k6⟩ := h.2 r' a' ⟨fun v hv => hg.1 v hv, fun v hv => by
    rw [hg.2 v (Nat.lt_succ_of_lt hv)]
    exact if_neg (Nat.ne_of_lt hv)⟩
  refine ⟨c1, c2, fun x hx => (hsc x hx).trans (c3 x hx), ?_, k1, k2, k3, k4, ?_, k6⟩
  · intro x hx i
    rcases hav x hx with ⟨h1, h2⟩ | rfl
    · rw [h2]; exact c4 x h1 i
    · show s' b i = a' S.2.2.2.2.2.2.1 i
      rw [hf, hs]
  · intro x hx y hy
    rcases List.mem_cons.mp hx with rfl | hx
    · show inCols y (a' S.2.2.2.2.2.2.1)
      rw [hf]; exact ht y hy
    · exact k5 x hx y hy
/-- a version that differs from another in one place -/
noncomputable def kDef (K : qK) (v w : Nat) (i x : qL) : qK := (K.1, K.2.1, K.2.2.1, K.2.2.2.1, K.2.2.2.2.1, K.2.2.2.2.2.1, (v, (w, (i, x))) :: K.2.2.2.2.2.2.1, K.2.2.2.2.2.2.2)
theorem Sat.defn {g : qG} {S : qS} {r : qW} {a : qX} {ls : qLS} {st : List qV} {s : qSg} (h : Sat γ g S r a ls st s) (v w : Nat) (i x : qL) (hf : ∀ r' a', agr S.2.2.2 r r' a a' → SatC g S r' a' ls st s → ∀ j : Int, a' v j = if j = qe r' i then qe r' x else a' w j) :
    Sat γ g (S.1, S.2.1, S.2.2.1, kDef S.2.2.2 v w i x) r a ls st s := by
  refine ⟨h.1, ?_⟩
  intro r' a' hg
  obtain ⟨c1, c2, c3, c4, k1, k2, k3, k4, k5, k6⟩ := h.2 r' a' hg
  refine ⟨c1, c2, c3, c4, k1, k2, k3, ?_, k5, k6⟩
  intro y hy
  rcases List.mem_cons.mp hy with rfl | hy
  · exact hf r' a' hg (h.2 r' a' hg)
  · exact k4 y hy
/-- what is proved by a list of facts and multipliers holds -/
theorem Sat.pr {g : qG} {S : qS} {r : qW} {a : qX} {ls : qLS} {st : List qV} {s : qSg} (h : Sat γ g S r a ls st s) {cs : List (Nat × Nat)} {f : qL} (hp : qPr S.2.2.2.2.1 S.2.2.2.2.2.1 cs f = true) : 0 ≤ qe r f :=
  qPr_ok h.now.2.2.2.2.1 h.now.2.2.2.2.2.1 cs f hp
end
