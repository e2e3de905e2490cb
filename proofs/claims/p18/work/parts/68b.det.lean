/-! CONTRACTS THAT SAY THE ANSWER -/
theorem cnV_c (v : qV) : cnV (cnV v) = cnV v := by
  unfold cnV
  rw [cnv_c]
theorem map_cn (as : List qV) : (as.map cnV).map cnV = as.map cnV := by
  rw [List.map_map]
  exact List.map_congr_left (fun v _ => cnV_c v)
theorem lsArgs_t2 {p q : Nat} {z : Int} {x : qV} {as : List qV} (hq : q ≠ p) (h : (q, x) ∈ lsArgs p ((1, z) :: as)) : (q, x) ∈ lsArgs (p + 2) as := by
  replace h := List.mem_cons.mp (show (q, x) ∈ (p, ((1, z) : qV)) :: lsArgs (if (1 : Nat) = 1 then p + 2 else p + 1) as from h)
  rcases h with h | h
  · exact absurd (congrArg Prod.fst h) hq
  · rw [if_pos rfl] at h; exact h
theorem lkA_mem {α : Type} {i : Nat} {v : α} : ∀ {l : List (Nat × α)}, lkA i l = some v → (i, v) ∈ l
  | [], h => by cases h
  | x :: l, h => by
    by_cases c : x.1 = i
    · have h : (if x.1 = i then some x.2 else lkA i l) = some v := h
      rw [if_pos c] at h
      cases h
      subst c
      exact List.mem_cons_self
    · have h : (if x.1 = i then some x.2 else lkA i l) = some v := h
      rw [if_neg c] at h
      exact List.mem_cons_of_mem _ (lkA_mem h)
noncomputable def yCols : List (Int × Int) → List (Int × Int) → Bool := fun a => List.rec (motive := fun _ => List (Int × Int) → Bool) (fun m => List.rec (motive := fun _ => Bool) true (fun _ _ _ => false) m) (fun x _ ih m => List.rec (motive := fun _ => Bool) false (fun y m _ => qB (yEq x.1 y.1) (qB (yEq x.2 y.2) (ih m) false) false) m) a
theorem yCols_t : ∀ (a b : List (Int × Int)), yCols a b = true → a = b
  | [], [], _ => rfl
  | [], _ :: _, h => by cases h
  | _ :: _, [], h => by cases h
  | x :: a, y :: b, h => by
    replace h := qB_and (show qB (yEq x.1 y.1) (qB (yEq x.2 y.2) (yCols a b) false) false = true from h)
    obtain ⟨h1, h⟩ := h
    replace h := qB_and h
    obtain ⟨h2, h⟩ := h
    rw [yCols_t a b h, show x = y from Prod.ext (yEq_t h1) (yEq_t h2)]
noncomputable def yBI (a b : qBI) : Bool := qB (yEq a.1 b.1) (qB (yEq a.2.1 b.2.1) (qB (yEq a.2.2.1 b.2.2.1) (qB (Nat.beq a.2.2.2.1 b.2.2.2.1) (yCols a.2.2.2.2 b.2.2.2.2) false) false) false) false
theorem yBI_t {a b : qBI} (h : yBI a b = true) : a = b := by
  replace h := qB_and h
  obtain ⟨h1, h⟩ := h
  replace h := qB_and h
  obtain ⟨h2, h⟩ := h
  replace h := qB_and h
  obtain ⟨h3, h⟩ := h
  obtain ⟨h4, h5⟩ := qB_and h
  exact Prod.ext (yEq_t h1) (Prod.ext (yEq_t h2) (Prod.ext (yEq_t h3) (Prod.ext (Nat.eq_of_beq_eq_true h4) (yCols_t _ _ h5))))
noncomputable def yGd (g : qG) (l : List (Nat × qBI)) : Bool := yAll (fun e => qB (Option.rec (motive := fun _ => Bool) false (fun x => yBI x e.2) (qNth g e.1)) (qB (qIn (Int.sub e.2.2.1 1)) (qB (qIn (Int.sub e.2.2.2.1 1)) (qIn (Int.sub 2147483647 e.2.2.2.1)) false) false) false) l
theorem yGd_ok {g : qG} (h : yGd g gDl = true) : GdOk g gDet := fun b x hx => by
  have h1 := yAl h _ (lkA_mem hx)
  obtain ⟨h1, h2⟩ := qB_and h1
  obtain ⟨h2, h3⟩ := qB_and h2
  obtain ⟨h3, h4⟩ := qB_and h3
  have h2 : 0 ≤ x.2.1 - 1 := qIn_t h2
  have h3 : 0 ≤ x.2.2.1 - 1 := qIn_t h3
  have h4 : 0 ≤ 2147483647 - x.2.2.1 := qIn_t h4
  rw [qNth_get] at h1
  refine ⟨?_, by omega, by omega, by omega⟩
  cases e : g[b]? with
  | none => rw [show g[((b, x) : Nat × qBI).1]? = none from e] at h1; cases h1
  | some y =>
    rw [show g[((b, x) : Nat × qBI).1]? = some y from e] at h1
    exact congrArg some (yBI_t h1)
theorem GdOk.P {g : qG} {gd : Nat → Option qBI} (h : GdOk g gd) : GdP gd := fun b x hx => ⟨(h b x hx).2.1, (h b x hx).2.2.1⟩
/-- what blocks that never change hold -/
noncomputable def yExC (b : Nat) : Bool := Option.rec (motive := fun _ => Bool) false (fun x => yAll (fun c => yEq c.1 c.2) x.2.2.2.2) (gDet b)
theorem yCon {g : qG} (hgd : GdOk g gDet) {s : qSg} (hT : Typed g s) {as : List (Nat × (Int → Int))} {fs : List (Nat × Int)} {b : Nat} (h : yExC b = true) (h1 : lkA b as = none) (h2 : lkA b fs = none) : AgB gDet s (dSto as fs) b := by
  intro x hx i hi0 hi1
  have e : dSto as fs b = dCon b := by unfold dSto; rw [h1, h2]
  rw [e]
  obtain ⟨c, e1, e2, e3⟩ := hT b x (hgd b x hx).1 i hi0 hi1
  unfold yExC at h
  rw [hx] at h
  have h := yEq_t (yAl h c (colAt_mem e1))
  unfold dCon
  rw [hx]
  show s b i = (match colAt x.2.2.2.2 i with | some c => c.1 | none => 0)
  rw [e1]
  show s b i = c.1
  omega
theorem yArr {s : qSg} {as : List (Nat × (Int → Int))} {fs : List (Nat × Int)} {b : Nat} {f : Int → Int} (h1 : lkA b as = some f) (h : ∀ i, s b i = f i) : AgB gDet s (dSto as fs) b := by
  intro x hx i hi0 hi1
  have e : dSto as fs b = f := by unfold dSto; rw [h1]
  rw [e]
  exact h i
noncomputable def yOne (b : Nat) : Bool := Option.rec (motive := fun _ => Bool) false (fun x => qB (yEq x.2.1 1) (yEq x.2.2.1 1) false) (gDet b)
theorem yFld {s : qSg} {as : List (Nat × (Int → Int))} {fs : List (Nat × Int)} {b : Nat} {z : Int} (ho : yOne b = true) (h1 : lkA b as = none) (h2 : lkA b fs = some z) (h : s b 0 = z) : AgB gDet s (dSto as fs) b := by
  intro x hx i hi0 hi1
  unfold yOne at ho
  rw [hx] at ho
  obtain ⟨o1, o2⟩ := qB_and ho
  have o1 := yEq_t o1
  have o2 := yEq_t o2
  rw [o1, o2] at hi1
  have : i = 0 := by omega
  subst this
  have e : dSto as fs b = fun _ => z := by unfold dSto; rw [h1, h2]
  rw [e]
  exact h
section
variable {g : qG} {gd : Nat → Option qBI} {cts : List qCt} {code dc : qCd} {cuts : qCu} {C Cd : qCt} {fuel : Nat} {str : List Nat} {cl : qSg → qCl}
theorem yDet_b (hg : gTags g) (h : zchk g cts ruI2 ruJ2 rqL code cuts Cd fuel str = true) (hgd : GdOk g gd) (hk : okC gd code = true) (hd : code.map stB = dc) (hc : ∀ s, Typed g s → HC g cts (cl s) s) (s : qSg) :
    ∀ as r a, CtBeg g Cd as s r a → Typed g s → ∃ v, zRun gd (cl s) s dc (as.map cnV) = some v ∧ cnV v = v ∧ CtEnd g Cd r a s [v] s := fun as r a hB hT => by
  obtain ⟨v, e1, e2, e3, -⟩ := det_run hg ruI2_RtI ruJ2_RtJ rqL_ok h hgd hk hd (hc s hT) hT hB
  exact ⟨v, (zRun_cn (map_cn as)).trans e1, e2, e3⟩
theorem yRun_d (hg : gTags g) (h : zchk g cts ruI2 ruJ2 rqL code cuts Cd fuel str = true) (hgd : GdOk g gd) (hk : okC gd code = true) (hd : code.map stB = dc) (hc : ∀ s, Typed g s → HC g cts (cl s) s) (h1 : C.1 = Cd.1) (h2 : C.2.1 = Cd.2.1) (hD : ∀ s, Typed g s → DetC g C s (fun as => zRun gd (cl s) s dc as)) : yRun g cts code C := by
  intro s r a as hT hB V hV
  have hB' : CtBeg g Cd as s r a := by
    unfold CtBeg at hB ⊢
    rw [← h1, ← h2]; exact hB
  obtain ⟨v, e1, e2, e3, go⟩ := det_run hg ruI2_RtI ruJ2_RtJ rqL_ok h hgd hk hd (hc s hT) hT hB'
  obtain ⟨v', f1, f2, f3, -⟩ := hD s hT as r a hB hT
  have f1 : zRun gd (cl s) s dc (as.map cnV) = some v' := f1
  rw [zRun_cn (map_cn as), e1] at f1
  cases f1
  exact go V _ hV f3
end
theorem PQ_c {p : Nat} {fs : List (Int → Int)} {zs : List Int} (h : fTab[p]? = none) : PQ p fs zs = cPQ p fs zs := by
  unfold PQ
  rw [h]
/-! equal codes, for the kernel -/
noncomputable def eqL {α : Type} (f : α → α → Bool) : List α → List α → Bool := List.rec (motive := fun _ => List α → Bool) (fun l => List.rec (motive := fun _ => Bool) true (fun _ _ _ => false) l) (fun x _ ih l => List.rec (motive := fun _ => Bool) false (fun y l _ => qB (f x y) (ih l) false) l)
theorem eqL_ok {α : Type} {f : α → α → Bool} (hf : ∀ x y, f x y = true → x = y) : ∀ a b : List α, eqL f a b = true → a = b
  | [], [], _ => rfl
  | [], _ :: _, h => by cases h
  | _ :: _, [], h => by cases h
  | x :: a, y :: b, h => by
    obtain ⟨h1, h2⟩ := qB_and (show qB (f x y) (eqL f a b) false = true from h)
    rw [hf x y h1, eqL_ok hf a b h2]
noncomputable def eqD (a b : qD) : Bool := qB (Nat.beq a.1 b.1) (qB (yEq a.2.1 b.2.1) (qB (yEq a.2.2.1 b.2.2.1) (yEq a.2.2.2 b.2.2.2) false) false) false
theorem eqD_ok : ∀ a b : qD, eqD a b = true → a = b := by
  rintro ⟨a1, a2, a3, a4⟩ ⟨b1, b2, b3, b4⟩ h
  obtain ⟨h1, h⟩ := qB_and h
  obtain ⟨h2, h⟩ := qB_and h
  obtain ⟨h3, h4⟩ := qB_and h
  cases Nat.eq_of_beq_eq_true h1
  cases yEq_t h2
  cases yEq_t h3
  cases yEq_t h4
  rfl
noncomputable def eqX (a b : Int × Nat) : Bool := qB (yEq a.1 b.1) (Nat.beq a.2 b.2) false
theorem eqX_ok : ∀ a b : Int × Nat, eqX a b = true → a = b := by
  rintro ⟨a1, a2⟩ ⟨b1, b2⟩ h
  obtain ⟨h1, h2⟩ := qB_and h
  cases yEq_t h1
  cases Nat.eq_of_beq_eq_true h2
  rfl
noncomputable def eqT (a b : qTm) : Bool := qB (Nat.beq a.1 b.1) (qB (Nat.beq a.2.1 b.2.1) (qB (Nat.beq a.2.2.1 b.2.2.1) (qB (Nat.beq a.2.2.2.1 b.2.2.2.1) (eqL eqX a.2.2.2.2 b.2.2.2.2) false) false) false) false
theorem eqT_ok : ∀ a b : qTm, eqT a b = true → a = b := by
  rintro ⟨a1, a2, a3, a4, a5⟩ ⟨b1, b2, b3, b4, b5⟩ h
  obtain ⟨h1, h⟩ := qB_and h
  obtain ⟨h2, h⟩ := qB_and h
  obtain ⟨h3, h⟩ := qB_and h
  obtain ⟨h4, h5⟩ := qB_and h
  cases Nat.eq_of_beq_eq_true h1
  cases Nat.eq_of_beq_eq_true h2
  cases Nat.eq_of_beq_eq_true h3
  cases Nat.eq_of_beq_eq_true h4
  cases eqL_ok eqX_ok _ _ h5
  rfl
noncomputable def eqBl (a b : List qD × qTm) : Bool := qB (eqL eqD a.1 b.1) (eqT a.2 b.2) false
theorem eqBl_ok : ∀ a b : List qD × qTm, eqBl a b = true → a = b := by
  rintro ⟨a1, a2⟩ ⟨b1, b2⟩ h
  obtain ⟨h1, h2⟩ := qB_and h
  cases eqL_ok eqD_ok _ _ h1
  cases eqT_ok _ _ h2
  rfl
theorem eqCd_ok {a b : qCd} (h : eqL eqBl a b = true) : a = b := eqL_ok eqBl_ok a b h
