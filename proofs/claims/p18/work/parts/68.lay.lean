/-! A LAYOUT THAT KEEPS ITS PLACES APART, BY EVALUATION -/
noncomputable def yAll {α : Type} (p : α → Bool) (l : List α) : Bool := List.rec (motive := fun _ => Bool) true (fun x _ ih => qB (p x) ih false) l
theorem yAl {α : Type} {p : α → Bool} {l : List α} (h : yAll p l = true) : ∀ x ∈ l, p x = true := yAll_t h
/-- each with each that comes behind it -/
noncomputable def yPw {α : Type} (p : α → α → Bool) (l : List α) : Bool := List.rec (motive := fun _ => Bool) true (fun x l ih => qB (yAll (p x) l) ih false) l
theorem yPw_t {α : Type} {p : α → α → Bool} : ∀ {l : List α}, yPw p l = true → ∀ x ∈ l, ∀ y ∈ l, x = y ∨ p x y = true ∨ p y x = true
  | [], _, x, hx, _, _ => by cases hx
  | z :: l, h, x, hx, y, hy => by
    obtain ⟨h1, h2⟩ := qB_and (show qB (yAll (p z) l) (yPw p l) false = true from h)
    rcases List.mem_cons.mp hx with rfl | hx1 <;> rcases List.mem_cons.mp hy with rfl | hy1
    · exact Or.inl rfl
    · exact Or.inr (Or.inl (yAl h1 y hy1))
    · exact Or.inr (Or.inr (yAl h1 x hx1))
    · exact yPw_t h2 x hx1 y hy1
noncomputable def yNe (a b : Nat) : Bool := qB (Nat.beq a b) false true
theorem yNe_t {a b : Nat} (h : yNe a b = true) : a ≠ b := by
  intro e
  subst e
  unfold yNe at h
  rw [Nat.beq_refl, qB_t rfl] at h
  cases h
/-- stretches apart: from a on, n places; from b on, m -/
noncomputable def yAp (a n b m : Nat) : Bool := qB (Nat.ble (Nat.add a n) b) true (Nat.ble (Nat.add b m) a)
theorem yAp_t {a n b m : Nat} (h : yAp a n b m = true) : a + n ≤ b ∨ b + m ≤ a := by
  replace h := qB_or h
  rcases h with h | h
  · exact Or.inl (Nat.ble_eq.mp h)
  · exact Or.inr (Nat.ble_eq.mp h)
/-- fields' blocks belong to the places that W tells: block, (object's cell, field) -/
noncomputable def yOwn (W : List (Nat × (Nat × Nat))) (k : Nat) (fs : List (Nat ⊕ Int)) : Nat → Bool := List.rec (motive := fun _ => Nat → Bool) (fun _ => true) (fun f _ ih i => qB (Sum.rec (motive := fun _ => Bool) (fun b => Option.rec (motive := fun _ => Bool) false (fun q => qB (Nat.beq q.1 k) (Nat.beq q.2 i) false) (qFi (β := Int) W b)) (fun _ => true) f) (ih (Nat.succ i)) false) fs
theorem yOwn_t {W : List (Nat × (Nat × Nat))} {k : Nat} : ∀ {fs : List (Nat ⊕ Int)} {j : Nat}, yOwn W k fs j = true → ∀ (i b : Nat), fs[i]? = some (.inl b) → qFi (β := Int) W b = some (k, j + i)
  | [], j, _, i, b, h => by cases h
  | f :: fs, j, h, i, b, hi => by
    obtain ⟨h1, h2⟩ := qB_and h
    cases i with
    | zero =>
      cases Option.some.inj hi
      cases e : qFi (β := Int) W b with
      | none =>
        have h1 : (Option.rec (motive := fun _ => Bool) false (fun q : Nat × Nat => qB (Nat.beq q.1 k) (Nat.beq q.2 j) false) (qFi (β := Int) W b)) = true := h1
        rw [e] at h1; cases h1
      | some q =>
        have h1 : (Option.rec (motive := fun _ => Bool) false (fun q : Nat × Nat => qB (Nat.beq q.1 k) (Nat.beq q.2 j) false) (qFi (β := Int) W b)) = true := h1
        rw [e] at h1
        obtain ⟨g1, g2⟩ := qB_and (show qB (Nat.beq q.1 k) (Nat.beq q.2 j) false = true from h1)
        obtain ⟨q1, q2⟩ := q
        cases Nat.eq_of_beq_eq_true g1
        cases Nat.eq_of_beq_eq_true g2
        rfl
    | succ i =>
      have := yOwn_t (fs := fs) (j := Nat.succ j) h2 i b hi
      rw [this]
      congr 2
      omega
noncomputable def yFree2 (W : List (Nat × (Nat × Nat))) (b : Nat) : Bool := Option.rec (motive := fun _ => Bool) true (fun _ => false) (qFi (β := Int) W b)
theorem yFree2_t {W : List (Nat × (Nat × Nat))} {b : Nat} (h : yFree2 W b = true) : qFi (β := Int) W b = none := by
  unfold yFree2 at h
  cases e : qFi (β := Int) W b with
  | none => rfl
  | some q => rw [e] at h; cases h
noncomputable def yLO (W : List (Nat × (Nat × Nat))) (L : kLay) : Bool :=
  qB (yPw (fun x y => yNe x.1 y.1) L.1) (qB (yAll (fun x => yOwn W x.1 x.2.2 0) L.1) (qB (yAll (fun x => yAll (fun y => yAp x.1 1 y.2.2.1 y.2.2.2.1) L.2.1) L.1) (qB (yAll (fun x => yAll (fun y => yNe y.1 x.1) L.2.2.1) L.1)
  (qB (yAll (fun y => yFree2 W y.1) L.2.1) (qB (yAll (fun y => yFree2 W y.1) L.2.2.2) (qB (yPw (fun x y => qB (yNe x.1 y.1) (yAp x.2.2.1 x.2.2.2.1 y.2.2.1 y.2.2.2.1) false) L.2.1) (qB (yAll (fun x => yAll (fun y => yAp x.2.2.1 x.2.2.2.1 y.1 1) L.2.2.1) L.2.1) (yAll (fun x => yAll (fun y => yNe y.1 x.1) L.2.2.2) L.2.1) false) false) false) false) false) false) false) false
theorem yLO_ok {W : List (Nat × (Nat × Nat))} {L : kLay} (h : yLO W L = true) : LOk L := by
  replace h := qB_and h
  obtain ⟨h1, h⟩ := h
  replace h := qB_and h
  obtain ⟨h2, h⟩ := h
  replace h := qB_and h
  obtain ⟨h3, h⟩ := h
  replace h := qB_and h
  obtain ⟨h4, h⟩ := h
  replace h := qB_and h
  obtain ⟨h5, h⟩ := h
  replace h := qB_and h
  obtain ⟨h6, h⟩ := h
  replace h := qB_and h
  obtain ⟨h7, h⟩ := h
  obtain ⟨h8, h9⟩ := qB_and h
  have ho : ∀ x ∈ L.1, ∀ (i b : Nat), x.2.2[i]? = some (.inl b) → qFi (β := Int) W b = some (x.1, i) := fun x hx i b hi => by
    have := yOwn_t (yAl h2 x hx) i b hi
    rw [Nat.zero_add] at this
    exact this
  refine ⟨?_, ?_, ?_, ?_, ?_, ?_, ?_, ?_, ?_, ?_⟩
  · intro x hx y hy e
    rcases yPw_t h1 x hx y hy with h | h | h
    · exact h
    · exact absurd e (yNe_t h)
    · exact absurd e.symm (yNe_t h)
  · intro x hx y hy i j b hi hj
    have e1 := ho x hx i b hi
    have e2 := ho y hy j b hj
    rw [e1] at e2
    exact Prod.mk.inj (Option.some.inj e2)
  · intro x hx y hy w hw e
    have := yAp_t (yAl (yAl h3 x hx) y hy)
    omega
  · intro x hx y hy
    exact yNe_t (yAl (yAl h4 x hx) y hy)
  · intro x hx i b hi
    have e1 := ho x hx i b hi
    refine ⟨fun y hy e => ?_, fun y hy e => ?_⟩
    · have := yFree2_t (yAl h5 y hy)
      rw [e, e1] at this; cases this
    · have := yFree2_t (yAl h6 y hy)
      rw [e, e1] at this; cases this
  · intro x hx y hy e
    rcases yPw_t h7 x hx y hy with h | h | h
    · exact h
    · exact absurd e (yNe_t (qB_and h).1)
    · exact absurd e.symm (yNe_t (qB_and h).1)
  · intro x hx y hy w v hw hv e
    rcases yPw_t h7 x hx y hy with h | h | h
    · subst h; exact ⟨rfl, by omega⟩
    · have := yAp_t (qB_and h).2
      omega
    · have := yAp_t (qB_and h).2
      omega
  · intro x hx w hw y hy e
    have := yAp_t (yAl (yAl h8 x hx) y hy)
    omega
  · intro x hx y hy
    exact yNe_t (yAl (yAl h9 x hx) y hy)
  · intro x hx y hy i hi
    have e1 := ho y hy i x.1 hi
    have := yFree2_t (yAl h5 x hx)
    rw [e1] at this; cases this
noncomputable def yTag (g : qG) : Bool := yAll (fun x => Nat.ble x.2.2.2.1 1) g
theorem yTag_ok {g : qG} (h : yTag g = true) : gTags g := fun b x hx => by
  have := Nat.ble_eq.mp (yAl h x (List.mem_of_getElem? hx))
  omega
noncomputable def yGh (L : kLay) (GH : List Nat) : Bool := yAll (fun b => kGhost L b) GH
theorem yGh_ok {L : kLay} {GH : List Nat} (h : yGh L GH = true) : ∀ b ∈ GH, kGhost L b = true := fun b hb => yAl h b hb
/-- a contract's receiver: the object in cell k, and na arguments behind it -/
noncomputable def yRc (C : qCt) (k na : Nat) : Bool := qB (Nat.beq C.1 (Nat.succ na)) (List.rec (motive := fun _ => Bool) false (fun x _ _ => qB (Nat.beq x.1 0) (qB (Nat.beq x.2.1 2) (qB (yEq x.2.2.1.1 (Int.ofNat (Nat.succ (Nat.mul 2 k)))) (List.rec (motive := fun _ => Bool) true (fun _ _ _ => false) x.2.2.1.2) false) false) false) C.2.1.1) false
theorem yRc_ok {C : qCt} {k na : Nat} (h : yRc C k na = true) : C.1 = na + 1 ∧ ∃ f2 : qL, (0, (2, ((2 * (k : Int) + 1, []), f2))) ∈ C.2.1.1 := by
  replace h := qB_and h
  obtain ⟨h1, h⟩ := h
  refine ⟨Nat.eq_of_beq_eq_true h1, ?_⟩
  match hl : C.2.1.1, h with
  | [], h => cases h
  | x :: l, h =>
    replace h := qB_and h
    obtain ⟨g1, h⟩ := h
    replace h := qB_and h
    obtain ⟨g2, h⟩ := h
    replace h := qB_and h
    obtain ⟨g3, h⟩ := h
    obtain ⟨x1, x2, ⟨x3, x4⟩, x5⟩ := x
    cases Nat.eq_of_beq_eq_true g1
    cases Nat.eq_of_beq_eq_true g2
    have g3 := yEq_t g3
    rw [y_2k] at g3
    have g3 : x3 = 2 * (k : Int) + 1 := g3
    subst g3
    cases x4 with
    | nil => exact ⟨x5, List.mem_cons_self⟩
    | cons z zs => cases h
section KR
variable {g : qG} {L : kLay} {cl : List vw_C} {fo : List rCC} {zs : List (String × String × String × rCV)} {rs : List (String × Nat × String × Nat)} {ns : List Cond} {Ts : List Cond} {G : rGm}
variable {l : Launch} {cc : ByteArray} {nL n : Nat} {own : String} {ret : Option FieldType} {fr lo : Nat} {Qf : kQf}
theorem ys_V {C9 : qCt} {y : MethodName} {bytes : ByteArray} {maxL : Nat} {rt : Option FieldType} {fr' lo' ix : Nat} (na k ci : Nat) {fs : List (Nat ⊕ Int)} (hk : yRc C9 k na = true) (hx : (k, ci, fs) ∈ L.1) {C : String} {T : u_T} {N : Nat} (hc : cl[ci]? = some (C, T, N)) (hM : kMet g L cl fo zs rs ns Ts l y bytes maxL rt fr' lo' C9) (hg : ∀ w ∈ Ts, goodWord w = true)
    (w1 : Cond.methodLink own ix y ∈ Ts) (w2 : Cond.instanceMethod y ∈ Ts) (w3 : Cond.selects C y y ∈ Ts) (w4 : Cond.initialized C ∈ Ts) (w5 : Cond.code y bytes maxL rt ∈ Ts) (hd0 : y.cls = C ∧ y.cls ≠ "java/lang/invoke/MethodHandle" ∧ y.cls ≠ "java/lang/invoke/VarHandle" ∧ (parseMethodDescriptor y.desc).map (fun d => d.parameters.length) = some na) (hf : fr' + 1 ≤ fr) (hlo : 8 + (maxL + 11) + lo' ≤ lo) : ySite g L cl fo zs rs ns Ts G l cc nL own ret fr lo n Qf 182 ix C9 := fun pc hd => by
  obtain ⟨e, f2, hb⟩ := yRc_ok hk
  exact k_callV na k ci hx hc hb e hM hg w1 w2 w3 w4 w5 hd0 hf hlo hd
theorem ys_S {C9 : qCt} {y : MethodName} {bytes : ByteArray} {maxL : Nat} {rt : Option FieldType} {fr' lo' ix : Nat} (na : Nat) (hn : C9.1 = na) (hM : kMet g L cl fo zs rs ns Ts l y bytes maxL rt fr' lo' C9) (hg : ∀ w ∈ Ts, goodWord w = true)
    (w1 : Cond.methodLink own ix y ∈ Ts) (w2 : Cond.static y ∈ Ts) (w4 : Cond.initialized y.cls ∈ Ts) (w5 : Cond.code y bytes maxL rt ∈ Ts) (hd0 : y.cls ≠ "java/lang/invoke/MethodHandle" ∧ y.cls ≠ "java/lang/invoke/VarHandle" ∧ (parseMethodDescriptor y.desc).map (fun d => d.parameters.length) = some na) (hf : fr' + 1 ≤ fr) (hlo : 8 + (maxL + 11) + lo' ≤ lo) : ySite g L cl fo zs rs ns Ts G l cc nL own ret fr lo n Qf 184 ix C9 := fun pc hd => k_callS na hn hM hg w1 w2 w4 w5 hd0 hf hlo hd
theorem ys_A {ix b1 b2 t R1 M1 k2 R2 M2 : Nat} {z1 : Int} {c1 c2 : Int × Int} (hLO : LOk L) (hB1 : kBlk g L b1 t R1 M1) (hg1 : g[b1]? = some (z1, (R1 : Int), (M1 : Int), kTag t, [c1])) (hb2 : (b2, t, k2, R2, M2) ∈ L.2.1) (hg2 : g[b2]? = some (2 * (k2 : Int) + 1, (R2 : Int), (M2 : Int), kTag t, [c2])) (hc : c2.1 ≤ c1.1 ∧ c1.2 ≤ c2.2) (hfit : ∀ z, c1.1 ≤ z → z ≤ c1.2 → fits (rTy t) (kel t z) = true)
    (w1 : Cond.methodLink own ix arraycopyName ∈ Ts) (w2 : Cond.native arraycopyName ∈ Ts) (w3 : Cond.static arraycopyName ∈ Ts) (w4 : Cond.initialized "java/lang/System" ∈ Ts) (hf : 1 ≤ fr) (hlo : 8 + (nativeFrameWords "java/lang/System" "arraycopy" 5 + 11) ≤ lo) : ySite g L cl fo zs rs ns Ts G l cc nL own ret fr lo n Qf 184 ix (cpC z1 R1 M1 (2 * (k2 : Int) + 1) R2 M2 b2) := fun pc hd => k_acopy hLO hB1 hg1 hb2 hg2 hc hfit w1 w2 w3 w4 hf hlo hd
end KR
