/-! LINEAR FORMS OF NUMBERED UNKNOWNS: a constant, then (unknown, coefficient) by rising unknowns -/
abbrev qT : Type := List (Nat × Int)
abbrev qL : Type := Int × qT
noncomputable def qB {α : Type} (b : Bool) (x y : α) : α := Bool.rec y x b
theorem qB_t {α : Type} {b : Bool} {x y : α} (h : b = true) : qB b x y = x := by subst h; rfl
theorem qB_f {α : Type} {b : Bool} {x y : α} (h : b = false) : qB b x y = y := by subst h; rfl
theorem qB_if {α : Type} (b : Bool) (x y : α) : qB b x y = if b = true then x else y := by cases b <;> rfl
theorem qB_and {b c : Bool} (h : qB b c false = true) : b = true ∧ c = true := by cases b <;> simp_all [qB]
/-- is 0 -/
noncomputable def qIz (z : Int) : Bool := Int.rec (fun n => Nat.beq n 0) (fun _ => false) z
/-- is not negative -/
noncomputable def qIn (z : Int) : Bool := Int.rec (fun _ => true) (fun _ => false) z
theorem qIz_t {z : Int} (h : qIz z = true) : z = 0 := by
  cases z with
  | ofNat n => have := Nat.eq_of_beq_eq_true h; subst this; rfl
  | negSucc n => cases h
theorem qIn_t {z : Int} (h : qIn z = true) : 0 ≤ z := by
  cases z with
  | ofNat n => exact Int.natCast_nonneg n
  | negSucc n => cases h
theorem qIn_f {z : Int} (h : qIn z = false) : z < 0 := by
  cases z with
  | ofNat n => cases h
  | negSucc n => exact Int.negSucc_lt_zero n
def qE (r : Nat → Int) : qT → Int
  | [] => 0
  | x :: t => x.2 * r x.1 + qE r t
def qe (r : Nat → Int) (a : qL) : Int := a.1 + qE r a.2
noncomputable def qSc (k : Int) (t : qT) : qT := List.rec (motive := fun _ => qT) [] (fun x _ ih => (x.1, k * x.2) :: ih) t
theorem qSc_ev (r : Nat → Int) (k : Int) : ∀ t : qT, qE r (qSc k t) = k * qE r t
  | [] => by show (0 : Int) = k * 0; omega
  | x :: t => by
    show k * x.2 * r x.1 + qE r (qSc k t) = k * (x.2 * r x.1 + qE r t)
    rw [qSc_ev r k t, Int.mul_add, Int.mul_assoc]
/-- the sum -/
noncomputable def qM (a : qT) : qT → qT := List.rec (motive := fun _ => qT → qT) (fun b => b)
  (fun x xs ih b => List.rec (motive := fun _ => qT) (x :: xs)
    (fun y ys ihb => qB (Nat.blt x.1 y.1) (x :: ih (y :: ys)) (qB (Nat.blt y.1 x.1) (y :: ihb) (qB (qIz (x.2 + y.2)) (ih ys) ((x.1, x.2 + y.2) :: ih ys)))) b) a
theorem blt_f {a b : Nat} (h : Nat.blt a b = false) : b ≤ a := by
  by_cases h2 : a < b
  · have := Nat.ble_eq.mpr h2
    have h3 : Nat.blt a b = true := this
    rw [h] at h3; cases h3
  · omega
theorem qM_ev (r : Nat → Int) : ∀ a b : qT, qE r (qM a b) = qE r a + qE r b := by
  intro a
  induction a with
  | nil => intro b; show qE r b = 0 + qE r b; omega
  | cons x xs ih =>
    intro b
    induction b with
    | nil => show qE r (x :: xs) = qE r (x :: xs) + 0; omega
    | cons y ys ihb =>
      show qE r (qB (Nat.blt x.1 y.1) (x :: qM xs (y :: ys)) (qB (Nat.blt y.1 x.1) (y :: qM (x :: xs) ys) (qB (qIz (x.2 + y.2)) (qM xs ys) ((x.1, x.2 + y.2) :: qM xs ys)))) = _
      cases e1 : Nat.blt x.1 y.1
      · rw [qB_f rfl]
        cases e2 : Nat.blt y.1 x.1
        · rw [qB_f rfl]
          have h1 := blt_f e1
          have h2 := blt_f e2
          have e : x.1 = y.1 := by omega
          cases e3 : qIz (x.2 + y.2)
          · rw [qB_f rfl]
            show (x.2 + y.2) * r x.1 + qE r (qM xs ys) = (x.2 * r x.1 + qE r xs) + (y.2 * r y.1 + qE r ys)
            rw [ih ys, ← e, Int.add_mul]; omega
          · rw [qB_t rfl]
            have h3 := qIz_t e3
            show qE r (qM xs ys) = (x.2 * r x.1 + qE r xs) + (y.2 * r y.1 + qE r ys)
            have h4 : x.2 * r x.1 + y.2 * r x.1 = 0 := by rw [← Int.add_mul, h3, Int.zero_mul]
            rw [ih ys, ← e]; omega
        · rw [qB_t rfl]
          show y.2 * r y.1 + qE r (qM (x :: xs) ys) = qE r (x :: xs) + (y.2 * r y.1 + qE r ys)
          rw [ihb]; omega
      · rw [qB_t rfl]
        show x.2 * r x.1 + qE r (qM xs (y :: ys)) = (x.2 * r x.1 + qE r xs) + qE r (y :: ys)
        rw [ih]; omega
/-- a + k b -/
noncomputable def qA (a : qL) (k : Int) (b : qL) : qL := qB (qIz k) a (a.1 + k * b.1, qM a.2 (qSc k b.2))
theorem qA_ev (r : Nat → Int) (a : qL) (k : Int) (b : qL) : qe r (qA a k b) = qe r a + k * qe r b := by
  unfold qA
  cases h : qIz k
  · rw [qB_f rfl]
    show a.1 + k * b.1 + qE r (qM a.2 (qSc k b.2)) = a.1 + qE r a.2 + k * (b.1 + qE r b.2)
    rw [qM_ev, qSc_ev, Int.mul_add]; omega
  · rw [qB_t rfl, qIz_t h]; omega
noncomputable def qC (c : Int) : qL := (c, [])
theorem qC_ev (r : Nat → Int) (c : Int) : qe r (qC c) = c := by show c + 0 = c; omega
noncomputable def qV1 (v : Nat) : qL := (0, [(v, 1)])
theorem qV1_ev (r : Nat → Int) (v : Nat) : qe r (qV1 v) = r v := by show 0 + (1 * r v + 0) = r v; omega
/-- bounds of unknowns, the newest first: (unknown, least, most) -/
abbrev qBd : Type := List (Nat × (Int × Int))
noncomputable def qFi {α β : Type} (l : List (Nat × α)) (i : Nat) : Option α := List.rec (motive := fun _ => Option α) none (fun x _ ih => qB (Nat.beq x.1 i) (some x.2) ih) l
theorem qFi_mem {α : Type} {i : Nat} {v : α} : ∀ l : List (Nat × α), qFi (β := α) l i = some v → (i, v) ∈ l
  | [], h => by cases h
  | x :: l, h => by
    have h' : qB (Nat.beq x.1 i) (some x.2) (qFi (β := α) l i) = some v := h
    cases e : Nat.beq x.1 i
    · rw [e, qB_f rfl] at h'
      exact List.mem_cons_of_mem _ (qFi_mem l h')
    · rw [e, qB_t rfl] at h'
      cases h'
      have := Nat.eq_of_beq_eq_true e
      subst this
      exact List.mem_cons_self
/-- the least that c + t can be is not negative -/
noncomputable def qLo (bd : qBd) (t : qT) : Int → Bool := List.rec (motive := fun _ => Int → Bool) (fun c => qIn c)
  (fun x _ ih c => Option.rec false (fun b => ih (c + x.2 * qB (qIn x.2) b.1 b.2)) (qFi (β := Int) bd x.1)) t
def qBok (r : Nat → Int) (bd : qBd) : Prop := ∀ x ∈ bd, x.2.1 ≤ r x.1 ∧ r x.1 ≤ x.2.2
theorem qLo_ok {r : Nat → Int} {bd : qBd} (hb : qBok r bd) : ∀ (t : qT) (c : Int), qLo bd t c = true → 0 ≤ c + qE r t
  | [], c, h => by have := qIn_t h; show 0 ≤ c + 0; omega
  | x :: t, c, h => by
    have h' : Option.rec (motive := fun _ => Bool) false (fun b : Int × Int => qLo bd t (c + x.2 * qB (qIn x.2) b.1 b.2)) (qFi (β := Int) bd x.1) = true := h
    cases e : qFi (β := Int) bd x.1 with
    | none => rw [e] at h'; cases h'
    | some b =>
      rw [e] at h'
      have h1 := qLo_ok hb t _ h'
      obtain ⟨h2, h3⟩ := hb _ (qFi_mem bd e)
      show 0 ≤ c + (x.2 * r x.1 + qE r t)
      cases e2 : qIn x.2
      · rw [e2, qB_f rfl] at h1
        have h4 : x.2 * b.2 ≤ x.2 * r x.1 := Int.mul_le_mul_of_nonpos_left (Int.le_of_lt (qIn_f e2)) h3
        omega
      · rw [e2, qB_t rfl] at h1
        have h4 : x.2 * b.1 ≤ x.2 * r x.1 := Int.mul_le_mul_of_nonneg_left h2 (qIn_t e2)
        omega
noncomputable def qNth {α : Type} (l : List α) (i : Nat) : Option α := List.rec (motive := fun _ => Nat → Option α) (fun _ => none) (fun x _ ih i => Nat.rec (some x) (fun j _ => ih j) i) l i
theorem qNth_mem {α : Type} {v : α} : ∀ (l : List α) (i : Nat), qNth l i = some v → v ∈ l
  | [], i, h => by cases h
  | x :: l, 0, h => by cases h; exact List.mem_cons_self
  | x :: l, i + 1, h => List.mem_cons_of_mem _ (qNth_mem l i h)
/-- goal less so many times some facts: the least it can be isn't negative -/
noncomputable def qPr (bd : qBd) (fs : List qL) (cs : List (Nat × Nat)) : qL → Bool := List.rec (motive := fun _ => qL → Bool) (fun g => qLo bd g.2 g.1)
  (fun x _ ih g => Option.rec false (fun f => ih (qA g (Int.neg (Int.ofNat x.2)) f)) (qNth fs x.1)) cs
theorem qPr_ok {r : Nat → Int} {bd : qBd} {fs : List qL} (hb : qBok r bd) (hf : ∀ f ∈ fs, 0 ≤ qe r f) : ∀ (cs : List (Nat × Nat)) (g : qL), qPr bd fs cs g = true → 0 ≤ qe r g
  | [], g, h => qLo_ok hb g.2 g.1 h
  | x :: cs, g, h => by
    have h' : Option.rec (motive := fun _ => Bool) false (fun f : qL => qPr bd fs cs (qA g (Int.neg (Int.ofNat x.2)) f)) (qNth fs x.1) = true := h
    cases e : qNth fs x.1 with
    | none => rw [e] at h'; cases h'
    | some f =>
      rw [e] at h'
      have h1 := qPr_ok hb hf cs _ h'
      have h2 := hf f (qNth_mem fs _ e)
      rw [qA_ev] at h1
      have h3 : 0 ≤ (Int.ofNat x.2) * qe r f := Int.mul_nonneg (Int.natCast_nonneg _) h2
      have h4 : Int.neg (Int.ofNat x.2) * qe r f = - ((Int.ofNat x.2) * qe r f) := Int.neg_mul _ _
      omega
