/-! A METHOD'S ROWS BY EVALUATION: blocks, ends, the whole (written by wip/p2/gen67.py) -/
/-- a class's tables: fields, statics, constants (ints, longs) -/
abbrev yTb : Type := List yFe × (List (Nat × Nat) × (List (Nat × Int) × List (Nat × Int)))
/-- a method's: calls (opcode, pool's place, contract), calls of Math, switches, ends by throw -/
abbrev yMt : Type := List (Nat × (Nat × Nat)) × (List (Nat × qD) × (List (Nat × qTm) × List Nat))
noncomputable def yRow (g : qG) (L : kLay) (tb : yTb) (mt : yMt) (nL : Nat) (bs : List Nat) (d : qD) : Nat :=
  qB (yT1 nL bs d) 1 (qB (yT3 tb.1 L.1 bs d) 3 (qB (yT2 nL bs d) 2 (qB (yT4 L bs d) 1 (qB (yT5 bs d) 2 (qB (yT6 mt.1 bs d) 3 (qB (yT9 g tb.1 L.1 bs d) 3 (qB (yT8 nL bs d) 3 (qB (yT10 L bs d) 1 (qB (yT7 bs d) 3 (qB (yT15 tb.2.2.2 bs d) 3 (qB (yT12 L bs d) 1 (qB (yT11 L bs d) 1 (qB (yT13 tb.2.2.1 bs d) 2 (qB (yT14 tb.2.2.1 bs d) 3 (qB (yT16 tb.2.1 bs d) 3 (qB (yT17 mt.2.1 bs d) 3 0))))))))))))))))
noncomputable def yNat (z : Int) : Bool := Int.rec (motive := fun _ => Bool) (fun _ => true) (fun _ => false) z
noncomputable def yFree (GH : List Nat) (d : qD) : Bool := qB (Nat.blt d.1 34) false (qB (Nat.beq d.1 34) true (qB (Nat.beq d.1 35) true (qB (Nat.beq d.1 38) true (qB (Nat.beq d.1 36) true (qB (Nat.beq d.1 37) true (qB (Nat.beq d.1 40) (yNat d.2.1) (qB (Nat.beq d.1 39) (yX (fun b => yEq d.2.1 (Int.ofNat b)) GH) false)))))))
section KR
variable {g : qG} {L : kLay} {cl : List vw_C} {fo : List rCC} {zs : List (String × String × String × rCV)} {rs : List (String × Nat × String × Nat)} {ns : List Cond} {Ts : List Cond} {G : rGm}
variable {l : Launch} {cc : ByteArray} {nL n : Nat} {own : String} {pc : Nat} {ret : Option FieldType} {fr lo : Nat} {Qf : kQf}
variable {cts : List qCt} {d : qD} {bs : List Nat} {tb : yTb} {mt : yMt} {GH : List Nat}
/-- what the tables of a class say -/
def yTO (cl : List vw_C) (zs : List (String × String × String × rCV)) (ns Ts : List Cond) (own : String) (tb : yTb) : Prop :=
  (∀ x ∈ tb.1, yFO cl ns Ts own x) ∧ (∀ x ∈ tb.2.1, ∃ C n1 d1 ref, (C, n1, d1, .inr (.inr x.2)) ∈ zs ∧ Cond.fieldLink own x.1 ref n1 d1 ∈ Ts ∧ ref = C) ∧ (∀ x ∈ tb.2.2.1, Cond.constant own x.1 (Int32.ofInt x.2) ∈ Ts) ∧ (∀ x ∈ tb.2.2.2, Cond.constantLong own x.1 (Int64.ofInt x.2) ∈ Ts)
theorem yRow_ok (hLO : LOk L) (hLa : yLa g L) (hT : yTO cl zs ns Ts own tb) (hC : ∀ x ∈ mt.1, ∃ C, cts[x.2.2]? = some C ∧ ySite g L cl fo zs rs ns Ts G l cc nL own ret fr lo n Qf x.1 x.2.1 C)
    (hM : ∀ x ∈ mt.2.1, Nat.ble x.2.1 32 = true ∧ ∀ pc, decode cc pc = .ok (.invokestatic x.1, 3) → kI g (kW g L cl fo zs rs ns Ts G l cc nL own ret fr lo n Qf) pc (pc + 3) x.2) (hb : bIs cc pc bs) {k : Nat} (h : yRow g L tb mt nL bs d = k) (hk : k ≠ 0) : kJ g cts (kW g L cl fo zs rs ns Ts G l cc nL own ret fr lo n Qf) pc (pc + k) d := by
  unfold yRow at h
  cases e : yT1 nL bs d
  rotate_left
  · rw [e, qB_t rfl] at h
    subst h
    exact yT1_ok hb e
  rw [e, qB_f rfl] at h
  clear e
  cases e : yT3 tb.1 L.1 bs d
  rotate_left
  · rw [e, qB_t rfl] at h
    subst h
    exact yT3_ok hT.1 hb e
  rw [e, qB_f rfl] at h
  clear e
  cases e : yT2 nL bs d
  rotate_left
  · rw [e, qB_t rfl] at h
    subst h
    exact yT2_ok hb e
  rw [e, qB_f rfl] at h
  clear e
  cases e : yT4 L bs d
  rotate_left
  · rw [e, qB_t rfl] at h
    subst h
    exact yT4_ok hLa hb e
  rw [e, qB_f rfl] at h
  clear e
  cases e : yT5 bs d
  rotate_left
  · rw [e, qB_t rfl] at h
    subst h
    exact yT5_ok hb e
  rw [e, qB_f rfl] at h
  clear e
  cases e : yT6 mt.1 bs d
  rotate_left
  · rw [e, qB_t rfl] at h
    subst h
    exact yT6_ok hC hb e
  rw [e, qB_f rfl] at h
  clear e
  cases e : yT9 g tb.1 L.1 bs d
  rotate_left
  · rw [e, qB_t rfl] at h
    subst h
    exact yT9_ok hLO hT.1 hb e
  rw [e, qB_f rfl] at h
  clear e
  cases e : yT8 nL bs d
  rotate_left
  · rw [e, qB_t rfl] at h
    subst h
    exact yT8_ok hb e
  rw [e, qB_f rfl] at h
  clear e
  cases e : yT10 L bs d
  rotate_left
  · rw [e, qB_t rfl] at h
    subst h
    exact yT10_ok hLO hLa hb e
  rw [e, qB_f rfl] at h
  clear e
  cases e : yT7 bs d
  rotate_left
  · rw [e, qB_t rfl] at h
    subst h
    exact yT7_ok hb e
  rw [e, qB_f rfl] at h
  clear e
  cases e : yT15 tb.2.2.2 bs d
  rotate_left
  · rw [e, qB_t rfl] at h
    subst h
    exact yT15_ok hT.2.2.2 hb e
  rw [e, qB_f rfl] at h
  clear e
  cases e : yT12 L bs d
  rotate_left
  · rw [e, qB_t rfl] at h
    subst h
    exact yT12_ok hLa hb e
  rw [e, qB_f rfl] at h
  clear e
  cases e : yT11 L bs d
  rotate_left
  · rw [e, qB_t rfl] at h
    subst h
    exact yT11_ok hLa hb e
  rw [e, qB_f rfl] at h
  clear e
  cases e : yT13 tb.2.2.1 bs d
  rotate_left
  · rw [e, qB_t rfl] at h
    subst h
    exact yT13_ok hT.2.2.1 hb e
  rw [e, qB_f rfl] at h
  clear e
  cases e : yT14 tb.2.2.1 bs d
  rotate_left
  · rw [e, qB_t rfl] at h
    subst h
    exact yT14_ok hT.2.2.1 hb e
  rw [e, qB_f rfl] at h
  clear e
  cases e : yT16 tb.2.1 bs d
  rotate_left
  · rw [e, qB_t rfl] at h
    subst h
    exact yT16_ok hT.2.1 hb e
  rw [e, qB_f rfl] at h
  clear e
  cases e : yT17 mt.2.1 bs d
  rotate_left
  · rw [e, qB_t rfl] at h
    subst h
    exact yT17_ok hM hb e
  rw [e, qB_f rfl] at h
  clear e
  exact absurd h.symm hk
theorem yFree_ok (hG : ∀ b ∈ GH, kGhost L b = true) (h : yFree GH d = true) : kJ g cts (kW g L cl fo zs rs ns Ts G l cc nL own ret fr lo n Qf) pc pc d := by
  unfold yFree at h
  cases e0 : Nat.blt d.1 34
  rotate_left
  · rw [e0, qB_t rfl] at h; cases h
  rw [e0, qB_f rfl] at h
  obtain ⟨op, b⟩ := d
  replace h := qB_or h
  rcases h with h | h
  · cases Nat.eq_of_beq_eq_true h
    exact fun P ls st s hw r => r ls st s hw
  replace h := qB_or h
  rcases h with h | h
  · cases Nat.eq_of_beq_eq_true h
    exact fun P ls st s hw r => r ls st s hw
  replace h := qB_or h
  rcases h with h | h
  · cases Nat.eq_of_beq_eq_true h
    exact fun P ls st s hw r => r ls st s hw
  replace h := qB_or h
  rcases h with h | h
  · cases Nat.eq_of_beq_eq_true h
    intro P ls st s hw r
    refine k_n32 ls st s ?_
    rcases hw with hw | ⟨z, st2, h1, h2⟩
    · exact Or.inl (r _ _ _ hw)
    · exact Or.inr ⟨z, st2, h1, r _ _ _ h2⟩
  replace h := qB_or h
  rcases h with h | h
  · cases Nat.eq_of_beq_eq_true h
    intro P ls st s hw r
    refine k_n64 ls st s ?_
    rcases hw with hw | ⟨z, st2, h1, h2⟩
    · exact Or.inl (r _ _ _ hw)
    · exact Or.inr ⟨z, st2, h1, r _ _ _ h2⟩
  obtain ⟨b, c⟩ := b
  cases e : Nat.beq op 40
  · rw [show Nat.beq ((op, b, c) : qD).1 40 = false from e, qB_f rfl] at h
    obtain ⟨h1, h2⟩ := qB_and h
    cases Nat.eq_of_beq_eq_true h1
    obtain ⟨x, hx, h3⟩ := yX_t h2
    have h3 : b = Int.ofNat x := yEq_t h3
    subst h3
    intro P ls st s hw r
    obtain ⟨z, hz⟩ := hw
    exact k_gh (hG x hx) ls st s z (r _ _ _ hz)
  · rw [show Nat.beq ((op, b, c) : qD).1 40 = true from e, qB_t rfl] at h
    cases Nat.eq_of_beq_eq_true e
    cases b with
    | negSucc m => cases h
    | ofNat m =>
      intro P ls st s hw r
      refine k_n40 (i := m) ls st s ?_
      rcases hw with hw | ⟨z, h1, h2⟩
      · exact Or.inl (r _ _ _ hw)
      · exact Or.inr ⟨z, h1, r _ _ _ h2⟩
noncomputable def yBody (fr : qD → Bool) (row : List Nat → qD → Nat) (T : Nat → List Nat → Bool) (ds : List qD) : Nat → List Nat → Bool := List.rec (motive := fun _ => Nat → List Nat → Bool) T (fun d _ ih pc bs => qB (fr d) (ih pc bs) (rN (row bs d) (fun n => qB (Nat.beq n 0) false (rN (Nat.add pc n) (fun pc => ih pc (zdr n bs)))))) ds
theorem yN_eq {α : Type} (n : Nat) (k : Nat → α) : rN n k = k n := by cases n <;> rfl
theorem yBody_ok {K : Nat → qP} {fr : qD → Bool} {row : List Nat → qD → Nat} {T : Nat → List Nat → Bool} {Tq : qP} (hf : ∀ d pc, fr d = true → kJ g cts K pc pc d) (hr : ∀ d pc bs k, bIs cc pc bs → row bs d = k → k ≠ 0 → kJ g cts K pc (pc + k) d)
    (ht : ∀ pc bs, bIs cc pc bs → T pc bs = true → ∀ ls st s, Tq ls st s → K pc ls st s) : ∀ (ds : List qD) (pc : Nat) (bs : List Nat), bIs cc pc bs → yBody fr row T ds pc bs = true → kB g cts K ds Tq pc
  | [], pc, bs, hb, h => kB.e (ht pc bs hb h)
  | d :: ds, pc, bs, hb, h => by
    have h : qB (fr d) (yBody fr row T ds pc bs) (rN (row bs d) (fun n => qB (Nat.beq n 0) false (rN (Nat.add pc n) (fun pc => yBody fr row T ds pc (zdr n bs))))) = true := h
    cases e : fr d
    · rw [e, qB_f rfl, yN_eq] at h
      cases e2 : Nat.beq (row bs d) 0
      · rw [e2, qB_f rfl, yN_eq] at h
        exact kB.j (hr d pc bs _ hb rfl (Nat.ne_of_beq_eq_false e2)) (yBody_ok hf hr ht ds _ _ (bIs_dr _ _ _ hb) h)
      · rw [e2, qB_t rfl] at h; cases h
    · rw [e, qB_t rfl] at h
      exact kB.j (hf d pc e) (yBody_ok hf hr ht ds pc bs hb h)
-- ends
noncomputable def yTg (P : List Nat) (b : Nat) (z : Int) : Bool := Option.rec (motive := fun _ => Bool) false (fun q => yEq z (Int.ofNat q)) (qNth P b)
theorem yTg_t {P : List Nat} {b : Nat} {z : Int} (h : yTg P b z = true) : ∃ q : Nat, P[b]? = some q ∧ z = (q : Int) := by
  unfold yTg at h
  rw [qNth_get] at h
  cases e : P[b]? with
  | none => rw [e] at h; cases h
  | some q => rw [e] at h; exact ⟨q, rfl, yEq_t h⟩
/-- what ends of methods give: by return, of an int, of a long -/
def yEh (K : Nat → qP) (cc : ByteArray) (ret : Option FieldType) (Rr : List qV → qSg → Prop) : Prop :=
  (ret = none → ∀ pc, decode cc pc = .ok (.return_, 1) → ∀ ls st s, (st = [] ∧ Rr [] s) → K pc ls st s) ∧
  (∀ (ty : FieldType) (lo hi : Int), ret = some ty → (∀ z, lo ≤ z → z ≤ hi → narrow ty (.int (Int32.ofInt z)) = .int (Int32.ofInt z)) → ∀ pc, decode cc pc = .ok (.ireturn, 1) → ∀ (V : Nat → qP) (j1 j2 k1 k2 : Nat) ls st s, wT V Rr (5, 0, j1, j2, [(lo, k1), (hi, k2)]) ls st s → K pc ls st s) ∧
  (ret = some .long → ∀ (lo hi : Int) pc, decode cc pc = .ok (.lreturn, 1) → ∀ (V : Nat → qP) (j1 j2 k1 k2 : Nat) ls st s, wT V Rr (5, 1, j1, j2, [(lo, k1), (hi, k2)]) ls st s → K pc ls st s)
theorem yEh_q {Rr : List qV → qSg → Prop} : yEh (kW g L cl fo zs rs ns Ts G l cc nL own ret fr lo n (kMQ g L cl fo zs rs ns G n Rr)) cc ret Rr :=
  ⟨fun hr pc hd => k_ret hr hd, fun ty lo hi hr hn pc hd V j1 j2 k1 k2 => k_reti V hr hn hd, fun hr lo hi pc hd V j1 j2 k1 k2 => k_retl V hr hd⟩
/-- 0 none, 1 int, 2 long, 3 boolean, 4 byte -/
def yRt (rt : Nat) (ret : Option FieldType) : Prop := match rt with
  | 0 => ret = none
  | 1 => ret = some .int
  | 2 => ret = some .long
  | 3 => ret = some .boolean
  | _ => ret = some .byte
noncomputable def yE0 (P : List Nat) (t : qTm) (pc : Nat) (bs : List Nat) : Bool := qB (yTg P t.2.2.1 (Int.ofNat pc)) true (y3 bs (fun op a b => qB (Nat.beq op 167) (yTg P t.2.2.1 (Int.add (Int.ofNat pc) (ys16 (Nat.add (Nat.mul a 256) b)))) false))
noncomputable def yE1 (base : Nat) (P : List Nat) (t : qTm) (pc : Nat) (bs : List Nat) : Bool := y3 bs (fun op a b => qB (Nat.beq op (Nat.add base t.2.1)) (qB (Nat.blt t.2.1 6) (qB (yTg P t.2.2.1 (Int.add (Int.ofNat pc) (ys16 (Nat.add (Nat.mul a 256) b)))) (yTg P t.2.2.2.1 (Int.ofNat (Nat.add pc 3))) false) false) false)
noncomputable def yTb2 (l : List (Int × Nat)) (k : Int → Int → Bool) : Bool := List.rec (motive := fun _ => Bool) false (fun lo l _ => List.rec (motive := fun _ => Bool) false (fun hi l2 _ => List.rec (motive := fun _ => Bool) (k lo.1 hi.1) (fun _ _ _ => false) l2) l) l
theorem yTb2_t {l : List (Int × Nat)} {k : Int → Int → Bool} (h : yTb2 l k = true) : ∃ lo hi k1 k2, l = [(lo, k1), (hi, k2)] ∧ k lo hi = true := by
  match l, h with
  | [], h => cases h
  | [_], h => cases h
  | [(lo, k1), (hi, k2)], h => exact ⟨lo, hi, k1, k2, rfl, h⟩
  | _ :: _ :: _ :: _, h => cases h
noncomputable def yE5 (rt : Nat) (t : qTm) (bs : List Nat) : Bool := y1 bs (fun op => yTb2 t.2.2.2.2 (fun lo hi => qB (Nat.beq t.2.1 0) (qB (Nat.beq op 172) (qB (Nat.beq rt 1) true (qB (Nat.beq rt 3) (qB (qIn lo) (qIn (Int.sub 1 hi)) false) (qB (Nat.beq rt 4) (qB (qIn (Int.add lo 128)) (qIn (Int.sub 127 hi)) false) false))) false)
  (qB (Nat.beq t.2.1 1) (qB (Nat.beq op 173) (Nat.beq rt 2) false) false)))
noncomputable def yTq (a b : qTm) : Bool := qB (Nat.beq a.1 b.1) (qB (Nat.beq a.2.1 b.2.1) (qB (Nat.beq a.2.2.1 b.2.2.1) (qB (Nat.beq a.2.2.2.1 b.2.2.2.1) (List.rec (motive := fun _ => List (Int × Nat) → Bool) (fun m => List.rec (motive := fun _ => Bool) true (fun _ _ _ => false) m) (fun x _ ih m => List.rec (motive := fun _ => Bool) false (fun y m _ => qB (yEq x.1 y.1) (qB (Nat.beq x.2 y.2) (ih m) false) false) m) a.2.2.2.2 b.2.2.2.2) false) false) false) false
theorem yTq_l : ∀ (a b : List (Int × Nat)), List.rec (motive := fun _ => List (Int × Nat) → Bool) (fun m => List.rec (motive := fun _ => Bool) true (fun _ _ _ => false) m) (fun x _ ih m => List.rec (motive := fun _ => Bool) false (fun y m _ => qB (yEq x.1 y.1) (qB (Nat.beq x.2 y.2) (ih m) false) false) m) a b = true → a = b
  | [], [], _ => rfl
  | [], _ :: _, h => by cases h
  | _ :: _, [], h => by cases h
  | x :: a, y :: b, h => by
    replace h := qB_and h
    obtain ⟨h1, h⟩ := h
    replace h := qB_and h
    obtain ⟨h2, h⟩ := h
    have e1 := yEq_t h1
    have e2 := Nat.eq_of_beq_eq_true h2
    rw [yTq_l a b h, show x = y from Prod.ext e1 e2]
theorem yTq_t {a b : qTm} (h : yTq a b = true) : a = b := by
  replace h := qB_and h
  obtain ⟨h1, h⟩ := h
  replace h := qB_and h
  obtain ⟨h2, h⟩ := h
  replace h := qB_and h
  obtain ⟨h3, h⟩ := h
  obtain ⟨h4, h5⟩ := qB_and h
  obtain ⟨a1, a2, a3, a4, a5⟩ := a
  obtain ⟨b1, b2, b3, b4, b5⟩ := b
  cases Nat.eq_of_beq_eq_true h1
  cases Nat.eq_of_beq_eq_true h2
  cases Nat.eq_of_beq_eq_true h3
  cases Nat.eq_of_beq_eq_true h4
  cases yTq_l _ _ h5
  rfl
noncomputable def yEnd (mt : yMt) (rt : Nat) (P : List Nat) (t : qTm) (pc : Nat) (bs : List Nat) : Bool :=
  qB (Nat.beq t.1 0) (yE0 P t pc bs) (qB (Nat.beq t.1 1) (yE1 159 P t pc bs) (qB (Nat.beq t.1 2) (yE1 153 P t pc bs) (qB (Nat.beq t.1 5) (yE5 rt t bs) (qB (Nat.beq t.1 4) (qB (Nat.beq t.2.2.2.1 1) (yX (fun x => Nat.beq x pc) mt.2.2.2) (y1 bs (fun op => qB (Nat.beq op 177) (Nat.beq rt 0) false))) (qB (Nat.beq t.1 3) (yX (fun x => qB (Nat.beq x.1 pc) (yTq x.2 t) false) mt.2.2.1) (Nat.beq t.1 6))))))
variable {Rr : List qV → qSg → Prop} {P : List Nat} {t : qTm} {rt : Nat}
theorem yE0_ok (hb : bIs cc pc bs) {q b k : Nat} {tab : List (Int × Nat)} (h : yE0 P (0, q, b, k, tab) pc bs = true) : ∀ ls st s, wT (kV (kW g L cl fo zs rs ns Ts G l cc nL own ret fr lo n Qf) P) Rr (0, q, b, k, tab) ls st s → (kW g L cl fo zs rs ns Ts G l cc nL own ret fr lo n Qf) pc ls st s := by
  replace h := qB_or h
  rcases h with h | h
  · obtain ⟨x, h1, h2⟩ := yTg_t h
    have : pc = x := Int.ofNat.inj h2
    subst this
    exact kE_next h1
  · obtain ⟨op, a, b9, t9, e9, h8⟩ := y3_t h
    clear h
    subst e9
    have h := h8
    clear h8
    replace h := qB_and h
    obtain ⟨h0, h⟩ := h
    cases Nat.eq_of_beq_eq_true h0
    obtain ⟨x, h1, h2⟩ := yTg_t h
    rw [ys16_of hb.2.1 hb.2.2.1] at h2
    exact kE_goto h1 (k_goto (tgt := x) h2 (dc167 hb.1 hb.2.1 hb.2.2.1))
theorem yE1_ok (hb : bIs cc pc bs) {q b k : Nat} {tab : List (Int × Nat)} (h : yE1 159 P (1, q, b, k, tab) pc bs = true) : ∀ ls st s, wT (kV (kW g L cl fo zs rs ns Ts G l cc nL own ret fr lo n Qf) P) Rr (1, q, b, k, tab) ls st s → (kW g L cl fo zs rs ns Ts G l cc nL own ret fr lo n Qf) pc ls st s := by
  obtain ⟨op, a, b9, t9, e9, h8⟩ := y3_t h
  clear h
  subst e9
  have h := h8
  clear h8
  replace h := qB_and h
  obtain ⟨h0, h⟩ := h
  replace h := qB_and h
  obtain ⟨h1, h⟩ := h
  obtain ⟨h2, h3⟩ := qB_and h
  have h1 : q < 6 := blt_t h1
  obtain ⟨x, e1, e2⟩ := yTg_t h2
  obtain ⟨y, e3, e4⟩ := yTg_t h3
  rw [ys16_of hb.2.1 hb.2.2.1] at e2
  have e4 : pc + 3 = y := Int.ofNat.inj e4
  subst e4
  have e0 : op = 159 + q := Nat.eq_of_beq_eq_true h0
  subst e0
  match q, h1, hb with
  | 0, _, hb => exact kE_icmp e1 e3 (k_icmp_eq (tgt := x) e2 (dc159 hb.1 hb.2.1 hb.2.2.1))
  | 1, _, hb => exact kE_icmp e1 e3 (k_icmp_ne (tgt := x) e2 (dc160 hb.1 hb.2.1 hb.2.2.1))
  | 2, _, hb => exact kE_icmp e1 e3 (k_icmp_lt (tgt := x) e2 (dc161 hb.1 hb.2.1 hb.2.2.1))
  | 3, _, hb => exact kE_icmp e1 e3 (k_icmp_ge (tgt := x) e2 (dc162 hb.1 hb.2.1 hb.2.2.1))
  | 4, _, hb => exact kE_icmp e1 e3 (k_icmp_gt (tgt := x) e2 (dc163 hb.1 hb.2.1 hb.2.2.1))
  | 5, _, hb => exact kE_icmp e1 e3 (k_icmp_le (tgt := x) e2 (dc164 hb.1 hb.2.1 hb.2.2.1))
theorem yE2_ok (hb : bIs cc pc bs) {q b k : Nat} {tab : List (Int × Nat)} (h : yE1 153 P (2, q, b, k, tab) pc bs = true) : ∀ ls st s, wT (kV (kW g L cl fo zs rs ns Ts G l cc nL own ret fr lo n Qf) P) Rr (2, q, b, k, tab) ls st s → (kW g L cl fo zs rs ns Ts G l cc nL own ret fr lo n Qf) pc ls st s := by
  obtain ⟨op, a, b9, t9, e9, h8⟩ := y3_t h
  clear h
  subst e9
  have h := h8
  clear h8
  replace h := qB_and h
  obtain ⟨h0, h⟩ := h
  replace h := qB_and h
  obtain ⟨h1, h⟩ := h
  obtain ⟨h2, h3⟩ := qB_and h
  have h1 : q < 6 := blt_t h1
  obtain ⟨x, e1, e2⟩ := yTg_t h2
  obtain ⟨y, e3, e4⟩ := yTg_t h3
  rw [ys16_of hb.2.1 hb.2.2.1] at e2
  have e4 : pc + 3 = y := Int.ofNat.inj e4
  subst e4
  have e0 : op = 153 + q := Nat.eq_of_beq_eq_true h0
  subst e0
  match q, h1, hb with
  | 0, _, hb => exact kE_if e1 e3 (k_if_eq (tgt := x) e2 (dc153 hb.1 hb.2.1 hb.2.2.1))
  | 1, _, hb => exact kE_if e1 e3 (k_if_ne (tgt := x) e2 (dc154 hb.1 hb.2.1 hb.2.2.1))
  | 2, _, hb => exact kE_if e1 e3 (k_if_lt (tgt := x) e2 (dc155 hb.1 hb.2.1 hb.2.2.1))
  | 3, _, hb => exact kE_if e1 e3 (k_if_ge (tgt := x) e2 (dc156 hb.1 hb.2.1 hb.2.2.1))
  | 4, _, hb => exact kE_if e1 e3 (k_if_gt (tgt := x) e2 (dc157 hb.1 hb.2.1 hb.2.2.1))
  | 5, _, hb => exact kE_if e1 e3 (k_if_le (tgt := x) e2 (dc158 hb.1 hb.2.1 hb.2.2.1))
theorem yE5_ok (hE : yEh (kW g L cl fo zs rs ns Ts G l cc nL own ret fr lo n Qf) cc ret Rr) (hrt : yRt rt ret) (hb : bIs cc pc bs) {q b k : Nat} {tab : List (Int × Nat)} (h : yE5 rt (5, q, b, k, tab) bs = true) : ∀ ls st s, wT (kV (kW g L cl fo zs rs ns Ts G l cc nL own ret fr lo n Qf) P) Rr (5, q, b, k, tab) ls st s → (kW g L cl fo zs rs ns Ts G l cc nL own ret fr lo n Qf) pc ls st s := by
  obtain ⟨op, t9, e9, h8⟩ := y1_t h
  clear h
  subst e9
  have h := h8
  clear h8
  replace h := yTb2_t h
  obtain ⟨lo1, hi1, k1, k2, e1, h⟩ := h
  have e1 : tab = [(lo1, k1), (hi1, k2)] := e1
  subst e1
  have hb1 := hb.1
  cases e : Nat.beq q 0
  · rw [show Nat.beq ((5, q, b, k, [(lo1, k1), (hi1, k2)]) : qTm).2.1 0 = false from e, qB_f rfl] at h
    replace h := qB_and h
    obtain ⟨h1, h⟩ := h
    obtain ⟨h2, h3⟩ := qB_and h
    have e1 : q = 1 := Nat.eq_of_beq_eq_true h1
    subst e1
    cases Nat.eq_of_beq_eq_true h2
    cases Nat.eq_of_beq_eq_true h3
    exact hE.2.2 hrt lo1 hi1 pc (dc173 hb1) _ b k k1 k2
  · rw [show Nat.beq ((5, q, b, k, [(lo1, k1), (hi1, k2)]) : qTm).2.1 0 = true from e, qB_t rfl] at h
    cases Nat.eq_of_beq_eq_true e
    obtain ⟨h2, h3⟩ := qB_and h
    cases Nat.eq_of_beq_eq_true h2
    rcases qB_or h3 with h3 | h3
    · cases Nat.eq_of_beq_eq_true h3
      exact hE.2.1 .int lo1 hi1 hrt (fun z _ _ => rfl) pc (dc172 hb1) _ b k k1 k2
    · cases e3 : Nat.beq rt 3
      · rw [e3, qB_f rfl] at h3
        obtain ⟨h4, h5⟩ := qB_and h3
        cases Nat.eq_of_beq_eq_true h4
        obtain ⟨h6, h7⟩ := qB_and h5
        have h6 : 0 ≤ lo1 + 128 := qIn_t h6
        have h7 : 0 ≤ 127 - hi1 := qIn_t h7
        exact hE.2.1 .byte lo1 hi1 hrt (fun z z1 z2 => y_nb ⟨by omega, by omega⟩) pc (dc172 hb1) _ b k k1 k2
      · rw [e3, qB_t rfl] at h3
        cases Nat.eq_of_beq_eq_true e3
        obtain ⟨h6, h7⟩ := qB_and h3
        have h6 : 0 ≤ lo1 := qIn_t h6
        have h7 : 0 ≤ 1 - hi1 := qIn_t h7
        exact hE.2.1 .boolean lo1 hi1 hrt (fun z z1 z2 => y_nz ⟨by omega, by omega⟩) pc (dc172 hb1) _ b k k1 k2
theorem yEnd_ok (hE : yEh (kW g L cl fo zs rs ns Ts G l cc nL own ret fr lo n Qf) cc ret Rr) (hrt : yRt rt ret) (hS : ∀ x ∈ mt.2.2.1, ∀ ls st s, wT (kV (kW g L cl fo zs rs ns Ts G l cc nL own ret fr lo n Qf) P) Rr x.2 ls st s → (kW g L cl fo zs rs ns Ts G l cc nL own ret fr lo n Qf) x.1 ls st s) (hX : ∀ x ∈ mt.2.2.2, ∀ ls st s, (st = [] ∧ Rr [] s) → (kW g L cl fo zs rs ns Ts G l cc nL own ret fr lo n Qf) x ls st s) (hb : bIs cc pc bs) (h : yEnd mt rt P t pc bs = true) : ∀ ls st s, wT (kV (kW g L cl fo zs rs ns Ts G l cc nL own ret fr lo n Qf) P) Rr t ls st s → (kW g L cl fo zs rs ns Ts G l cc nL own ret fr lo n Qf) pc ls st s := by
  obtain ⟨op, q, b, k, tab⟩ := t
  unfold yEnd at h
  cases e : Nat.beq op 0
  rotate_left
  · rw [show Nat.beq ((op, q, b, k, tab) : qTm).1 0 = true from e, qB_t rfl] at h
    cases Nat.eq_of_beq_eq_true e
    exact yE0_ok hb h
  rw [show Nat.beq ((op, q, b, k, tab) : qTm).1 0 = false from e, qB_f rfl] at h
  clear e
  cases e : Nat.beq op 1
  rotate_left
  · rw [show Nat.beq ((op, q, b, k, tab) : qTm).1 1 = true from e, qB_t rfl] at h
    cases Nat.eq_of_beq_eq_true e
    exact yE1_ok hb h
  rw [show Nat.beq ((op, q, b, k, tab) : qTm).1 1 = false from e, qB_f rfl] at h
  clear e
  cases e : Nat.beq op 2
  rotate_left
  · rw [show Nat.beq ((op, q, b, k, tab) : qTm).1 2 = true from e, qB_t rfl] at h
    cases Nat.eq_of_beq_eq_true e
    exact yE2_ok hb h
  rw [show Nat.beq ((op, q, b, k, tab) : qTm).1 2 = false from e, qB_f rfl] at h
  clear e
  cases e : Nat.beq op 5
  rotate_left
  · rw [show Nat.beq ((op, q, b, k, tab) : qTm).1 5 = true from e, qB_t rfl] at h
    cases Nat.eq_of_beq_eq_true e
    exact yE5_ok hE hrt hb h
  rw [show Nat.beq ((op, q, b, k, tab) : qTm).1 5 = false from e, qB_f rfl] at h
  clear e
  cases e : Nat.beq op 4
  rotate_left
  · rw [show Nat.beq ((op, q, b, k, tab) : qTm).1 4 = true from e, qB_t rfl] at h
    cases Nat.eq_of_beq_eq_true e
    intro ls st s hw
    cases e2 : Nat.beq k 1
    · rw [show Nat.beq ((4, q, b, k, tab) : qTm).2.2.2.1 1 = false from e2, qB_f rfl] at h
      obtain ⟨op9, t9, e9, h8⟩ := y1_t h
      clear h
      subst e9
      have h := h8
      clear h8
      obtain ⟨h1, h2⟩ := qB_and h
      cases Nat.eq_of_beq_eq_true h1
      cases Nat.eq_of_beq_eq_true h2
      exact hE.1 hrt pc (dc177 hb.1) ls st s hw
    · rw [show Nat.beq ((4, q, b, k, tab) : qTm).2.2.2.1 1 = true from e2, qB_t rfl] at h
      replace h := yX_t h
      obtain ⟨x, hx, h⟩ := h
      have e9 : x = pc := Nat.eq_of_beq_eq_true h
      subst e9
      exact hX x hx ls st s hw
  rw [show Nat.beq ((op, q, b, k, tab) : qTm).1 4 = false from e, qB_f rfl] at h
  clear e
  cases e : Nat.beq op 3
  · rw [show Nat.beq ((op, q, b, k, tab) : qTm).1 3 = false from e, qB_f rfl] at h
    cases Nat.eq_of_beq_eq_true h
    exact fun ls st s hw => False.elim hw
  rw [show Nat.beq ((op, q, b, k, tab) : qTm).1 3 = true from e, qB_t rfl] at h
  replace h := yX_t h
  obtain ⟨x, hx, h⟩ := h
  obtain ⟨h1, h2⟩ := qB_and h
  have e1 : x.1 = pc := Nat.eq_of_beq_eq_true h1
  have e2 := yTq_t h2
  rw [← e1, ← e2]
  exact hS x hx
/-- all blocks of a method -/
noncomputable def yRows (g : qG) (L : kLay) (tb : yTb) (mt : yMt) (GH : List Nat) (nL rt : Nat) (by_ : List Nat) (P : List Nat) (code : qCd) : List Nat → Bool := List.rec (motive := fun _ => List Nat → Bool) (fun _ => true) (fun blk _ ih l => List.rec (motive := fun _ => Bool) false (fun pc l _ => qB (yBody (yFree GH) (yRow g L tb mt nL) (yEnd mt rt P blk.2) blk.1 pc (zdr pc by_)) (ih l) false) l) code
theorem yRows_ok (hLO : LOk L) (hLa : yLa g L) (hT : yTO cl zs ns Ts own tb) (hG : ∀ b ∈ GH, kGhost L b = true) (hC : ∀ x ∈ mt.1, ∃ C, cts[x.2.2]? = some C ∧ ySite g L cl fo zs rs ns Ts G l cc nL own ret fr lo n Qf x.1 x.2.1 C)
    (hM : ∀ x ∈ mt.2.1, Nat.ble x.2.1 32 = true ∧ ∀ pc, decode cc pc = .ok (.invokestatic x.1, 3) → kI g (kW g L cl fo zs rs ns Ts G l cc nL own ret fr lo n Qf) pc (pc + 3) x.2) (hE : yEh (kW g L cl fo zs rs ns Ts G l cc nL own ret fr lo n Qf) cc ret Rr) (hrt : yRt rt ret) (hS : ∀ x ∈ mt.2.2.1, ∀ ls st s, wT (kV (kW g L cl fo zs rs ns Ts G l cc nL own ret fr lo n Qf) P) Rr x.2 ls st s → (kW g L cl fo zs rs ns Ts G l cc nL own ret fr lo n Qf) x.1 ls st s) (hX : ∀ x ∈ mt.2.2.2, ∀ ls st s, (st = [] ∧ Rr [] s) → (kW g L cl fo zs rs ns Ts G l cc nL own ret fr lo n Qf) x ls st s) :
    ∀ (code : qCd) (lp : List Nat), yRows g L tb mt GH nL rt (zby cc) P code lp = true → kAll g cts (kW g L cl fo zs rs ns Ts G l cc nL own ret fr lo n Qf) Rr P lp code
  | [], lp, _ => by cases lp <;> trivial
  | blk :: code, [], h => by cases h
  | blk :: code, pc :: lp, h => by
    obtain ⟨h1, h2⟩ := qB_and h
    exact ⟨yBody_ok (fun d pc hd => yFree_ok hG hd) (fun d pc bs k hb hk hk0 => yRow_ok hLO hLa hT hC hM hb hk hk0) (fun pc bs hb ht => yEnd_ok hE hrt hS hX hb ht) blk.1 pc _ (bIs_at cc pc) h1, yRows_ok hLO hLa hT hG hC hM hE hrt hS hX code lp h2⟩
end KR
section KR
variable {g : qG} {L : kLay} {cl : List vw_C} {fo : List rCC} {zs : List (String × String × String × rCV)} {rs : List (String × Nat × String × Nat)} {ns : List Cond} {Ts : List Cond}
variable {l : Launch} {ret : Option FieldType} {fr lo : Nat}
/-- a method keeps its contract: by its checked certificate and its rows' evaluation -/
theorem kmet_y {y : MethodName} {bytes : ByteArray} {maxL rt : Nat} {C : qCt} {cts : List qCt} {code : qCd} {cuts : qCu} {fuel : Nat} {str : List Nat} {P : List Nat} {tb : yTb} {mt : yMt} {GH : List Nat} (hy : plainName y.cls = true) (hg : gTags g) (h : zchk g cts ruI2 ruJ2 rqL code cuts C fuel str = true) (hw : zwid C.2.1.1 C.1 0 maxL = true) (hp : P[0]? = some 0)
    (hr : yRows g L tb mt GH maxL rt (zby bytes) P code P = true) (hLO : LOk L) (hLa : yLa g L) (hT : yTO cl zs ns Ts y.cls tb) (hG : ∀ b ∈ GH, kGhost L b = true) (hrt : yRt rt ret)
    (hC : ∀ (G : rGm) (n : Nat) (Qf : kQf), ∀ x ∈ mt.1, ∃ C, cts[x.2.2]? = some C ∧ ySite g L cl fo zs rs ns Ts G l bytes maxL y.cls ret fr lo n Qf x.1 x.2.1 C)
    (hM : ∀ (G : rGm) (n : Nat) (Qf : kQf), ∀ x ∈ mt.2.1, Nat.ble x.2.1 32 = true ∧ ∀ pc, decode bytes pc = .ok (.invokestatic x.1, 3) → kI g (kW g L cl fo zs rs ns Ts G l bytes maxL y.cls ret fr lo n Qf) pc (pc + 3) x.2)
    (hS : ∀ (G : rGm) (n : Nat) (Rr : List qV → qSg → Prop), ∀ x ∈ mt.2.2.1, ∀ ls st s, wT (kV (kW g L cl fo zs rs ns Ts G l bytes maxL y.cls ret fr lo n (kMQ g L cl fo zs rs ns G n Rr)) P) Rr x.2 ls st s → kW g L cl fo zs rs ns Ts G l bytes maxL y.cls ret fr lo n (kMQ g L cl fo zs rs ns G n Rr) x.1 ls st s) (hX : mt.2.2.2 = []) :
    kMet g L cl fo zs rs ns Ts l y bytes maxL ret fr lo C :=
  kmet_all (P := P) hy hg ruI2_RtI ruJ2_RtJ rqL_ok h hw hp fun G n Rr => yRows_ok hLO hLa hT hG (hC G n _) (hM G n _) yEh_q hrt (hS G n Rr) (fun x hx => by rw [hX] at hx; cases hx) code P hr
end KR
