/-! STEPS OF FIELDS AND ARRAYS -/
section
variable {γ : qGh}
theorem qNth_get {α : Type} : ∀ (l : List α) (i : Nat), qNth l i = l[i]?
  | [], i => by rw [List.getElem?_nil]; rfl
  | x :: l, 0 => rfl
  | x :: l, i + 1 => by rw [List.getElem?_cons_succ]; exact qNth_get l i
/-- is the constant c -/
noncomputable def zc (f : qL) (c : Int) : Bool := List.rec (motive := fun _ => Bool) (qIz (f.1 - c)) (fun _ _ _ => false) f.2
theorem zc_t {f : qL} {c : Int} (h : zc f c = true) (r : qW) : qe r f = c := by
  obtain ⟨a, t⟩ := f
  cases t with
  | nil =>
    have h2 : a - c = 0 := qIz_t h
    show a + 0 = c
    omega
  | cons x t => cases h
/-- all but b's -/
noncomputable def zdel {α : Type} (b : Nat) (l : List (Nat × α)) : List (Nat × α) := List.rec (motive := fun _ => List (Nat × α)) [] (fun x _ ih => qB (Nat.beq x.1 b) ih (x :: ih)) l
theorem zdel_mem {α : Type} {b : Nat} {x : Nat × α} : ∀ l : List (Nat × α), x ∈ zdel b l → x ∈ l ∧ x.1 ≠ b
  | [], h => by cases h
  | y :: l, h => by
    have h' : x ∈ qB (Nat.beq y.1 b) (zdel b l) (y :: zdel b l) := h
    cases e : Nat.beq y.1 b
    · rw [e, qB_f rfl] at h'
      rcases List.mem_cons.mp h' with rfl | h2
      · exact ⟨List.mem_cons_self, Nat.ne_of_beq_eq_false e⟩
      · exact ⟨List.mem_cons_of_mem _ (zdel_mem l h2).1, (zdel_mem l h2).2⟩
    · rw [e, qB_t rfl] at h'
      exact ⟨List.mem_cons_of_mem _ (zdel_mem l h').1, (zdel_mem l h').2⟩
noncomputable def zmem (b : Nat) (l : List Nat) : Bool := List.rec (motive := fun _ => Bool) false (fun x _ ih => qB (Nat.beq x b) true ih) l
theorem zmem_t {b : Nat} : ∀ l : List Nat, zmem b l = true → b ∈ l
  | [], h => by cases h
  | x :: l, h => by
    have h' : qB (Nat.beq x b) true (zmem b l) = true := h
    cases e : Nat.beq x b
    · rw [e, qB_f rfl] at h'; exact List.mem_cons_of_mem _ (zmem_t l h')
    · rw [← Nat.eq_of_beq_eq_true e]; exact List.mem_cons_self
noncomputable def qIlt (a b : Int) : Bool := qIn (b - a - 1)
theorem qIlt_t {a b : Int} (h : qIlt a b = true) : a < b := by have := qIn_t h; omega
noncomputable def qIle (a b : Int) : Bool := qIn (b - a)
theorem qIle_t {a b : Int} (h : qIle a b = true) : a ≤ b := by have := qIn_t h; omega
/-- a block's column for a place whose index in its row is f -/
noncomputable def zmin (l : List (Int × Int)) (k : Int × Int → Option (Int × Int)) : Option (Int × Int) := List.rec (motive := fun _ => Option (Int × Int)) none (fun x t ih => List.rec (motive := fun _ => Option (Int × Int)) (k x) (fun _ _ _ => Option.rec none (fun y => k (qB (qIle x.1 y.1) x.1 y.1, qB (qIle y.2 x.2) x.2 y.2)) ih) t) l
noncomputable def zcol (x : qBI) (f : qL) : Option (Int × Int) := List.rec (motive := fun _ => Option (Int × Int)) (qB (qIz (Int.ofNat x.2.2.2.2.length - x.2.2.1)) (qNth x.2.2.2.2 f.1.toNat) (qB (Nat.beq x.2.2.2.2.length 1) (qNth x.2.2.2.2 0) none)) (fun _ _ _ => qB (Nat.beq x.2.2.2.2.length 1) (qNth x.2.2.2.2 0) none) f.2
theorem colAt_1 {cols : List (Int × Int)} {c : Int × Int} (h : Nat.beq cols.length 1 = true) (h2 : qNth cols 0 = some c) (i : Int) : colAt cols i = some c := by
  have e := Nat.eq_of_beq_eq_true h
  unfold colAt
  rw [e, qNth_get] at *
  rw [show (i % ((1 : Nat) : Int)).toNat = 0 by omega]
  exact h2
theorem zcol_ok {x : qBI} {f : qL} {c : Int × Int} (h : zcol x f = some c) (r : qW) (w : Int) (h0 : 0 ≤ qe r f) (h1 : qe r f < x.2.2.1) : colAt x.2.2.2.2 (x.2.2.1 * w + qe r f) = some c := by
  obtain ⟨a, t⟩ := f
  cases t with
  | cons y t =>
    obtain ⟨e1, e2⟩ := qB_y (show qB (Nat.beq x.2.2.2.2.length 1) (qNth x.2.2.2.2 0) none = some c from h)
    exact colAt_1 e1 e2 _
  | nil =>
    have h' : qB (qIz (Int.ofNat x.2.2.2.2.length - x.2.2.1)) (qNth x.2.2.2.2 a.toNat) (qB (Nat.beq x.2.2.2.2.length 1) (qNth x.2.2.2.2 0) none) = some c := h
    cases e : qIz (Int.ofNat x.2.2.2.2.length - x.2.2.1)
    · rw [e, qB_f rfl] at h'
      obtain ⟨e1, e2⟩ := qB_y h'
      exact colAt_1 e1 e2 _
    · rw [e, qB_t rfl] at h'
      have e1 := qIz_t e
      have e2 : Int.ofNat x.2.2.2.2.length = ((x.2.2.2.2.length : Nat) : Int) := rfl
      rw [e2] at e1
      have ea : qe r (a, ([] : qT)) = a := by show a + 0 = a; omega
      rw [ea] at h0 h1 ⊢
      unfold colAt
      rw [← h', qNth_get]
      congr 1
      rw [show ((x.2.2.2.2.length : Nat) : Int) = x.2.2.1 by omega, Int.add_comm, Int.add_mul_emod_self_left, Int.emod_eq_of_lt h0 h1]
/-- all columns together: the least and the most that any allows, that all allow -/
noncomputable def zhull (l : List (Int × Int)) : Int × Int → Int × Int := List.rec (motive := fun _ => Int × Int → Int × Int) (fun a => a) (fun x _ ih a => ih (qB (qIle a.1 x.1) a.1 x.1, qB (qIle x.2 a.2) a.2 x.2)) l
noncomputable def zmeet (l : List (Int × Int)) : Int × Int → Int × Int := List.rec (motive := fun _ => Int × Int → Int × Int) (fun a => a) (fun x _ ih a => ih (qB (qIle a.1 x.1) x.1 a.1, qB (qIle x.2 a.2) x.2 a.2)) l
theorem qIle_f {a b : Int} (h : qIle a b = false) : b < a := by have := qIn_f h; omega
theorem zhull_ok : ∀ (l : List (Int × Int)) (a : Int × Int), (zhull l a).1 ≤ a.1 ∧ a.2 ≤ (zhull l a).2 ∧ ∀ x ∈ l, (zhull l a).1 ≤ x.1 ∧ x.2 ≤ (zhull l a).2
  | [], a => ⟨Int.le_refl _, Int.le_refl _, fun x hx => by cases hx⟩
  | y :: l, a => by
    obtain ⟨h1, h2, h3⟩ := zhull_ok l (qB (qIle a.1 y.1) a.1 y.1, qB (qIle y.2 a.2) a.2 y.2)
    have e : zhull (y :: l) a = zhull l (qB (qIle a.1 y.1) a.1 y.1, qB (qIle y.2 a.2) a.2 y.2) := rfl
    rw [e]
    have q1 : qB (qIle a.1 y.1) a.1 y.1 ≤ a.1 ∧ qB (qIle a.1 y.1) a.1 y.1 ≤ y.1 := by
      cases c : qIle a.1 y.1
      · rw [qB_f rfl]; have := qIle_f c; omega
      · rw [qB_t rfl]; have := qIle_t c; omega
    have q2 : a.2 ≤ qB (qIle y.2 a.2) a.2 y.2 ∧ y.2 ≤ qB (qIle y.2 a.2) a.2 y.2 := by
      cases c : qIle y.2 a.2
      · rw [qB_f rfl]; have := qIle_f c; omega
      · rw [qB_t rfl]; have := qIle_t c; omega
    have h1 : (zhull l (qB (qIle a.1 y.1) a.1 y.1, qB (qIle y.2 a.2) a.2 y.2)).1 ≤ qB (qIle a.1 y.1) a.1 y.1 := h1
    have h2 : qB (qIle y.2 a.2) a.2 y.2 ≤ (zhull l (qB (qIle a.1 y.1) a.1 y.1, qB (qIle y.2 a.2) a.2 y.2)).2 := h2
    refine ⟨by omega, by omega, fun x hx => ?_⟩
    rcases List.mem_cons.mp hx with rfl | hx
    · exact ⟨by omega, by omega⟩
    · exact h3 x hx
theorem zmeet_ok : ∀ (l : List (Int × Int)) (a : Int × Int), a.1 ≤ (zmeet l a).1 ∧ (zmeet l a).2 ≤ a.2 ∧ ∀ x ∈ l, x.1 ≤ (zmeet l a).1 ∧ (zmeet l a).2 ≤ x.2
  | [], a => ⟨Int.le_refl _, Int.le_refl _, fun x hx => by cases hx⟩
  | y :: l, a => by
    obtain ⟨h1, h2, h3⟩ := zmeet_ok l (qB (qIle a.1 y.1) y.1 a.1, qB (qIle y.2 a.2) y.2 a.2)
    have e : zmeet (y :: l) a = zmeet l (qB (qIle a.1 y.1) y.1 a.1, qB (qIle y.2 a.2) y.2 a.2) := rfl
    rw [e]
    have q1 : a.1 ≤ qB (qIle a.1 y.1) y.1 a.1 ∧ y.1 ≤ qB (qIle a.1 y.1) y.1 a.1 := by
      cases c : qIle a.1 y.1
      · rw [qB_f rfl]; have := qIle_f c; omega
      · rw [qB_t rfl]; have := qIle_t c; omega
    have q2 : qB (qIle y.2 a.2) y.2 a.2 ≤ a.2 ∧ qB (qIle y.2 a.2) y.2 a.2 ≤ y.2 := by
      cases c : qIle y.2 a.2
      · rw [qB_f rfl]; have := qIle_f c; omega
      · rw [qB_t rfl]; have := qIle_t c; omega
    have h1 : qB (qIle a.1 y.1) y.1 a.1 ≤ (zmeet l (qB (qIle a.1 y.1) y.1 a.1, qB (qIle y.2 a.2) y.2 a.2)).1 := h1
    have h2 : (zmeet l (qB (qIle a.1 y.1) y.1 a.1, qB (qIle y.2 a.2) y.2 a.2)).2 ≤ qB (qIle y.2 a.2) y.2 a.2 := h2
    refine ⟨by omega, by omega, fun x hx => ?_⟩
    rcases List.mem_cons.mp hx with rfl | hx
    · exact ⟨by omega, by omega⟩
    · exact h3 x hx
theorem colAt_mem {cols : List (Int × Int)} {i : Int} {c : Int × Int} (h : colAt cols i = some c) : c ∈ cols := List.mem_of_getElem? h
theorem colAt_ex {cols : List (Int × Int)} (h : cols ≠ []) (i : Int) : ∃ c, colAt cols i = some c := by
  have hl : 0 < cols.length := List.length_pos_iff.mpr h
  have h2 : (i % (cols.length : Int)).toNat < cols.length := by
    have a := Int.emod_nonneg i (show (cols.length : Int) ≠ 0 by omega)
    have b := Int.emod_lt_of_pos i (show (0 : Int) < (cols.length : Int) by omega)
    omega
  exact ⟨cols[(i % (cols.length : Int)).toNat], List.getElem?_eq_getElem h2⟩
theorem Typed.up {g : qG} {s : qSg} (h : Typed g s) {b : Nat} {x : qBI} (hx : g[b]? = some x) {i z : Int} {c : Int × Int} (hc : colAt x.2.2.2.2 i = some c) (h1 : inR c.1 c.2 z) : Typed g (qUp s b i z) := by
  intro b' y hy j h2 h3
  unfold qUp
  by_cases e : b' = b ∧ j = i
  · rw [if_pos e]
    obtain ⟨rfl, rfl⟩ := e
    rw [hx] at hy
    cases hy
    exact ⟨c, hc, h1.1, h1.2⟩
  · rw [if_neg e]
    exact h b' y hy j h2 h3
theorem qJ.up {g : qG} {md : List Nat} {se s : qSg} (h : qJ g md se s) {b : Nat} {x : qBI} (hx : g[b]? = some x) (hb : b ∈ md) {i z : Int} {c : Int × Int} (hc : colAt x.2.2.2.2 i = some c) (h1 : inR c.1 c.2 z) : qJ g md se (qUp s b i z) := by
  refine ⟨h.1.up hx hc h1, fun b' hb' => ?_⟩
  rw [← h.2 b' hb']
  funext j
  exact if_neg (fun e : b' = b ∧ j = i => hb' (by rw [e.1]; exact hb))
/-- a state with other fields and arrays known, other facts -/
noncomputable def S_mk (S : qS) (stk : List qSV) (m : qMm) (K : qK) : qS := (S.1, stk, m, K)
-- a field read: the object's number d.2.1, its block d.2.2.1
noncomputable def x24 (g : qG) (d : qD) : qS → List Nat → qKk → qR := fun S str k => zt 2 S.2.1 (fun f st => qB (zc f d.2.1) (Option.rec none (fun x => Option.rec
    (Option.rec none (fun c => qB (qIlt 0 (x.2.1 * x.2.2.1)) (k (S_mk S ((x.2.2.2.1, qV1 S.2.2.2.1, qC 0) :: st) ((d.2.2.1.toNat, qV1 S.2.2.2.1) :: S.2.2.1.1, S.2.2.1.2) (kVar S.2.2.2 c.1 c.2)) str) none) (qNth x.2.2.2.2 0))
    (fun v => k (S_stk S ((x.2.2.2.1, v, qC 0) :: st)) str) (qFi (β := Int) S.2.2.1.1 d.2.2.1.toNat)) (qNth g d.2.2.1.toNat)) none)
def gTags (g : qG) : Prop := ∀ (b : Nat) (x : qBI), g[b]? = some x → x.2.2.2.1 = 0 ∨ x.2.2.2.1 = 1
theorem colAt_0 {cols : List (Int × Int)} {c : Int × Int} (h : qNth cols 0 = some c) : colAt cols 0 = some c := by
  unfold colAt
  rw [qNth_get] at h
  rw [show ((0 : Int) % (cols.length : Int)).toNat = 0 by rw [Int.zero_emod]; rfl]
  exact h
theorem x24_ok (g : qG) (hg : gTags g) (md : List Nat) (se : qSg) (b : Int × Int × Int) : qStp γ g md se (24, b) (x24 g (24, b)) := by
  intro S str k o P h hk r a ls st s hT hS
  obtain ⟨f, st1, h1, h2⟩ := zt_some (by decide) h
  obtain ⟨h3, h4⟩ := qB_y h1
  cases e : qNth g b.2.1.toNat with
  | none => rw [show ((24, b) : qD).2.2.1 = b.2.1 from rfl, e] at h4; cases h4
  | some x =>
    rw [show ((24, b) : qD).2.2.1 = b.2.1 from rfl, e] at h4
    have hx : g[b.2.1.toNat]? = some x := by rw [← qNth_get]; exact e
    have ht3 : x.2.2.2.1 ≠ 3 := by rcases hg _ _ hx with q | q <;> rw [q] <;> decide
    refine ⟨x, st1.map (qden r), by rw [hS.now.2.1, h2, zc_t h3], hx, ?_⟩
    have htail : ∀ r', st = S.2.1.map (qden r') → st1.map (qden r) = st1.map (qden r') := fun r' e' => by
      have q := hS.now.2.1.symm.trans e'
      rw [h2, h2] at q
      exact (List.cons.inj q).2
    cases e2 : qFi (β := Int) S.2.2.1.1 b.2.1.toNat with
    | some v =>
      have h5 : k (S_stk S ((x.2.2.2.1, v, qC 0) :: st1)) str = some o := by
        have h6 := h4
        simp only [e2] at h6
        exact h6
      refine hk _ _ _ h5 r a _ _ s hT ?_
      refine ⟨hS.1, ?_⟩
      intro r' a' hg'
      have C := hS.2 r' a' hg'
      refine ⟨C.1, ?_, C.2.2⟩
      show (x.2.2.2.1, s b.2.1.toNat 0) :: st1.map (qden r) = qden r' (x.2.2.2.1, v, qC 0) :: st1.map (qden r')
      rw [den_i r' _ _ _ ht3, htail r' C.2.1, C.2.2.1 _ (qFi_mem _ e2)]
    | none =>
      have h6 := h4
      simp only [e2] at h6
      cases e3 : qNth x.2.2.2.2 0 with
      | none => rw [e3] at h6; cases h6
      | some c =>
        rw [e3] at h6
        obtain ⟨h7, h8⟩ := qB_y h6
        obtain ⟨c', hc1, hc2, hc3⟩ := hT.1 _ _ hx 0 (by omega) (qIlt_t h7)
        rw [colAt_0 e3] at hc1
        cases hc1
        have hV := hS.var (s b.2.1.toNat 0) c.1 c.2 hc2 hc3
        refine hk _ _ _ h8 (wUp r S.2.2.2.1 (s b.2.1.toNat 0)) a _ _ s hT ?_
        refine ⟨hV.1, ?_⟩
        intro r' a' hg'
        have C := hV.2 r' a' hg'
        have hz : r' S.2.2.2.1 = s b.2.1.toNat 0 := by rw [hg'.1 _ (Nat.lt_succ_self _), wUp_same]
        refine ⟨C.1, ?_, ?_, C.2.2.2⟩
        · show (x.2.2.2.1, s b.2.1.toNat 0) :: st1.map (qden r) = qden r' (x.2.2.2.1, qV1 S.2.2.2.1, qC 0) :: st1.map (qden r')
          rw [den_i r' _ _ _ ht3, qV1_ev, hz, htail r' C.2.1]
        · intro y hy
          rcases List.mem_cons.mp hy with rfl | hy
          · show s b.2.1.toNat 0 = qe r' (qV1 S.2.2.2.1)
            rw [qV1_ev, hz]
          · exact C.2.2.1 y hy
-- a field that holds a reference
noncomputable def x25 (d : qD) : qS → List Nat → qKk → qR := fun S str k => zt 2 S.2.1 (fun f st => qB (zc f d.2.1) (k (S_stk S ((2, qC d.2.2.1, qC 0) :: st)) str) none)
theorem x25_ok (g : qG) (md : List Nat) (se : qSg) (b : Int × Int × Int) : qStp γ g md se (25, b) (x25 (25, b)) := by
  intro S str k o P h hk r a ls st s hT hS
  obtain ⟨f, st1, h1, h2⟩ := zt_some (by decide) h
  obtain ⟨h3, h4⟩ := qB_y h1
  refine ⟨st1.map (qden r), by rw [hS.now.2.1, h2, zc_t h3], hk _ _ _ h4 r a _ _ s hT (hS.stk _ fun r' e' => ?_)⟩
  have q := hS.now.2.1.symm.trans e'
  rw [h2, h2] at q
  rw [List.map_cons, den_i r' _ _ _ (by decide), qC_ev, (List.cons.inj q).2]
-- a field written
noncomputable def x26 (g : qG) (md : List Nat) (d : qD) : qS → List Nat → qKk → qR := fun S str k => Option.rec none (fun x => zt x.2.2.2.1 S.2.1 (fun z st => zt 2 st (fun f st => qB (zc f d.2.1) (qB (zmem d.2.2.1.toNat md) (Option.rec none (fun c =>
    zg S.2.2.2 (qA z (-1) (qC c.1)) str (fun str => zg S.2.2.2 (qA (qC c.2) (-1) z) str (fun str => k (S_mk S st ((d.2.2.1.toNat, z) :: zdel d.2.2.1.toNat S.2.2.1.1, zdel d.2.2.1.toNat S.2.2.1.2) S.2.2.2) str))) (qNth x.2.2.2.2 0)) none) none))) (qNth g d.2.2.1.toNat)
theorem x26_ok (g : qG) (hg : gTags g) (md : List Nat) (se : qSg) (b : Int × Int × Int) : qStp γ g md se (26, b) (x26 g md (26, b)) := by
  intro S str k o P h hk r a ls st s hT hS
  cases e : qNth g b.2.1.toNat with
  | none =>
    have h' := h
    unfold x26 at h'
    rw [show ((26, b) : qD).2.2.1 = b.2.1 from rfl, e] at h'; cases h'
  | some x =>
    have h' := h
    unfold x26 at h'
    rw [show ((26, b) : qD).2.2.1 = b.2.1 from rfl, e] at h'
    have hx : g[b.2.1.toNat]? = some x := by rw [← qNth_get]; exact e
    have ht3 : x.2.2.2.1 ≠ 3 := by rcases hg _ _ hx with q | q <;> rw [q] <;> decide
    obtain ⟨z, st0, h1, h2⟩ := zt_some ht3 h'
    obtain ⟨f, st1, h3, h4⟩ := zt_some (by decide) h1
    obtain ⟨h5, h6⟩ := qB_y h3
    obtain ⟨h7, h8⟩ := qB_y h6
    cases e3 : qNth x.2.2.2.2 0 with
    | none => rw [e3] at h8; cases h8
    | some c =>
      rw [e3] at h8
      obtain ⟨⟨str1, h9⟩, p1⟩ := zg_some h8
      obtain ⟨⟨str2, h10⟩, p2⟩ := zg_some h9
      have q1 := p1 g r a hS.now.2.2.2.2
      have q2 := p2 g r a hS.now.2.2.2.2
      rw [qA_ev, qC_ev] at q1 q2
      have hin : inR c.1 c.2 (qe r z) := ⟨by omega, by omega⟩
      refine ⟨x, c, qe r z, st1.map (qden r), by rw [hS.now.2.1, h2, h4, zc_t h5], hx, colAt_0 e3, hin, hk _ _ _ h10 r a _ _ _ (hT.up hx (zmem_t _ h7) (colAt_0 e3) hin) ?_⟩
      refine hS.to S.1 st1 _ fun r' a' C => ?_
      have q := hS.now.2.1.symm.trans C.2.1
      rw [h2, h2, h4, h4] at q
      obtain ⟨u1, u2⟩ := List.cons.inj q
      obtain ⟨u3, u4⟩ := List.cons.inj u2
      have u5 := (Prod.mk.inj u1).2
      refine ⟨C.1, u4, ?_, ?_⟩
      · intro y hy
        rcases List.mem_cons.mp hy with rfl | hy
        · show qUp s b.2.1.toNat 0 (qe r z) b.2.1.toNat 0 = qe r' z
          unfold qUp
          rw [if_pos ⟨rfl, rfl⟩, u5]
        · obtain ⟨y1, y2⟩ := zdel_mem _ hy
          unfold qUp
          rw [if_neg (fun z => y2 z.1)]
          exact C.2.2.1 y y1
      · intro y hy i
        obtain ⟨y1, y2⟩ := zdel_mem _ hy
        unfold qUp
        rw [if_neg (fun z => y2 z.1)]
        exact C.2.2.2.1 y y1 i
end
