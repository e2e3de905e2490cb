/-! STATES HELD AGAINST A TEMPLATE -/
section
variable {γ : qGh}
/-- unknown v of a template stands for the form l v -/
noncomputable def zsub (l : List qL) (t : qT) : qL → Option qL := List.rec (motive := fun _ => qL → Option qL) (fun a => some a) (fun x _ ih a => Option.rec none (fun f => qF (qA a x.2 f) (fun a => ih a)) (qNth l x.1)) t
noncomputable def zsb (l : List qL) (f : qL) : Option qL := zsub l f.2 (qC f.1)
/-- the template's unknowns, out of the state's -/
def zrS (r : qW) (l : List qL) : qW := fun v => match l[v]? with
  | some f => qe r f
  | none => 0
theorem zsub_ok {l : List qL} (r : qW) : ∀ (t : qT) (a b : qL), zsub l t a = some b → qe r b = qe r a + qE (zrS r l) t
  | [], a, b, h => by cases h; show qe r a = qe r a + 0; omega
  | x :: t, a, b, h => by
    have h' : Option.rec (motive := fun _ => Option qL) none (fun f : qL => qF (qA a x.2 f) (fun a => zsub l t a)) (qNth l x.1) = some b := h
    cases e : qNth l x.1 with
    | none => rw [e] at h'; cases h'
    | some f =>
      rw [e] at h'
      have h2 : qF (qA a x.2 f) (fun a => zsub l t a) = some b := h'
      rw [qF_eq] at h2
      rw [zsub_ok r t _ b h2, qA_ev]
      rw [qNth_get] at e
      have e2 : zrS r l x.1 = qe r f := by unfold zrS; rw [e]
      show qe r a + x.2 * qe r f + qE (zrS r l) t = qe r a + (x.2 * zrS r l x.1 + qE (zrS r l) t)
      rw [e2]; omega
theorem zsb_ok {l : List qL} {f f' : qL} (h : zsb l f = some f') (r : qW) : qe r f' = qe (zrS r l) f := by
  rw [zsub_ok r _ _ _ h, qC_ev]; rfl
/-- all unknowns are below n -/
noncomputable def zwt (n : Nat) (t : qT) : Bool := List.rec (motive := fun _ => Bool) true (fun x _ ih => qB (Nat.blt x.1 n) ih false) t
theorem blt_t {a b : Nat} (h : Nat.blt a b = true) : a < b := Nat.ble_eq.mp h
theorem zwt_ok {n : Nat} {r r' : qW} (hr : ∀ v, v < n → r' v = r v) : ∀ t : qT, zwt n t = true → qE r' t = qE r t
  | [], _ => rfl
  | x :: t, h => by
    obtain ⟨h1, h2⟩ := qB_and (show qB (Nat.blt x.1 n) (zwt n t) false = true from h)
    show x.2 * r' x.1 + qE r' t = x.2 * r x.1 + qE r t
    rw [hr _ (blt_t h1), zwt_ok hr t h2]
noncomputable def zwl (n : Nat) (f : qL) : Bool := zwt n f.2
theorem zwl_ok {n : Nat} {r r' : qW} (hr : ∀ v, v < n → r' v = r v) {f : qL} (h : zwl n f = true) : qe r' f = qe r f := by
  show f.1 + qE r' f.2 = f.1 + qE r f.2
  rw [zwt_ok hr _ h]
noncomputable def zall {α : Type} (p : α → Bool) (l : List α) : Bool := List.rec (motive := fun _ => Bool) true (fun x _ ih => qB (p x) ih false) l
theorem zall_ok {α : Type} {p : α → Bool} : ∀ l : List α, zall p l = true → ∀ x ∈ l, p x = true
  | [], _, x, hx => by cases hx
  | y :: l, h, x, hx => by
    obtain ⟨h1, h2⟩ := qB_and (show qB (p y) (zall p l) false = true from h)
    rcases List.mem_cons.mp hx with rfl | hx
    · exact h1
    · exact zall_ok l h2 x hx
noncomputable def zwv (n : Nat) (v : qSV) : Bool := qB (Nat.beq v.1 3) false (zwl n v.2.1)
theorem zwv_ok {n : Nat} {r r' : qW} (hr : ∀ v, v < n → r' v = r v) {v : qSV} (h : zwv n v = true) : qden r' v = qden r v ∧ v.1 ≠ 3 := by
  cases e : Nat.beq v.1 3
  · have h2 : zwl n v.2.1 = true := by
      have h' : qB (Nat.beq v.1 3) false (zwl n v.2.1) = true := h
      rw [e, qB_f rfl] at h'; exact h'
    have e2 := Nat.ne_of_beq_eq_false e
    unfold qden
    rw [if_neg e2, if_neg e2, zwl_ok hr h2]
    exact ⟨rfl, e2⟩
  · have h' : qB (Nat.beq v.1 3) false (zwl n v.2.1) = true := h
    rw [e, qB_t rfl] at h'; cases h'
noncomputable def znil {α : Type} (l : List α) : Bool := List.rec (motive := fun _ => Bool) true (fun _ _ _ => false) l
theorem znil_t {α : Type} {l : List α} (h : znil l = true) : l = [] := by
  cases l with
  | nil => rfl
  | cons x l => cases h
/-- a template is well formed: what it names is below its next unknown and version; no places read or versions written -/
noncomputable def zwf (T : qS) : Bool := qB (zall (fun q : Nat × qSV => zwv T.2.2.2.1 q.2) T.1) (qB (zall (zwv T.2.2.2.1) T.2.1) (qB (zall (fun q : Nat × qL => zwl T.2.2.2.1 q.2) T.2.2.1.1) (qB (zall (fun q : Nat × Nat => Nat.blt q.2 T.2.2.2.2.2.2.1) T.2.2.1.2)
  (qB (zall (fun q : Nat × (Int × Int) => Nat.blt q.1 T.2.2.2.1) T.2.2.2.2.1) (qB (zall (zwl T.2.2.2.1) T.2.2.2.2.2.1) (qB (zall (fun q : Nat × Nat => Nat.blt q.1 T.2.2.2.2.2.2.1) T.2.2.2.2.2.2.2.1) (qB (znil T.2.2.2.2.2.2.2.2.1) (qB (znil T.2.2.2.2.2.2.2.2.2.1)
  (zall (fun q : Nat × (List Nat × List qL) => qB (zall (fun v => Nat.blt v T.2.2.2.2.2.2.1) q.2.1) (zall (zwl T.2.2.2.1) q.2.2) false) T.2.2.2.2.2.2.2.2.2.2) false) false) false) false) false) false) false) false) false
theorem map_congr_mem {α β : Type} {f h : α → β} {l : List α} (e : ∀ x ∈ l, f x = h x) : l.map f = l.map h := List.map_inj_left.mpr e
theorem zwf_ok {g : qG} {T : qS} (hw : zwf T = true) {r : qW} {a : qX} {ls : qLS} {st : List qV} {s : qSg} (h : SatC g T r a ls st s) : Sat gh0 g T r a ls st s := by
  refine ⟨Gh.triv _ r a, ?_⟩
  obtain ⟨w1, hw⟩ := qB_and hw
  obtain ⟨w2, hw⟩ := qB_and hw
  obtain ⟨w3, hw⟩ := qB_and hw
  obtain ⟨w4, hw⟩ := qB_and hw
  obtain ⟨w5, hw⟩ := qB_and hw
  obtain ⟨w6, hw⟩ := qB_and hw
  obtain ⟨w7, hw⟩ := qB_and hw
  obtain ⟨w8, hw⟩ := qB_and hw
  obtain ⟨w9, w10⟩ := qB_and hw
  obtain ⟨c1, c2, c3, c4, k1, k2, k3, k4, k5, k6⟩ := h
  intro r' a' hg
  have hl : ∀ f : qL, zwl T.2.2.2.1 f = true → qe r' f = qe r f := fun f hf => zwl_ok hg.1 hf
  refine ⟨?_, ?_, ?_, ?_, ?_, ?_, ?_, ?_, ?_, ?_⟩
  · rw [c1]
    refine map_congr_mem fun q hq => ?_
    unfold dloc
    rw [(zwv_ok hg.1 (zall_ok _ w1 q hq)).1]
  · rw [c2]
    exact map_congr_mem fun q hq => ((zwv_ok hg.1 (zall_ok _ w2 q hq)).1).symm
  · intro x hx
    rw [hl _ (zall_ok _ w3 x hx)]; exact c3 x hx
  · intro x hx i
    rw [hg.2 _ (blt_t (zall_ok _ w4 x hx))]; exact c4 x hx i
  · intro x hx
    rw [hg.1 _ (blt_t (zall_ok _ w5 x hx))]; exact k1 x hx
  · intro x hx
    rw [hl _ (zall_ok _ w6 x hx)]; exact k2 x hx
  · rw [znil_t w8]; intro x hx; cases hx
  · rw [znil_t w9]; intro x hx; cases hx
  · intro x hx
    rw [hg.2 _ (blt_t (zall_ok _ w7 x hx))]; exact k5 x hx
  · intro x hx
    obtain ⟨u1, u2⟩ := qB_and (zall_ok _ w10 x hx)
    rw [map_congr_mem (f := a') (h := a) fun v hv => hg.2 v (blt_t (zall_ok _ u1 v hv)), map_congr_mem (f := qe r') (h := qe r) fun f hf => hl f (zall_ok _ u2 f hf)]
    exact k6 x hx
/-- the template's form f is the state's form f' -/
noncomputable def zeq (l : List qL) (f f' : qL) : Bool := Option.rec false (fun h => zc (qA h (-1) f') 0) (zsb l f)
theorem zeq_ok {l : List qL} {f f' : qL} (h : zeq l f f' = true) (r : qW) : qe (zrS r l) f = qe r f' := by
  unfold zeq at h
  cases e : zsb l f with
  | none => rw [e] at h; cases h
  | some q =>
    rw [e] at h
    have h1 := zc_t h r
    have h2 := zsb_ok e r
    rw [qA_ev] at h1
    omega
noncomputable def zev (l : List qL) (v v' : qSV) : Bool := qB (Nat.beq v.1 v'.1) (qB (Nat.beq v.1 3) false (zeq l v.2.1 v'.2.1)) false
theorem zev_ok {l : List qL} {v v' : qSV} (h : zev l v v' = true) (r : qW) : qden (zrS r l) v = qden r v' := by
  obtain ⟨h1, h2⟩ := qB_and h
  have e1 := Nat.eq_of_beq_eq_true h1
  cases e : Nat.beq v.1 3
  · rw [e, qB_f rfl] at h2
    have e2 := Nat.ne_of_beq_eq_false e
    unfold qden
    rw [if_neg e2, if_neg (by rw [← e1]; exact e2), zeq_ok h2 r, e1]
  · rw [e, qB_t rfl] at h2; cases h2
/-- two lists, one beside the other -/
noncomputable def zz2 {α β : Type} (p : α → β → Bool) (l : List α) : List β → Bool := List.rec (motive := fun _ => List β → Bool) (fun m => znil m) (fun x _ ih m => List.rec (motive := fun _ => Bool) false (fun y ys _ => qB (p x y) (ih ys) false) m) l
theorem zz2_ok {α β γ : Type} {p : α → β → Bool} {f : α → γ} {h : β → γ} (e : ∀ x y, p x y = true → f x = h y) : ∀ (l : List α) (m : List β), zz2 p l m = true → l.map f = m.map h
  | [], m, q => by
    have := znil_t (show znil m = true from q)
    subst this; rfl
  | x :: l, [], q => by cases q
  | x :: l, y :: m, q => by
    obtain ⟨q1, q2⟩ := qB_and (show qB (p x y) (zz2 p l m) false = true from q)
    rw [List.map_cons, List.map_cons, e x y q1, zz2_ok e l m q2]
/-- the template's versions, out of the state's -/
def aSub (a : qX) (l : List Nat) : qX := fun v => match l[v]? with
  | some w => a w
  | none => fun _ => 0
noncomputable def zvn (l : List Nat) (v w : Nat) : Bool := Option.rec false (fun u => Nat.beq u w) (qNth l v)
theorem zvn_ok {l : List Nat} {v w : Nat} (h : zvn l v w = true) (a : qX) : aSub a l v = a w := by
  unfold zvn at h
  cases e : qNth l v with
  | none => rw [e] at h; cases h
  | some u =>
    rw [e] at h
    rw [qNth_get] at e
    unfold aSub
    rw [e]
    have e2 : u = w := Nat.eq_of_beq_eq_true h
    subst e2; rfl
/-- the state holds against the template: its locals (by places), stack, fields, versions -/
noncomputable def zhold (th : List qL) (et : List Nat) (T S : qS) : Bool := qB (zall (fun q : Nat × qSV => Option.rec false (fun v => zev th q.2 v) (qFi (β := Int) S.1 q.1)) T.1) (qB (zz2 (zev th) T.2.1 S.2.1)
  (qB (zall (fun q : Nat × qL => Option.rec false (fun f => zeq th q.2 f) (qFi (β := Int) S.2.2.1.1 q.1)) T.2.2.1.1) (qB (zall (fun q : Nat × Nat => Option.rec false (fun w => zvn et q.2 w) (qFi (β := Int) S.2.2.1.2 q.1)) T.2.2.1.2)
  (zall (fun q : Nat × Nat => Option.rec false (fun w => zvn et q.1 w) (qFi (β := Int) S.2.2.1.2 q.2)) T.2.2.2.2.2.2.2.1) false) false) false) false
/-- .. its bounds and facts, as the stream tells -/
noncomputable def zbds {β : Type} (th : List qL) (K : qK) (l : qBd) : List Nat → (List Nat → Option β) → Option β := List.rec (motive := fun _ => List Nat → (List Nat → Option β) → Option β) (fun s k => k s) (fun q _ ih s k => Option.rec none (fun f => zgl K 0 q.2.1 q.2.2 f s (fun s => ih s k)) (qNth th q.1)) l
theorem zbds_some {β : Type} {th : List qL} {K : qK} {o : β} : ∀ (l : qBd) (s : List Nat) (k : List Nat → Option β), zbds th K l s k = some o → (∃ s', k s' = some o) ∧ ∀ (g : qG) (r : qW) (a : qX), KnC g K r a → qBok (zrS r th) l
  | [], s, k, h => ⟨⟨s, h⟩, fun _ _ _ _ x hx => by cases hx⟩
  | q :: l, s, k, h => by
    have h' : Option.rec (motive := fun _ => Option β) none (fun f : qL => zgl K 0 q.2.1 q.2.2 f s (fun s => zbds th K l s k)) (qNth th q.1) = some o := h
    cases e : qNth th q.1 with
    | none => rw [e] at h'; cases h'
    | some f =>
      rw [e] at h'
      obtain ⟨⟨s1, h1⟩, p1⟩ := zgl_some h'
      obtain ⟨h2, p2⟩ := zbds_some l s1 k h1
      refine ⟨h2, fun g r a C x hx => ?_⟩
      rcases List.mem_cons.mp hx with rfl | hx
      · have := p1 g r a C
        rw [qNth_get] at e
        have e2 : zrS r th x.1 = qe r f := by unfold zrS; rw [e]
        rw [e2]; exact this
      · exact p2 g r a C x hx
noncomputable def zfcs {β : Type} (th : List qL) (K : qK) (l : List qL) : List Nat → (List Nat → Option β) → Option β := List.rec (motive := fun _ => List Nat → (List Nat → Option β) → Option β) (fun s k => k s) (fun q _ ih s k => Option.rec none (fun f => zg K f s (fun s => ih s k)) (zsb th q)) l
theorem zfcs_some {β : Type} {th : List qL} {K : qK} {o : β} : ∀ (l : List qL) (s : List Nat) (k : List Nat → Option β), zfcs th K l s k = some o → (∃ s', k s' = some o) ∧ ∀ (g : qG) (r : qW) (a : qX), KnC g K r a → ∀ f ∈ l, 0 ≤ qe (zrS r th) f
  | [], s, k, h => ⟨⟨s, h⟩, fun _ _ _ _ x hx => by cases hx⟩
  | q :: l, s, k, h => by
    have h' : Option.rec (motive := fun _ => Option β) none (fun f : qL => zg K f s (fun s => zfcs th K l s k)) (zsb th q) = some o := h
    cases e : zsb th q with
    | none => rw [e] at h'; cases h'
    | some f =>
      rw [e] at h'
      obtain ⟨⟨s1, h1⟩, p1⟩ := zg_some h'
      obtain ⟨h2, p2⟩ := zfcs_some l s1 k h1
      refine ⟨h2, fun g r a C x hx => ?_⟩
      rcases List.mem_cons.mp hx with rfl | hx
      · rw [← zsb_ok e]; exact p1 g r a C
      · exact p2 g r a C x hx
/-- .. what else is said of arrays, by its place in the state -/
noncomputable def zqfs {β : Type} (th : List qL) (et : List Nat) (K : qK) (l : List (Nat × (List Nat × List qL))) : List Nat → (List Nat → Option β) → Option β := List.rec (motive := fun _ => List Nat → (List Nat → Option β) → Option β) (fun s k => k s) (fun q _ ih s k => zp s (fun n s => Option.rec none (fun x => qB (Nat.beq q.1 x.1) (qB (zz2 (zvn et) q.2.1 x.2.1) (qB (zz2 (zeq th) q.2.2 x.2.2) (ih s k) none) none) none) (qNth K.2.2.2.2.2.2.2 n))) l
theorem zqfs_some {β : Type} {th : List qL} {et : List Nat} {K : qK} {o : β} : ∀ (l : List (Nat × (List Nat × List qL))) (s : List Nat) (k : List Nat → Option β), zqfs th et K l s k = some o → (∃ s', k s' = some o) ∧ ∀ (g : qG) (r : qW) (a : qX), KnC g K r a → ∀ x ∈ l, PQ x.1 (x.2.1.map (aSub a et)) (x.2.2.map (qe (zrS r th)))
  | [], s, k, h => ⟨⟨s, h⟩, fun _ _ _ _ x hx => by cases hx⟩
  | q :: l, s, k, h => by
    obtain ⟨n, s1, h1⟩ := zp_some (s := s) h
    cases e : qNth K.2.2.2.2.2.2.2 n with
    | none => rw [e] at h1; cases h1
    | some x =>
      rw [e] at h1
      obtain ⟨u1, h2⟩ := qB_y h1
      obtain ⟨u2, h3⟩ := qB_y h2
      obtain ⟨u3, h4⟩ := qB_y h3
      obtain ⟨h5, p⟩ := zqfs_some l s1 k h4
      refine ⟨h5, fun g r a C y hy => ?_⟩
      rcases List.mem_cons.mp hy with rfl | hy
      · have q1 := C.2.2.2.2.2 x (qNth_mem _ _ e)
        rw [Nat.eq_of_beq_eq_true u1, zz2_ok (f := aSub a et) (h := a) (fun v w hvw => zvn_ok hvw a) _ _ u2, zz2_ok (f := qe (zrS r th)) (h := qe r) (fun v w hvw => zeq_ok hvw r) _ _ u3]
        exact q1
      · exact p g r a C y hy
/-- a state is held against a template -/
noncomputable def zarr {β : Type} (th : List qL) (et : List Nat) (T S : qS) (str : List Nat) (k : List Nat → Option β) : Option β := qB (zhold th et T S) (zbds th S.2.2.2 T.2.2.2.2.1 str (fun str => zfcs th S.2.2.2 T.2.2.2.2.2.1 str (fun str => zqfs th et S.2.2.2 T.2.2.2.2.2.2.2.2.2.2 str k))) none
/-- the locals that a template names -/
def lsSub (ls ls' : qLS) : Prop := ∀ q ∈ ls, q ∈ ls'
theorem zarr_some {β : Type} {th : List qL} {et : List Nat} {T S : qS} {str : List Nat} {k : List Nat → Option β} {o : β} (h : zarr th et T S str k = some o) (hw : zwf T = true) {g : qG} {r : qW} {a : qX} {ls : qLS} {st : List qV} {s : qSg} (hT : Typed g s) (hS : Sat γ g S r a ls st s) :
    (∃ s', k s' = some o) ∧ ∃ ls', lsSub ls' ls ∧ Sat gh0 g T (zrS r th) (aSub a et) ls' st s := by
  obtain ⟨h0, h1⟩ := qB_y h
  obtain ⟨⟨s1, h2⟩, p1⟩ := zbds_some _ _ _ h1
  obtain ⟨⟨s2, h3⟩, p2⟩ := zfcs_some _ _ _ h2
  obtain ⟨h4, p3⟩ := zqfs_some _ _ _ h3
  refine ⟨h4, T.1.map (dloc (zrS r th)), ?_, zwf_ok hw ?_⟩
  all_goals obtain ⟨v1, h0⟩ := qB_and h0
  all_goals obtain ⟨v2, h0⟩ := qB_and h0
  all_goals obtain ⟨v3, h0⟩ := qB_and h0
  all_goals obtain ⟨v4, v5⟩ := qB_and h0
  · intro q hq
    obtain ⟨x, hx, rfl⟩ := List.mem_map.mp hq
    have h5 := zall_ok _ v1 x hx
    cases e : qFi (β := Int) S.1 x.1 with
    | none => rw [e] at h5; cases h5
    | some v =>
      rw [e] at h5
      rw [hS.now.1]
      unfold dloc
      rw [zev_ok h5 r]
      exact List.mem_map.mpr ⟨(x.1, v), qFi_mem _ e, rfl⟩
  · obtain ⟨c1, c2, c3, c4, hk⟩ := hS.now
    have hwz := hw
    refine ⟨rfl, ?_, ?_, ?_, p1 g r a hk, p2 g r a hk, ?_, ?_, ?_, p3 g r a hk⟩
    · rw [c2]
      exact (zz2_ok (p := zev th) (f := qden (zrS r th)) (h := qden r) (fun x y hxy => zev_ok hxy r) _ _ v2).symm
    · intro x hx
      have h5 := zall_ok _ v3 x hx
      cases e : qFi (β := Int) S.2.2.1.1 x.1 with
      | none => rw [e] at h5; cases h5
      | some f => rw [e] at h5; rw [zeq_ok h5 r]; exact c3 _ (qFi_mem _ e)
    · intro x hx i
      have h5 := zall_ok _ v4 x hx
      cases e : qFi (β := Int) S.2.2.1.2 x.1 with
      | none => rw [e] at h5; cases h5
      | some w => rw [e] at h5; rw [zvn_ok h5 a]; exact c4 _ (qFi_mem _ e) i
    · obtain ⟨-, hw⟩ := qB_and hw
      obtain ⟨-, hw⟩ := qB_and hw
      obtain ⟨-, hw⟩ := qB_and hw
      obtain ⟨-, hw⟩ := qB_and hw
      obtain ⟨-, hw⟩ := qB_and hw
      obtain ⟨-, hw⟩ := qB_and hw
      obtain ⟨-, hw⟩ := qB_and hw
      obtain ⟨w8, hw⟩ := qB_and hw
      rw [znil_t w8]; intro x hx; cases hx
    · obtain ⟨-, hw⟩ := qB_and hw
      obtain ⟨-, hw⟩ := qB_and hw
      obtain ⟨-, hw⟩ := qB_and hw
      obtain ⟨-, hw⟩ := qB_and hw
      obtain ⟨-, hw⟩ := qB_and hw
      obtain ⟨-, hw⟩ := qB_and hw
      obtain ⟨-, hw⟩ := qB_and hw
      obtain ⟨-, hw⟩ := qB_and hw
      obtain ⟨w9, -⟩ := qB_and hw
      rw [znil_t w9]; intro x hx; cases hx
    · intro x hx y hy
      have h5 := zall_ok _ v5 x hx
      cases e : qFi (β := Int) S.2.2.1.2 x.2 with
      | none => rw [e] at h5; cases h5
      | some w =>
        rw [e] at h5
        rw [zvn_ok h5 a]
        intro i h6 h7
        rw [← c4 _ (qFi_mem _ e) i]
        exact hT x.2 y hy i h6 h7
end
