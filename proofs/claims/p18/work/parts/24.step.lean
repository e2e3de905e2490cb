/-! STEPS OF LOCALS, STACK AND SUMS -/
section
variable {γ : qGh}
/-- what stays of the locals when place i is written -/
noncomputable def zkeep (i : Nat) (w : Bool) (q : Nat × qSV) : Bool := qB (Nat.beq q.1 i) false (qB (qB w (Nat.beq q.1 (Nat.succ i)) false) false (qB (Nat.beq (Nat.succ q.1) i) (qB (Nat.beq q.2.1 1) false true) true))
noncomputable def zfl (i : Nat) (w : Bool) (l : List (Nat × qSV)) : List (Nat × qSV) := List.rec (motive := fun _ => List (Nat × qSV)) [] (fun x _ ih => qB (zkeep i w x) (x :: ih) ih) l
theorem qbeq (a b : Nat) : (a == b) = Nat.beq a b := by
  cases e : Nat.beq a b
  · exact beq_false_of_ne (Nat.ne_of_beq_eq_false e)
  · rw [Nat.eq_of_beq_eq_true e]; exact beq_self_eq_true _
theorem zkeep_eq (r : qW) (i : Nat) (w : Bool) (q : Nat × qSV) : zkeep i w q = keepV i w (dloc r q) := by
  unfold keepV zkeep dloc
  simp only [qbeq]
  have e3 : Nat.beq (qden r q.2).1 1 = Nat.beq q.2.1 1 := by
    rw [ztag_den]; unfold ztag
    cases e : Nat.beq q.2.1 3
    · rw [qB_f rfl]
    · rw [qB_t rfl, Nat.eq_of_beq_eq_true e]; rfl
  rw [e3]
  show _ = (!Nat.beq q.1 i && (!(w && Nat.beq q.1 (Nat.succ i)) && !(Nat.beq (Nat.succ q.1) i && Nat.beq q.2.1 1)))
  cases Nat.beq q.1 i <;> cases w <;> cases Nat.beq q.1 (Nat.succ i) <;> cases Nat.beq (Nat.succ q.1) i <;> cases Nat.beq q.2.1 1 <;> rfl
theorem zfl_eq (r : qW) (i : Nat) (w : Bool) : ∀ l : List (Nat × qSV), (zfl i w l).map (dloc r) = (l.map (dloc r)).filter (keepV i w)
  | [] => rfl
  | x :: l => by
    show (qB (zkeep i w x) (x :: zfl i w l) (zfl i w l)).map (dloc r) = _
    rw [List.map_cons]
    cases e : zkeep i w x
    · rw [qB_f rfl, List.filter_cons_of_neg (by rw [← zkeep_eq, e]; decide), zfl_eq r i w l]
    · rw [qB_t rfl, List.filter_cons_of_pos (by rw [← zkeep_eq, e]), List.map_cons, zfl_eq r i w l]
-- store into a place: d.2.2.1 the tag
noncomputable def x4 (d : qD) : qS → List Nat → qKk → qR := fun S str k => zk S.2.1 (fun v st => qB (Nat.beq (ztag v) d.2.2.1.toNat) (k (S_ls S ((d.2.1.toNat, v) :: zfl d.2.1.toNat (Nat.beq (ztag v) 1) S.1) st) str) none)
theorem x4_ok (g : qG) (md : List Nat) (se : qSg) (b : Int × Int × Int) : qStp γ g md se (4, b) (x4 (4, b)) := by
  intro S str k o P h hk r a ls st s hT hS
  obtain ⟨v, st', h1, h2⟩ := zk_some h
  cases e : Nat.beq (ztag v) b.2.1.toNat
  · rw [e, qB_f rfl] at h2; cases h2
  · rw [e, qB_t rfl] at h2
    have e1 := Nat.eq_of_beq_eq_true e
    refine ⟨qden r v, st'.map (qden r), ?_, (ztag_den r v).trans e1, hk _ _ _ h2 r a _ _ s hT (hS.ls _ _ ?_)⟩
    · rw [hS.now.2.1, h1]; rfl
    · intro r' a' C
      have e4 : st'.map (qden r) = st'.map (qden r') ∧ qden r v = qden r' v := by
        have q1 := hS.now.2.1
        have q2 := C.2.1
        rw [q1, h1, List.map_cons, List.map_cons] at q2
        exact ⟨(List.cons.inj q2).2, (List.cons.inj q2).1⟩
      refine ⟨?_, e4.1⟩
      show lsSet b.1.toNat (qden r v) ls = _
      unfold lsSet
      rw [List.map_cons, zfl_eq, e4.2, ← C.1, ztag_den, qbeq]
      rfl
-- iinc
noncomputable def x5 (d : qD) : qS → List Nat → qKk → qR := fun S str k => Option.rec none (fun v => qB (Nat.beq v.1 0) (qF (qA v.2.1 1 (qC d.2.2.1)) (fun f => k (S_ls S ((d.2.1.toNat, (0, f, qC 0)) :: zfl d.2.1.toNat false S.1) S.2.1) str)) none) (qFi (β := Int) S.1 d.2.1.toNat)
theorem x5_ok (g : qG) (md : List Nat) (se : qSg) (b : Int × Int × Int) : qStp γ g md se (5, b) (x5 (5, b)) := by
  intro S str k o P h hk r a ls st s hT hS
  have h' : Option.rec (motive := fun _ => qR) none (fun v : qSV => qB (Nat.beq v.1 0) (qF (qA v.2.1 1 (qC b.2.1)) (fun f => k (S_ls S ((b.1.toNat, (0, f, qC 0)) :: zfl b.1.toNat false S.1) S.2.1) str)) none) (qFi (β := Int) S.1 b.1.toNat) = some o := h
  cases e : qFi (β := Int) S.1 b.1.toNat with
  | none => rw [e] at h'; cases h'
  | some v =>
    rw [e] at h'
    have h2 : qB (Nat.beq v.1 0) (qF (qA v.2.1 1 (qC b.2.1)) (fun f => k (S_ls S ((b.1.toNat, (0, f, qC 0)) :: zfl b.1.toNat false S.1) S.2.1) str)) none = some o := h'
    cases e0 : Nat.beq v.1 0
    · rw [e0, qB_f rfl] at h2; cases h2
    · rw [e0, qB_t rfl, qF_eq] at h2
      have e1 := Nat.eq_of_beq_eq_true e0
      have ed : ∀ r', qden r' v = (0, qe r' v.2.1) := fun r' => by unfold qden; rw [if_neg (by omega), e1]
      refine ⟨qe r v.2.1, ?_, hk _ _ _ h2 r a _ _ s hT (hS.ls _ _ ?_)⟩
      · rw [hS.now.1, ← ed r]
        exact List.mem_map.mpr ⟨_, qFi_mem _ e, rfl⟩
      · intro r' a' C
        refine ⟨?_, C.2.1⟩
        have e4 : qden r v = qden r' v := by
          have q1 := hS.now.1
          have q2 := C.1
          rw [q1] at q2
          exact (Prod.mk.injEq _ _ _ _ ▸ (List.map_inj_left.mp q2 _ (qFi_mem _ e) : dloc r _ = dloc r' _)).2
        rw [ed, ed] at e4
        have e5 : qe r v.2.1 = qe r' v.2.1 := (Prod.mk.injEq _ _ _ _ ▸ e4).2
        unfold lsSet
        rw [List.map_cons, zfl_eq, ← C.1]
        show (b.1.toNat, ((0, qe r v.2.1 + b.2.1) : qV)) :: ls.filter (keepV b.1.toNat false) = (b.1.toNat, qden r' (0, qA v.2.1 1 (qC b.2.1), qC 0)) :: _
        rw [den_i r' 0 _ _ (by omega), qA_ev, qC_ev, e5, Int.one_mul]
/-- what the stack's values are is the same under r and r' -/
theorem den_eq {S : qS} {r r' : qW} {st : List qV} (h : st = S.2.1.map (qden r)) (h' : st = S.2.1.map (qden r')) {v : qSV} (hv : v ∈ S.2.1) : qden r v = qden r' v := by
  rw [h] at h'
  exact List.map_inj_left.mp h' v hv
noncomputable def znl (v : qSV) : Bool := qB (Nat.beq (ztag v) 1) false true
theorem znl_t {v : qSV} (r : qW) (h : znl v = true) : (qden r v).1 ≠ 1 := by
  rw [ztag_den]
  intro e
  unfold znl at h
  rw [e] at h
  cases h
theorem zl_t {v : qSV} (r : qW) (h : Nat.beq (ztag v) 1 = true) : (qden r v).1 = 1 := (ztag_den r v).trans (Nat.eq_of_beq_eq_true h)
-- the stack
noncomputable def x6 (w : Bool) : qS → List Nat → qKk → qR := fun S str k => zk S.2.1 (fun v st => qB (qB w (Nat.beq (ztag v) 1) (znl v)) (k (S_stk S st) str) none)
noncomputable def x7 (w : Bool) : qS → List Nat → qKk → qR := fun S str k => zk S.2.1 (fun v st => qB (qB w (Nat.beq (ztag v) 1) (znl v)) (k (S_stk S (v :: v :: st)) str) none)
noncomputable def x8 : qS → List Nat → qKk → qR := fun S str k => zk S.2.1 (fun v st => zk st (fun w st => qB (znl v) (qB (znl w) (k (S_stk S (v :: w :: v :: st)) str) none) none))
noncomputable def x9 : qS → List Nat → qKk → qR := fun S str k => zk S.2.1 (fun v st => zk st (fun w st => zk st (fun u st => qB (znl v) (qB (znl w) (qB (znl u) (k (S_stk S (v :: w :: u :: v :: st)) str) none) none) none)))
noncomputable def x11 : qS → List Nat → qKk → qR := fun S str k => zk S.2.1 (fun v st => zk st (fun w st => qB (znl v) (qB (znl w) (k (S_stk S (v :: w :: v :: w :: st)) str) none) none))
noncomputable def x12 : qS → List Nat → qKk → qR := fun S str k => zk S.2.1 (fun v st => zk st (fun w st => qB (Nat.beq (ztag v) 1) (qB (znl w) (k (S_stk S (v :: w :: v :: st)) str) none) none))
theorem qB_y {α : Type} {b : Bool} {x : Option α} {o : α} (h : qB b x none = some o) : b = true ∧ x = some o := by
  cases b
  · cases h
  · exact ⟨rfl, h⟩
theorem x6_ok (g : qG) (md : List Nat) (se : qSg) (b : Int × Int × Int) : qStp γ g md se (6, b) (x6 false) := by
  intro S str k o P h hk r a ls st s hT hS
  obtain ⟨v, st', h1, h2⟩ := zk_some h
  obtain ⟨e, h3⟩ := qB_y h2
  refine ⟨qden r v, st'.map (qden r), by rw [hS.now.2.1, h1]; rfl, znl_t r e, hk _ _ _ h3 r a _ _ s hT (hS.stk _ fun r' e' => ?_)⟩
  have q := hS.now.2.1.symm.trans e'
  rw [h1, List.map_cons, List.map_cons] at q
  exact (List.cons.inj q).2
theorem x13_ok (g : qG) (md : List Nat) (se : qSg) (b : Int × Int × Int) : qStp γ g md se (13, b) (x6 true) := by
  intro S str k o P h hk r a ls st s hT hS
  obtain ⟨v, st', h1, h2⟩ := zk_some h
  obtain ⟨e, h3⟩ := qB_y h2
  refine ⟨qden r v, st'.map (qden r), by rw [hS.now.2.1, h1]; rfl, zl_t r e, hk _ _ _ h3 r a _ _ s hT (hS.stk _ fun r' e' => ?_)⟩
  have q := hS.now.2.1.symm.trans e'
  rw [h1, List.map_cons, List.map_cons] at q
  exact (List.cons.inj q).2
theorem x7_ok (g : qG) (md : List Nat) (se : qSg) (b : Int × Int × Int) : qStp γ g md se (7, b) (x7 false) := by
  intro S str k o P h hk r a ls st s hT hS
  obtain ⟨v, st', h1, h2⟩ := zk_some h
  obtain ⟨e, h3⟩ := qB_y h2
  refine ⟨qden r v, st'.map (qden r), by rw [hS.now.2.1, h1]; rfl, znl_t r e, hk _ _ _ h3 r a _ _ s hT (hS.stk _ fun r' e' => ?_)⟩
  have q := hS.now.2.1.symm.trans e'
  rw [h1, List.map_cons, List.map_cons] at q
  rw [List.map_cons, List.map_cons, (List.cons.inj q).2, (List.cons.inj q).1]
theorem x10_ok (g : qG) (md : List Nat) (se : qSg) (b : Int × Int × Int) : qStp γ g md se (10, b) (x7 true) := by
  intro S str k o P h hk r a ls st s hT hS
  obtain ⟨v, st', h1, h2⟩ := zk_some h
  obtain ⟨e, h3⟩ := qB_y h2
  refine ⟨qden r v, st'.map (qden r), by rw [hS.now.2.1, h1]; rfl, zl_t r e, hk _ _ _ h3 r a _ _ s hT (hS.stk _ fun r' e' => ?_)⟩
  have q := hS.now.2.1.symm.trans e'
  rw [h1, List.map_cons, List.map_cons] at q
  rw [List.map_cons, List.map_cons, (List.cons.inj q).2, (List.cons.inj q).1]
theorem two_eq {r r' : qW} {v w : qSV} {l : List qSV} (h : (v :: w :: l).map (qden r) = (v :: w :: l).map (qden r')) : qden r v = qden r' v ∧ qden r w = qden r' w ∧ l.map (qden r) = l.map (qden r') := by
  simp only [List.map_cons] at h
  exact ⟨(List.cons.inj h).1, (List.cons.inj (List.cons.inj h).2).1, (List.cons.inj (List.cons.inj h).2).2⟩
theorem x8_ok (g : qG) (md : List Nat) (se : qSg) (b : Int × Int × Int) : qStp γ g md se (8, b) x8 := by
  intro S str k o P h hk r a ls st s hT hS
  obtain ⟨v, st1, h1, h2⟩ := zk_some h
  obtain ⟨w, st2, h3, h4⟩ := zk_some h2
  obtain ⟨e1, h5⟩ := qB_y h4
  obtain ⟨e2, h6⟩ := qB_y h5
  subst h3
  refine ⟨qden r v, qden r w, st2.map (qden r), by rw [hS.now.2.1, h1]; rfl, znl_t r e1, znl_t r e2, hk _ _ _ h6 r a _ _ s hT (hS.stk _ fun r' e' => ?_)⟩
  have q := hS.now.2.1.symm.trans e'
  rw [h1] at q
  obtain ⟨q1, q2, q3⟩ := two_eq q
  simp only [List.map_cons, q1, q2, q3]
theorem x11_ok (g : qG) (md : List Nat) (se : qSg) (b : Int × Int × Int) : qStp γ g md se (11, b) x11 := by
  intro S str k o P h hk r a ls st s hT hS
  obtain ⟨v, st1, h1, h2⟩ := zk_some h
  obtain ⟨w, st2, h3, h4⟩ := zk_some h2
  obtain ⟨e1, h5⟩ := qB_y h4
  obtain ⟨e2, h6⟩ := qB_y h5
  subst h3
  refine ⟨qden r v, qden r w, st2.map (qden r), by rw [hS.now.2.1, h1]; rfl, znl_t r e1, znl_t r e2, hk _ _ _ h6 r a _ _ s hT (hS.stk _ fun r' e' => ?_)⟩
  have q := hS.now.2.1.symm.trans e'
  rw [h1] at q
  obtain ⟨q1, q2, q3⟩ := two_eq q
  simp only [List.map_cons, q1, q2, q3]
theorem x12_ok (g : qG) (md : List Nat) (se : qSg) (b : Int × Int × Int) : qStp γ g md se (12, b) x12 := by
  intro S str k o P h hk r a ls st s hT hS
  obtain ⟨v, st1, h1, h2⟩ := zk_some h
  obtain ⟨w, st2, h3, h4⟩ := zk_some h2
  obtain ⟨e1, h5⟩ := qB_y h4
  obtain ⟨e2, h6⟩ := qB_y h5
  subst h3
  refine ⟨qden r v, qden r w, st2.map (qden r), by rw [hS.now.2.1, h1]; rfl, zl_t r e1, znl_t r e2, hk _ _ _ h6 r a _ _ s hT (hS.stk _ fun r' e' => ?_)⟩
  have q := hS.now.2.1.symm.trans e'
  rw [h1] at q
  obtain ⟨q1, q2, q3⟩ := two_eq q
  simp only [List.map_cons, q1, q2, q3]
theorem x9_ok (g : qG) (md : List Nat) (se : qSg) (b : Int × Int × Int) : qStp γ g md se (9, b) x9 := by
  intro S str k o P h hk r a ls st s hT hS
  obtain ⟨v, st1, h1, h2⟩ := zk_some h
  obtain ⟨w, st2, h3, h4⟩ := zk_some h2
  obtain ⟨u, st3, h7, h8⟩ := zk_some h4
  obtain ⟨e1, h5⟩ := qB_y h8
  obtain ⟨e2, h6⟩ := qB_y h5
  obtain ⟨e3, h9⟩ := qB_y h6
  subst h3; subst h7
  refine ⟨qden r v, qden r w, qden r u, st3.map (qden r), by rw [hS.now.2.1, h1]; rfl, znl_t r e1, znl_t r e2, znl_t r e3, hk _ _ _ h9 r a _ _ s hT (hS.stk _ fun r' e' => ?_)⟩
  have q := hS.now.2.1.symm.trans e'
  rw [h1] at q
  obtain ⟨q1, q2, q3⟩ := two_eq q
  rw [List.map_cons, List.map_cons] at q3
  simp only [List.map_cons, q1, q2, (List.cons.inj q3).1, (List.cons.inj q3).2]
-- sums: the tag is d.2.1
noncomputable def x14 (t : Nat) (f : qL → qL → qL) : qS → List Nat → qKk → qR := fun S str k => zt t S.2.1 (fun y st => zt t st (fun x st => qF (f x y) (fun z => k (S_stk S ((t, z, qC 0) :: st)) str)))
theorem sum_ok {S : qS} {t : Nat} {f : qL → qL → qL} {h0 : Int → Int → Int} (ht : t ≠ 3) (hf : ∀ r x y, qe r (f x y) = h0 (qe r x) (qe r y)) {str : List Nat} {k : qKk} {o : List Nat} (h : x14 t f S str k = some o) {g : qG} {r : qW} {a : qX} {ls : qLS} {st : List qV} {s : qSg} (hS : Sat γ g S r a ls st s) :
    ∃ (p q : Int) (st' : List qV) (S' : qS), st = (t, q) :: (t, p) :: st' ∧ k S' str = some o ∧ Sat γ g S' r a ls ((t, h0 p q) :: st') s := by
  obtain ⟨y, st1, h1, h2⟩ := zt_some ht h
  obtain ⟨x, st2, h3, h4⟩ := zt_some ht h1
  rw [qF_eq] at h3
  refine ⟨qe r x, qe r y, st2.map (qden r), _, by rw [hS.now.2.1, h2, h4], h3, hS.stk _ fun r' e' => ?_⟩
  have q := hS.now.2.1.symm.trans e'
  rw [h2, h2, h4, h4] at q
  obtain ⟨q1, q2⟩ := List.cons.inj q
  obtain ⟨q3, q4⟩ := List.cons.inj q2
  rw [List.map_cons, den_i r' t _ _ ht, hf, q4, (Prod.mk.inj q1).2, (Prod.mk.inj q3).2]
theorem x14_ok (g : qG) (md : List Nat) (se : qSg) (t : Int) (b : Int × Int) (ht : t.toNat ≠ 3) : qStp γ g md se (14, t, b) (x14 t.toNat (fun x y => qA x 1 y)) := by
  intro S str k o P h hk r a ls st s hT hS
  obtain ⟨p, q, st', S', h1, h2, h3⟩ := sum_ok (h0 := fun x y => x + y) ht (fun r x y => by rw [qA_ev, Int.one_mul]) h hS
  exact ⟨p, q, st', h1, hk _ _ _ h2 r a _ _ s hT h3⟩
theorem x15_ok (g : qG) (md : List Nat) (se : qSg) (t : Int) (b : Int × Int) (ht : t.toNat ≠ 3) : qStp γ g md se (15, t, b) (x14 t.toNat (fun x y => qA x (-1) y)) := by
  intro S str k o P h hk r a ls st s hT hS
  obtain ⟨p, q, st', S', h1, h2, h3⟩ := sum_ok (h0 := fun x y => x - y) ht (fun r x y => by rw [qA_ev]; omega) h hS
  exact ⟨p, q, st', h1, hk _ _ _ h2 r a _ _ s hT h3⟩
noncomputable def x17 (t : Nat) : qS → List Nat → qKk → qR := fun S str k => zt t S.2.1 (fun x st => qF (qA (qC 0) (-1) x) (fun z => k (S_stk S ((t, z, qC 0) :: st)) str))
theorem x17_ok (g : qG) (md : List Nat) (se : qSg) (t : Int) (b : Int × Int) (ht : t.toNat ≠ 3) : qStp γ g md se (17, t, b) (x17 t.toNat) := by
  intro S str k o P h hk r a ls st s hT hS
  obtain ⟨x, st2, h3, h4⟩ := zt_some ht h
  rw [qF_eq] at h3
  refine ⟨qe r x, st2.map (qden r), by rw [hS.now.2.1, h4], hk _ _ _ h3 r a _ _ s hT (hS.stk _ fun r' e' => ?_)⟩
  have q := hS.now.2.1.symm.trans e'
  rw [h4, h4] at q
  obtain ⟨q3, q4⟩ := List.cons.inj q
  rw [List.map_cons, den_i r' t.toNat _ _ ht, qA_ev, qC_ev, q4, (Prod.mk.inj q3).2]
  show (t.toNat, - qe r' x) :: _ = _
  congr 2; omega
end
