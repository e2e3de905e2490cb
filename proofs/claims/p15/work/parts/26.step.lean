/-! STEPS OF ARRAYS -/
section
variable {γ : qGh}
noncomputable def zhf (z : Int) : Int := Int.rec (fun n => Int.ofNat (Nat.div n 2)) (fun n => Int.negSucc (Nat.div n 2)) z
noncomputable def zht (t : qT) : qT := List.rec (motive := fun _ => qT) [] (fun x _ ih => (x.1, zhf x.2) :: ih) t
/-- the row of block x that the reference f is of -/
noncomputable def zrow {β : Type} (K : qK) (x : qBI) (f : qL) (str : List Nat) (k : qL → List Nat → Option β) : Option β := qB (zc f x.1) (qB (qIlt 0 x.2.1) (k (qC 0) str) none)
  (qF (zhf (f.1 - x.1), zht f.2) (fun w => qB (zc (qA (qA f (-1) (qC x.1)) (-2) w) 0) (zg K w str (fun str => zg K (qA (qC (x.2.1 - 1)) (-1) w) str (fun str => k w str))) none))
theorem zrow_some {β : Type} {K : qK} {x : qBI} {f : qL} {str : List Nat} {k : qL → List Nat → Option β} {o : β} (h : zrow K x f str k = some o) : ∃ w str', k w str' = some o ∧ (∀ r, qe r f = x.1 + 2 * qe r w) ∧ ∀ (g : qG) (r : qW) (a : qX), KnC g K r a → 0 ≤ qe r w ∧ qe r w < x.2.1 := by
  have h' : qB (zc f x.1) (qB (qIlt 0 x.2.1) (k (qC 0) str) none) (qF (zhf (f.1 - x.1), zht f.2) (fun w => qB (zc (qA (qA f (-1) (qC x.1)) (-2) w) 0) (zg K w str (fun str => zg K (qA (qC (x.2.1 - 1)) (-1) w) str (fun str => k w str))) none)) = some o := h
  cases e : zc f x.1
  · rw [e, qB_f rfl, qF_eq] at h'
    obtain ⟨h1, h2⟩ := qB_y h'
    obtain ⟨⟨s1, h3⟩, p1⟩ := zg_some h2
    obtain ⟨⟨s2, h4⟩, p2⟩ := zg_some h3
    refine ⟨_, s2, h4, fun r => ?_, fun g r a C => ⟨p1 g r a C, ?_⟩⟩
    · have := zc_t h1 r
      rw [qA_ev, qA_ev, qC_ev] at this
      omega
    · have := p2 g r a C
      rw [qA_ev, qC_ev] at this
      omega
  · rw [e, qB_t rfl] at h'
    obtain ⟨h1, h2⟩ := qB_y h'
    refine ⟨_, str, h2, fun r => ?_, fun g r a C => ?_⟩
    · rw [qC_ev, zc_t e r]; omega
    · rw [qC_ev]; exact ⟨by omega, qIlt_t h1⟩
-- the length of a row of block d.2.1
noncomputable def x30 (g : qG) (d : qD) : qS → List Nat → qKk → qR := fun S str k => zt 2 S.2.1 (fun f st => Option.rec none (fun x => zrow S.2.2.2 x f str (fun _ str => k (S_stk S ((0, qC x.2.2.1, qC 0) :: st)) str)) (qNth g d.2.1.toNat))
theorem x30_ok (g : qG) (md : List Nat) (se : qSg) (b : Int × Int × Int) : qStp γ g md se (30, b) (x30 g (30, b)) := by
  intro S str k o P h hk r a ls st s hT hS
  obtain ⟨f, st1, h1, h2⟩ := zt_some (by decide) h
  cases e : qNth g b.1.toNat with
  | none => rw [show ((30, b) : qD).2.1 = b.1 from rfl, e] at h1; cases h1
  | some x =>
    rw [show ((30, b) : qD).2.1 = b.1 from rfl, e] at h1
    obtain ⟨w, s1, h3, p1, p2⟩ := zrow_some h1
    obtain ⟨q1, q2⟩ := p2 g r a hS.now.2.2.2.2
    refine ⟨x, qe r w, st1.map (qden r), by rw [hS.now.2.1, h2, p1], by rw [← qNth_get]; exact e, q1, q2, hk _ _ _ h3 r a _ _ s hT (hS.stk _ fun r' e' => ?_)⟩
    have q := hS.now.2.1.symm.trans e'
    rw [h2, h2] at q
    rw [List.map_cons, den_i r' _ _ _ (by decide), qC_ev, (List.cons.inj q).2]
-- a row of block d.2.2.1, out of the array d.2.1
noncomputable def x27 (g : qG) (d : qD) : qS → List Nat → qKk → qR := fun S str k => zt 0 S.2.1 (fun i st => zt 2 st (fun f st => qB (zc f d.2.1) (Option.rec none (fun x => zg S.2.2.2 i str (fun str => zg S.2.2.2 (qA (qC (x.2.1 - 1)) (-1) i) str (fun str => qF (qA (qC x.1) 2 i) (fun v => k (S_stk S ((2, v, qC 0) :: st)) str)))) (qNth g d.2.2.1.toNat)) none))
theorem x27_ok (g : qG) (md : List Nat) (se : qSg) (b : Int × Int × Int) : qStp γ g md se (27, b) (x27 g (27, b)) := by
  intro S str k o P h hk r a ls st s hT hS
  obtain ⟨i, st0, h1, h2⟩ := zt_some (by decide) h
  obtain ⟨f, st1, h3, h4⟩ := zt_some (by decide) h1
  obtain ⟨h5, h6⟩ := qB_y h3
  cases e : qNth g b.2.1.toNat with
  | none => rw [show ((27, b) : qD).2.2.1 = b.2.1 from rfl, e] at h6; cases h6
  | some x =>
    rw [show ((27, b) : qD).2.2.1 = b.2.1 from rfl, e] at h6
    obtain ⟨⟨s1, h7⟩, p1⟩ := zg_some h6
    obtain ⟨⟨s2, h8⟩, p2⟩ := zg_some h7
    rw [qF_eq] at h8
    have q1 := p1 g r a hS.now.2.2.2.2
    have q2 := p2 g r a hS.now.2.2.2.2
    rw [qA_ev, qC_ev] at q2
    refine ⟨x, qe r i, st1.map (qden r), by rw [hS.now.2.1, h2, h4, zc_t h5], by rw [← qNth_get]; exact e, q1, by omega, hk _ _ _ h8 r a _ _ s hT (hS.stk _ fun r' e' => ?_)⟩
    have q := hS.now.2.1.symm.trans e'
    rw [h2, h2, h4, h4] at q
    obtain ⟨u1, u2⟩ := List.cons.inj q
    rw [List.map_cons, den_i r' _ _ _ (by decide), qA_ev, qC_ev, (List.cons.inj u2).2, (Prod.mk.inj u1).2]
/-- the present version of block b -/
noncomputable def zver (b : Nat) (S : qS) (k : qS → Nat → qR) : qR := Option.rec (k (S.1, S.2.1, (S.2.2.1.1, (b, S.2.2.2.2.2.2.1) :: S.2.2.1.2), kVer S.2.2.2 b) S.2.2.2.2.2.2.1) (fun v => k S v) (qFi (β := Int) S.2.2.1.2 b)
theorem zver_some {b : Nat} {S : qS} {k : qS → Nat → qR} {o : List Nat} (h : zver b S k = some o) {g : qG} {r : qW} {a : qX} {ls : qLS} {st : List qV} {s : qSg} (hT : Typed g s) (hS : Sat γ g S r a ls st s) :
    ∃ S' v a', k S' v = some o ∧ Sat γ g S' r a' ls st s ∧ (b, v) ∈ S'.2.2.1.2 ∧ S'.1 = S.1 ∧ S'.2.1 = S.2.1 ∧ S'.2.2.1.1 = S.2.2.1.1 ∧ S'.2.2.2.1 = S.2.2.2.1 := by
  unfold zver at h
  cases e : qFi (β := Int) S.2.2.1.2 b with
  | some v =>
    rw [e] at h
    exact ⟨S, v, a, h, hS, qFi_mem _ e, rfl, rfl, rfl, rfl⟩
  | none =>
    rw [e] at h
    refine ⟨_, _, _, h, hS.ver b (s b) ((b, S.2.2.2.2.2.2.1) :: S.2.2.1.2) (fun x hx => ?_) (fun _ _ => rfl) (fun _ => rfl) (fun y hy => hT b y hy), List.mem_cons_self, rfl, rfl, rfl, rfl⟩
    rcases List.mem_cons.mp hx with rfl | hx
    · exact Or.inr rfl
    · exact Or.inl ⟨hx, rfl⟩
/-- what version v has at e: by places read and versions written, as the stream tells: first n versions are gone back -/
noncomputable def zres (K : qK) (e : qL) : Nat → Nat → List Nat → (qL → List Nat → qR) → qR := Nat.rec (motive := fun _ => Nat → List Nat → (qL → List Nat → qR) → qR)
  (fun v str k => zp str (fun m str => Nat.rec (motive := fun _ => qR)
    (zp str (fun i str => Option.rec none (fun x => qB (Nat.beq x.1 v) (zg K (qA e (-1) x.2.1) str (fun str => zg K (qA x.2.1 (-1) e) str (fun str => k x.2.2 str))) none) (qNth K.2.2.2.2.2.1 i)))
    (fun _ _ => Option.rec none (fun x => zg K (qA e (-1) x.2.1) str (fun str => zg K (qA x.2.1 (-1) e) str (fun str => k x.2.2 str))) (qFi (β := Int) K.2.2.2.2.2.2.1 v)) m))
  (fun _ ih v str k => Option.rec none (fun x => zp str (fun m str => Nat.rec (motive := fun _ => qR)
    (zg K (qA (qA e (-1) x.2.1) 1 (qC (-1))) str (fun str => ih x.1 str k))
    (fun _ _ => zg K (qA (qA x.2.1 (-1) e) 1 (qC (-1))) str (fun str => ih x.1 str k)) m)) (qFi (β := Int) K.2.2.2.2.2.2.1 v))
theorem zres_some {K : qK} {e : qL} {o : List Nat} : ∀ (n v : Nat) (str : List Nat) (k : qL → List Nat → qR), zres K e n v str k = some o → ∃ z str', k z str' = some o ∧ ∀ (g : qG) (r : qW) (a : qX), KnC g K r a → a v (qe r e) = qe r z
  | 0, v, str, k, h => by
    obtain ⟨m, s1, h1⟩ := zp_some (s := str) h
    cases m with
    | zero =>
      obtain ⟨i, s2, h2⟩ := zp_some (s := s1) h1
      cases e1 : qNth K.2.2.2.2.2.1 i with
      | none => rw [e1] at h2; cases h2
      | some x =>
        rw [e1] at h2
        obtain ⟨h3, h4⟩ := qB_y h2
        obtain ⟨⟨s3, h5⟩, p1⟩ := zg_some h4
        obtain ⟨⟨s4, h6⟩, p2⟩ := zg_some h5
        refine ⟨_, s4, h6, fun g r a C => ?_⟩
        have q1 := p1 g r a C
        have q2 := p2 g r a C
        rw [qA_ev] at q1 q2
        have q3 := C.2.2.1 x (qNth_mem _ _ e1)
        rw [Nat.eq_of_beq_eq_true h3] at q3
        rw [show qe r e = qe r x.2.1 by omega]
        exact q3
    | succ m =>
      have h2 : Option.rec (motive := fun _ => qR) none (fun x : Nat × (qL × qL) => zg K (qA e (-1) x.2.1) s1 (fun str => zg K (qA x.2.1 (-1) e) str (fun str => k x.2.2 str))) (qFi (β := Int) K.2.2.2.2.2.2.1 v) = some o := h1
      cases e1 : qFi (β := Int) K.2.2.2.2.2.2.1 v with
      | none => rw [e1] at h2; cases h2
      | some x =>
        rw [e1] at h2
        obtain ⟨⟨s3, h5⟩, p1⟩ := zg_some h2
        obtain ⟨⟨s4, h6⟩, p2⟩ := zg_some h5
        refine ⟨_, s4, h6, fun g r a C => ?_⟩
        have q1 := p1 g r a C
        have q2 := p2 g r a C
        rw [qA_ev] at q1 q2
        have q3 := C.2.2.2.1 _ (qFi_mem _ e1) (qe r e)
        rw [if_pos (show qe r e = qe r x.2.1 by omega)] at q3
        exact q3
  | n + 1, v, str, k, h => by
    have h0 : Option.rec (motive := fun _ => qR) none (fun x : Nat × (qL × qL) => zp str (fun m str => Nat.rec (motive := fun _ => qR) (zg K (qA (qA e (-1) x.2.1) 1 (qC (-1))) str (fun str => zres K e n x.1 str k)) (fun _ _ => zg K (qA (qA x.2.1 (-1) e) 1 (qC (-1))) str (fun str => zres K e n x.1 str k)) m)) (qFi (β := Int) K.2.2.2.2.2.2.1 v) = some o := h
    cases e1 : qFi (β := Int) K.2.2.2.2.2.2.1 v with
    | none => rw [e1] at h0; cases h0
    | some x =>
      rw [e1] at h0
      obtain ⟨m, s1, h1⟩ := zp_some h0
      cases m with
      | zero =>
        obtain ⟨⟨s2, h2⟩, p1⟩ := zg_some h1
        obtain ⟨z, s3, h3, h4⟩ := zres_some n x.1 s2 k h2
        refine ⟨z, s3, h3, fun g r a C => ?_⟩
        have q1 := p1 g r a C
        rw [qA_ev, qA_ev, qC_ev] at q1
        have q3 := C.2.2.2.1 _ (qFi_mem _ e1) (qe r e)
        rw [if_neg (show ¬ qe r e = qe r x.2.1 by omega)] at q3
        exact q3.trans (h4 g r a C)
      | succ m =>
        obtain ⟨⟨s2, h2⟩, p1⟩ := zg_some (show zg K (qA (qA x.2.1 (-1) e) 1 (qC (-1))) s1 (fun str => zres K e n x.1 str k) = some o from h1)
        obtain ⟨z, s3, h3, h4⟩ := zres_some n x.1 s2 k h2
        refine ⟨z, s3, h3, fun g r a C => ?_⟩
        have q1 := p1 g r a C
        rw [qA_ev, qA_ev, qC_ev] at q1
        have q3 := C.2.2.2.1 _ (qFi_mem _ e1) (qe r e)
        rw [if_neg (show ¬ qe r e = qe r x.2.1 by omega)] at q3
        exact q3.trans (h4 g r a C)
end
