/-! STEPS: A PLACE READ, A PLACE WRITTEN -/
section
variable {γ : qGh}
noncomputable def zgl {β : Type} (K : qK) (z lo hi : Int) (f : qL) (str : List Nat) (k : List Nat → Option β) : Option β := zg K (qA f (-1) (qC lo)) str (fun str => zg K (qA (qC hi) (-1) f) str k)
theorem zgl_some {β : Type} {K : qK} {z lo hi : Int} {f : qL} {str : List Nat} {k : List Nat → Option β} {o : β} (h : zgl K z lo hi f str k = some o) : (∃ s', k s' = some o) ∧ ∀ (g : qG) (r : qW) (a : qX), KnC g K r a → lo ≤ qe r f ∧ qe r f ≤ hi := by
  obtain ⟨⟨s1, h1⟩, p1⟩ := zg_some h
  obtain ⟨h2, p2⟩ := zg_some h1
  refine ⟨h2, fun g r a C => ?_⟩
  have q1 := p1 g r a C
  have q2 := p2 g r a C
  rw [qA_ev, qC_ev] at q1 q2
  exact ⟨by omega, by omega⟩
/-- the bounds of a place in column i, or in one of the columns l to h -/
noncomputable def zcw {β : Type} (K : qK) (x : qBI) (i : qL) (comb : List (Int × Int) → Int × Int → Int × Int) (str : List Nat) (k : Int × Int → List Nat → Option β) : Option β := Option.rec (motive := fun _ => Option β)
  (zp str (fun l str => zp str (fun h str => zgl K 0 (Int.ofNat l) (Int.ofNat h) i str (fun str => qB (qIz (Int.ofNat x.2.2.2.2.length - x.2.2.1)) (List.rec (motive := fun _ => Option β) none (fun c t _ => k (comb t c) str) (List.take (h + 1 - l) (List.drop l x.2.2.2.2))) none))))
  (fun c => k c str) (zcol x i)
theorem zcw_some {β : Type} {K : qK} {x : qBI} {i : qL} {comb : List (Int × Int) → Int × Int → Int × Int} {str : List Nat} {k : Int × Int → List Nat → Option β} {o : β} (h : zcw K x i comb str k = some o) : ∃ c s', k c s' = some o ∧ ∀ (g : qG) (r : qW) (a : qX), KnC g K r a → ∀ w, 0 ≤ qe r i → qe r i < x.2.2.1 → ∃ c', colAt x.2.2.2.2 (x.2.2.1 * w + qe r i) = some c' ∧ (c = c' ∨ ∃ d t, c = comb t d ∧ c' ∈ d :: t) := by
  unfold zcw at h
  cases q : zcol x i with
  | some c =>
    rw [q] at h
    exact ⟨c, str, h, fun g r a C w h0 h1 => ⟨c, zcol_ok q r w h0 h1, Or.inl rfl⟩⟩
  | none =>
    rw [q] at h
    obtain ⟨l, s1, h1⟩ := zp_some h
    obtain ⟨m, s2, h2⟩ := zp_some h1
    obtain ⟨⟨s3, h3⟩, p1⟩ := zgl_some h2
    obtain ⟨hl, h4⟩ := qB_y h3
    have hl := qIz_t hl
    cases e : List.take (m + 1 - l) (List.drop l x.2.2.2.2) with
    | nil => rw [e] at h4; cases h4
    | cons d t =>
      rw [e] at h4
      refine ⟨comb t d, s3, h4, fun g r a C w h0 h1 => ?_⟩
      obtain ⟨b0, b1⟩ := p1 g r a C
      have hlen : (x.2.2.2.2.length : Int) = x.2.2.1 := by have := hl; simp only [Int.ofNat_eq_natCast] at this; omega
      have hn : (qe r i).toNat < x.2.2.2.2.length := by omega
      have hi : ((x.2.2.1 * w + qe r i) % (x.2.2.2.2.length : Int)).toNat = (qe r i).toNat := by
        rw [hlen, Int.add_comm, Int.add_mul_emod_self_left, Int.emod_eq_of_lt h0 h1]
      refine ⟨x.2.2.2.2[(qe r i).toNat], ?_, Or.inr ⟨d, t, rfl, ?_⟩⟩
      · unfold colAt
        rw [hi]
        exact List.getElem?_eq_getElem hn
      · rw [← e]
        simp only [Int.ofNat_eq_natCast] at b0 b1
        have q1 : (List.take (m + 1 - l) (List.drop l x.2.2.2.2))[(qe r i).toNat - l]? = some x.2.2.2.2[(qe r i).toNat] := by
          rw [List.getElem?_take, if_pos (by omega), List.getElem?_drop, show l + ((qe r i).toNat - l) = (qe r i).toNat by omega]
          exact List.getElem?_eq_getElem hn
        exact List.mem_of_getElem? q1
/-- a place read: by a new unknown alone, by a new unknown that is noted, by what is known -/
noncomputable def zrd (b : Nat) (x : qBI) (e i : qL) (st : List qSV) (S : qS) (str : List Nat) (k : qKk) : qR := zp str (fun fl str => Nat.rec (motive := fun _ => qR)
    (zcw S.2.2.2 x i zhull str (fun c str => k (S_mk S ((x.2.2.2.1, qV1 S.2.2.2.1, qC 0) :: st) S.2.2.1 (kVar S.2.2.2 c.1 c.2)) str))
    (fun fl _ => Nat.rec (motive := fun _ => qR)
      (zcw S.2.2.2 x i zhull str (fun c str => zver b S (fun S v => k (S_mk S ((x.2.2.2.1, qV1 S.2.2.2.1, qC 0) :: st) S.2.2.1 (kRead (kVar S.2.2.2 c.1 c.2) v e (qV1 S.2.2.2.1))) str)))
      (fun _ _ => Option.rec none (fun v => zp str (fun n str => zres S.2.2.2 e n v str (fun z str => k (S_stk S ((x.2.2.2.1, z, qC 0) :: st)) str))) (qFi (β := Int) S.2.2.1.2 b)) fl) fl)
noncomputable def x28 (g : qG) (d : qD) : qS → List Nat → qKk → qR := fun S str k => zt 0 S.2.1 (fun i st => zt 2 st (fun f st => Option.rec none (fun x => zgl S.2.2.2 0 0 (x.2.2.1 - 1) i str (fun str => zrow S.2.2.2 x f str (fun w str => qF (qA i x.2.2.1 w) (fun e => zrd d.2.1.toNat x e i st S str k)))) (qNth g d.2.1.toNat)))
theorem Sat.tail2 {g : qG} {S : qS} {r : qW} {a : qX} {ls : qLS} {st : List qV} {s : qSg} (hS : Sat γ g S r a ls st s) {i f : qL} {st0 st1 : List qSV} (h2 : ∀ r, S.2.1.map (qden r) = (0, qe r i) :: st0.map (qden r)) (h4 : ∀ r, st0.map (qden r) = (2, qe r f) :: st1.map (qden r)) {r' : qW} (e' : st = S.2.1.map (qden r')) : qe r i = qe r' i ∧ qe r f = qe r' f ∧ st1.map (qden r) = st1.map (qden r') := by
  have q := hS.now.2.1.symm.trans e'
  rw [h2, h2, h4, h4] at q
  obtain ⟨u1, u2⟩ := List.cons.inj q
  obtain ⟨u3, u4⟩ := List.cons.inj u2
  exact ⟨(Prod.mk.inj u1).2, (Prod.mk.inj u3).2, u4⟩
theorem x28_ok (g : qG) (hg : gTags g) (md : List Nat) (se : qSg) (b : Int × Int × Int) : qStp γ g md se (28, b) (x28 g (28, b)) := by
  intro S str k o P h hk r a ls st s hT hS
  obtain ⟨i, st0, h1, h2⟩ := zt_some (by decide) h
  obtain ⟨f, st1, h3, h4⟩ := zt_some (by decide) h1
  cases e : qNth g b.1.toNat with
  | none => rw [show ((28, b) : qD).2.1 = b.1 from rfl, e] at h3; cases h3
  | some x =>
    rw [show ((28, b) : qD).2.1 = b.1 from rfl, e] at h3
    have hx : g[b.1.toNat]? = some x := by rw [← qNth_get]; exact e
    have ht3 : x.2.2.2.1 ≠ 3 := by rcases hg _ _ hx with q | q <;> rw [q] <;> decide
    obtain ⟨⟨s1, h5⟩, p1⟩ := zgl_some h3
    obtain ⟨w, s2, h6, p2, p3⟩ := zrow_some h5
    rw [qF_eq] at h6
    obtain ⟨i0, i1⟩ := p1 g r a hS.now.2.2.2.2
    obtain ⟨w0, w1⟩ := p3 g r a hS.now.2.2.2.2
    have hin : 0 ≤ x.2.2.1 * qe r w + qe r i ∧ x.2.2.1 * qe r w + qe r i < x.2.1 * x.2.2.1 := by
      have m1 : 0 ≤ x.2.2.1 * qe r w := Int.mul_nonneg (by omega) w0
      have m2 : x.2.2.1 * (qe r w + 1) ≤ x.2.2.1 * x.2.1 := Int.mul_le_mul_of_nonneg_left (by omega) (by omega)
      rw [Int.mul_add, Int.mul_one] at m2
      rw [Int.mul_comm x.2.1]
      exact ⟨by omega, by omega⟩
    have hst : st = (0, qe r i) :: (2, x.1 + 2 * qe r w) :: st1.map (qden r) := by rw [hS.now.2.1, h2, h4, p2]
    refine ⟨x, qe r i, qe r w, st1.map (qden r), hst, hx, w0, w1, i0, by omega, ?_⟩
    obtain ⟨fl, s3, h7⟩ := zp_some h6
    have hnew : ∀ (S1 : qS) (a1 : qX) (c : Int × Int), Sat γ g S1 r a1 ls st s → S1.2.1 = S.2.1 → c.1 ≤ s b.1.toNat (x.2.2.1 * qe r w + qe r i) ∧ s b.1.toNat (x.2.2.1 * qe r w + qe r i) ≤ c.2 →
        Sat γ g (S_mk S1 ((x.2.2.2.1, qV1 S1.2.2.2.1, qC 0) :: st1) S1.2.2.1 (kVar S1.2.2.2 c.1 c.2)) (wUp r S1.2.2.2.1 (s b.1.toNat (x.2.2.1 * qe r w + qe r i))) a1 ls ((x.2.2.2.1, s b.1.toNat (x.2.2.1 * qe r w + qe r i)) :: st1.map (qden r)) s := by
      intro S1 a1 c hS1 he hb
      have hV := hS1.var _ c.1 c.2 hb.1 hb.2
      refine ⟨hV.1, ?_⟩
      intro r' a' hg'
      have C := hV.2 r' a' hg'
      have hz : r' S1.2.2.2.1 = s b.1.toNat (x.2.2.1 * qe r w + qe r i) := by rw [hg'.1 _ (Nat.lt_succ_self _), wUp_same]
      refine ⟨C.1, ?_, C.2.2⟩
      show (x.2.2.2.1, _) :: st1.map (qden r) = qden r' (x.2.2.2.1, qV1 S1.2.2.2.1, qC 0) :: st1.map (qden r')
      rw [den_i r' _ _ _ ht3, qV1_ev, hz]
      have e' : st = S.2.1.map (qden r') := by rw [← he]; exact C.2.1
      rw [(hS.tail2 h2 h4 e').2.2]
    have hbd : ∀ (c : Int × Int), (∀ (g : qG) (r : qW) (a : qX), KnC g S.2.2.2 r a → ∀ w, 0 ≤ qe r i → qe r i < x.2.2.1 → ∃ c', colAt x.2.2.2.2 (x.2.2.1 * w + qe r i) = some c' ∧ (c = c' ∨ ∃ d t, c = zhull t d ∧ c' ∈ d :: t)) → c.1 ≤ s b.1.toNat (x.2.2.1 * qe r w + qe r i) ∧ s b.1.toNat (x.2.2.1 * qe r w + qe r i) ≤ c.2 := by
      intro c hc
      obtain ⟨c', c1, c2, c3⟩ := hT.1 _ _ hx _ hin.1 hin.2
      obtain ⟨c'', d1, d2⟩ := hc g r a hS.now.2.2.2.2 (qe r w) i0 (by omega)
      rw [c1] at d1
      cases d1
      rcases d2 with rfl | ⟨d, t, rfl, hm⟩
      · exact ⟨c2, c3⟩
      · obtain ⟨u1, u2, u3⟩ := zhull_ok t d
        rcases List.mem_cons.mp hm with rfl | hm
        · exact ⟨by omega, by omega⟩
        · have := u3 _ hm
          exact ⟨by omega, by omega⟩
    cases fl with
    | zero =>
      have h8 : zcw S.2.2.2 x i zhull s3 (fun c str => k (S_mk S ((x.2.2.2.1, qV1 S.2.2.2.1, qC 0) :: st1) S.2.2.1 (kVar S.2.2.2 c.1 c.2)) str) = some o := h7
      obtain ⟨c, s4, h9, hc⟩ := zcw_some h8
      exact hk _ _ _ h9 (wUp r S.2.2.2.1 (s b.1.toNat (x.2.2.1 * qe r w + qe r i))) a _ _ s hT (hnew S a c hS rfl (hbd c hc))
    | succ fl =>
      cases fl with
      | zero =>
        have h8 : zcw S.2.2.2 x i zhull s3 (fun c str => zver b.1.toNat S (fun S v => k (S_mk S ((x.2.2.2.1, qV1 S.2.2.2.1, qC 0) :: st1) S.2.2.1 (kRead (kVar S.2.2.2 c.1 c.2) v (qA i x.2.2.1 w) (qV1 S.2.2.2.1))) str)) = some o := h7
        obtain ⟨c, s4, h8, hc⟩ := zcw_some h8
        obtain ⟨S1, v, a1, h9, hS1, hv, -, hstk, -, -⟩ := zver_some h8 hT.1 hS
        have hN := hnew S1 a1 c hS1 hstk (hbd c hc)
        refine hk _ _ _ h9 (wUp r S1.2.2.2.1 (s b.1.toNat (x.2.2.1 * qe r w + qe r i))) a1 _ _ s hT (hN.read v (qA i x.2.2.1 w) (qV1 S1.2.2.2.1) ?_)
        intro r' a' hg' C
        have hz : r' S1.2.2.2.1 = s b.1.toNat (x.2.2.1 * qe r w + qe r i) := by rw [hg'.1 _ (Nat.lt_succ_self _), wUp_same]
        have C1 := hS1.2 r' a' ⟨fun v hv => by
          rw [hg'.1 v (Nat.lt_succ_of_lt hv)]
          exact if_neg (Nat.ne_of_lt hv), hg'.2⟩
        have e' : st = S.2.1.map (qden r') := by rw [← hstk]; exact C1.2.1
        obtain ⟨t1, t2, t3⟩ := hS.tail2 h2 h4 e'
        have u1 := p2 r
        have u2 := p2 r'
        have u3 : qe r w = qe r' w := by omega
        have u4 := C1.2.2.2.1 _ hv (x.2.2.1 * qe r w + qe r i)
        rw [qV1_ev, hz, u4, qA_ev, ← t1, ← u3, Int.add_comm]
      | succ fl =>
        have h8 : Option.rec (motive := fun _ => qR) none (fun v : Nat => zp s3 (fun n str => zres S.2.2.2 (qA i x.2.2.1 w) n v str (fun z str => k (S_stk S ((x.2.2.2.1, z, qC 0) :: st1)) str))) (qFi (β := Int) S.2.2.1.2 b.1.toNat) = some o := h7
        cases e3 : qFi (β := Int) S.2.2.1.2 b.1.toNat with
        | none => rw [e3] at h8; cases h8
        | some v =>
          rw [e3] at h8
          obtain ⟨n, s4, h9⟩ := zp_some h8
          obtain ⟨z, s5, h10, h11⟩ := zres_some n v s4 _ h9
          refine hk _ _ _ h10 r a _ _ s hT ?_
          refine ⟨hS.1, ?_⟩
          intro r' a' hg'
          have C := hS.2 r' a' hg'
          refine ⟨C.1, ?_, C.2.2⟩
          obtain ⟨t1, t2, t3⟩ := hS.tail2 h2 h4 C.2.1
          have u1 := p2 r
          have u2 := p2 r'
          have u3 : qe r w = qe r' w := by omega
          have u4 := C.2.2.2.1 _ (qFi_mem _ e3) (x.2.2.1 * qe r w + qe r i)
          have u5 := h11 g r' a' C.2.2.2.2
          rw [qA_ev, ← t1, ← u3, Int.add_comm] at u5
          show (x.2.2.2.1, s b.1.toNat (x.2.2.1 * qe r w + qe r i)) :: st1.map (qden r) = qden r' (x.2.2.2.1, z, qC 0) :: st1.map (qden r')
          rw [den_i r' _ _ _ ht3, u4, u5, t3]
/-- a place of block b written: what was known of b is forgotten, or kept -/
noncomputable def zwr (b : Nat) (e z : qL) (st : List qSV) (S : qS) (str : List Nat) (k : qKk) : qR := zp str (fun fl str => Nat.rec (motive := fun _ => qR)
    (k (S_mk S st (zdel b S.2.2.1.1, zdel b S.2.2.1.2) S.2.2.2) str)
    (fun _ _ => zver b S (fun S v => k (S_mk S st (zdel b S.2.2.1.1, (b, S.2.2.2.2.2.2.1) :: zdel b S.2.2.1.2) (kDef (kVer S.2.2.2 b) S.2.2.2.2.2.2.1 v e z)) str)) fl)
noncomputable def x29 (g : qG) (md : List Nat) (d : qD) : qS → List Nat → qKk → qR := fun S str k => Option.rec none (fun x => zt x.2.2.2.1 S.2.1 (fun z st => zt 0 st (fun i st => zt 2 st (fun f st => qB (zmem d.2.1.toNat md) (zgl S.2.2.2 0 0 (x.2.2.1 - 1) i str (fun str => zrow S.2.2.2 x f str (fun w str => qF (qA i x.2.2.1 w) (fun e =>
    zcw S.2.2.2 x i zmeet str (fun c str => zgl S.2.2.2 0 c.1 c.2 z str (fun str => zwr d.2.1.toNat e z st S str k)))))) none)))) (qNth g d.2.1.toNat)
theorem x29_ok (g : qG) (hg : gTags g) (md : List Nat) (se : qSg) (b : Int × Int × Int) : qStp γ g md se (29, b) (x29 g md (29, b)) := by
  intro S str k o P h hk r a ls st s hT hS
  unfold x29 at h
  cases e : qNth g b.1.toNat with
  | none => rw [show ((29, b) : qD).2.1 = b.1 from rfl, e] at h; cases h
  | some x =>
    rw [show ((29, b) : qD).2.1 = b.1 from rfl, e] at h
    have hx : g[b.1.toNat]? = some x := by rw [← qNth_get]; exact e
    have ht3 : x.2.2.2.1 ≠ 3 := by rcases hg _ _ hx with q | q <;> rw [q] <;> decide
    obtain ⟨z, st0, a1, a2⟩ := zt_some ht3 h
    obtain ⟨i, st1, a3, a4⟩ := zt_some (by decide) a1
    obtain ⟨f, st2, a5, a6⟩ := zt_some (by decide) a3
    obtain ⟨hm, a7⟩ := qB_y a5
    obtain ⟨⟨s1, a8⟩, p1⟩ := zgl_some a7
    obtain ⟨w, s2, a9, p2, p3⟩ := zrow_some a8
    rw [qF_eq] at a9
    obtain ⟨c, s25, a9, hcw⟩ := zcw_some a9
    · obtain ⟨⟨s3, a10⟩, p4⟩ := zgl_some a9
      obtain ⟨i0, i1⟩ := p1 g r a hS.now.2.2.2.2
      obtain ⟨w0, w1⟩ := p3 g r a hS.now.2.2.2.2
      have hz := p4 g r a hS.now.2.2.2.2
      obtain ⟨c', hc, hcc⟩ := hcw g r a hS.now.2.2.2.2 (qe r w) i0 (by omega)
      have hz : inR c'.1 c'.2 (qe r z) := by
        rcases hcc with rfl | ⟨d, t, rfl, hm⟩
        · exact hz
        · obtain ⟨u1, u2, u3⟩ := zmeet_ok t d
          have h1 := hz.1
          have h2 := hz.2
          rcases List.mem_cons.mp hm with rfl | hm
          · exact ⟨by omega, by omega⟩
          · have := u3 _ hm
            exact ⟨by omega, by omega⟩
      have hst : st = (x.2.2.2.1, qe r z) :: (0, qe r i) :: (2, x.1 + 2 * qe r w) :: st2.map (qden r) := by rw [hS.now.2.1, a2, a4, a6, p2]
      refine ⟨x, qe r i, qe r w, qe r z, c', st2.map (qden r), hst, hx, w0, w1, i0, by omega, hc, hz, ?_⟩
      have hT' := hT.up hx (zmem_t _ hm) hc hz
      have htl : ∀ r', st = S.2.1.map (qden r') → qe r z = qe r' z ∧ qe r i = qe r' i ∧ qe r w = qe r' w ∧ st2.map (qden r) = st2.map (qden r') := by
        intro r' e'
        have q := hS.now.2.1.symm.trans e'
        rw [a2, a2, a4, a4, a6, a6] at q
        obtain ⟨u1, u2⟩ := List.cons.inj q
        obtain ⟨u3, u4⟩ := List.cons.inj u2
        obtain ⟨u5, u6⟩ := List.cons.inj u4
        have v5 := (Prod.mk.inj u5).2
        rw [p2, p2] at v5
        exact ⟨(Prod.mk.inj u1).2, (Prod.mk.inj u3).2, by omega, u6⟩
      obtain ⟨fl, s4, a11⟩ := zp_some a10
      cases fl with
      | zero =>
        refine hk _ _ _ a11 r a _ _ _ hT' (hS.to S.1 st2 _ fun r' a' C => ?_)
        obtain ⟨t1, t2, t3, t4⟩ := htl r' C.2.1
        refine ⟨C.1, t4, ?_, ?_⟩
        · intro y hy
          obtain ⟨y1, y2⟩ := zdel_mem _ hy
          unfold qUp
          rw [if_neg (fun z => y2 z.1)]
          exact C.2.2.1 y y1
        · intro y hy j
          obtain ⟨y1, y2⟩ := zdel_mem _ hy
          unfold qUp
          rw [if_neg (fun z => y2 z.1)]
          exact C.2.2.2.1 y y1 j
      | succ fl =>
        have a12 : zver b.1.toNat S (fun S v => k (S_mk S st2 (zdel b.1.toNat S.2.2.1.1, (b.1.toNat, S.2.2.2.2.2.2.1) :: zdel b.1.toNat S.2.2.1.2) (kDef (kVer S.2.2.2 b.1.toNat) S.2.2.2.2.2.2.1 v (qA i x.2.2.1 w) z)) s4) = some o := a11
        obtain ⟨S1, v, a1', h9, hS1, hv, hloc, hstk, hsc, hnv⟩ := zver_some a12 hT.1 hS
        have hto := hS1.to S1.1 st2 (zdel b.1.toNat S1.2.2.1.1, zdel b.1.toNat S1.2.2.1.2) (ls' := ls) (st' := st2.map (qden r)) (s' := qUp s b.1.toNat (x.2.2.1 * qe r w + qe r i) (qe r z)) (fun r' a' C => by
          obtain ⟨t1, t2, t3, t4⟩ := htl r' (by rw [← hstk]; exact C.2.1)
          refine ⟨C.1, t4, ?_, ?_⟩
          · intro y hy
            obtain ⟨y1, y2⟩ := zdel_mem _ hy
            unfold qUp
            rw [if_neg (fun z => y2 z.1)]
            exact C.2.2.1 y y1
          · intro y hy j
            obtain ⟨y1, y2⟩ := zdel_mem _ hy
            unfold qUp
            rw [if_neg (fun z => y2 z.1)]
            exact C.2.2.2.1 y y1 j)
        have hver := hto.ver b.1.toNat (qUp s b.1.toNat (x.2.2.1 * qe r w + qe r i) (qe r z) b.1.toNat) ((b.1.toNat, S1.2.2.2.2.2.2.1) :: zdel b.1.toNat S1.2.2.1.2) (s' := qUp s b.1.toNat (x.2.2.1 * qe r w + qe r i) (qe r z)) (fun y hy => by
            rcases List.mem_cons.mp hy with rfl | hy
            · exact Or.inr rfl
            · exact Or.inl ⟨hy, rfl⟩) (fun _ _ => rfl) (fun _ => rfl) (fun y hy => hT'.1 _ y hy)
        refine hk _ _ _ h9 r (xUp a1' S1.2.2.2.2.2.2.1 (qUp s b.1.toNat (x.2.2.1 * qe r w + qe r i) (qe r z) b.1.toNat)) _ _ _ hT' (hver.defn S1.2.2.2.2.2.2.1 v (qA i x.2.2.1 w) z ?_)
        intro r' a' hg' C j
        have C1 := hS1.2 r' a' ⟨fun v hv => hg'.1 v hv, fun v hv => by
          rw [hg'.2 v (Nat.lt_succ_of_lt hv)]
          exact if_neg (Nat.ne_of_lt hv)⟩
        obtain ⟨t1, t2, t3, t4⟩ := htl r' (by rw [← hstk]; exact C1.2.1)
        have hf : a' S1.2.2.2.2.2.2.1 = qUp s b.1.toNat (x.2.2.1 * qe r w + qe r i) (qe r z) b.1.toNat := by
          rw [hg'.2 _ (Nat.lt_succ_self _)]; exact if_pos rfl
        rw [hf, qA_ev, ← t2, ← t3, ← t1, Int.add_comm, ← C1.2.2.2.1 _ hv j]
        unfold qUp
        by_cases e5 : j = qe r i + x.2.2.1 * qe r w
        · rw [if_pos ⟨rfl, e5⟩, if_pos e5]
        · rw [if_neg (fun z => e5 z.2), if_neg e5]
end
