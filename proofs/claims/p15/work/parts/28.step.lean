/-! STEPS: OTHER FUNCTIONS, BY RULES; CONVERSIONS; COMPARISON; CANONICAL NUMBERS -/
section
variable {γ : qGh}
/-- something more is noted -/
noncomputable def kNote (K : qK) (x : Nat × (List Nat × List qL)) : qK := (K.1, K.2.1, K.2.2.1, K.2.2.2.1, K.2.2.2.2.1, K.2.2.2.2.2.1, K.2.2.2.2.2.2.1, x :: K.2.2.2.2.2.2.2)
theorem Sat.note {g : qG} {S : qS} {r : qW} {a : qX} {ls : qLS} {st : List qV} {s : qSg} (h : Sat γ g S r a ls st s) (x : Nat × (List Nat × List qL)) (hf : ∀ r' a', agr S.2.2.2 r r' a a' → SatC g S r' a' ls st s → PQ x.1 (x.2.1.map a') (x.2.2.map (qe r'))) :
    Sat γ g (S.1, S.2.1, S.2.2.1, kNote S.2.2.2 x) r a ls st s := by
  refine ⟨h.1, ?_⟩
  intro r' a' hg
  obtain ⟨c1, c2, c3, c4, k1, k2, k3, k4, k5, k6⟩ := h.2 r' a' hg
  refine ⟨c1, c2, c3, c4, k1, k2, k3, k4, k5, ?_⟩
  intro y hy
  rcases List.mem_cons.mp hy with rfl | hy
  · exact hf r' a' hg (h.2 r' a' hg)
  · exact k6 y hy
noncomputable def znt (nt : Option Nat) (fs : List qL) (K : qK) : qK := Option.rec (motive := fun _ => qK) K (fun p => kNote K (p, [], fs)) nt
/-- what is noted of a function of ints, of longs: its predicate -/
def atI (f : Nat) : Option Nat := match f with
  | 0 => some 1022
  | 1 => some 1069
  | 3 => some 1070
  | 6 => some 1107
  | 7 => some 1108
  | 8 => some 1077
  | _ => none
def atJ (f : Nat) : Option Nat := match f with
  | 0 => some 1019
  | 1 => some 1020
  | 3 => some 1021
  | _ => none
theorem atI_ok {f p : Nat} (h : atI f = some p) {a b : Int} (ha : in32 a) (hb : in32 b) : PQ p [] [a, b, fI f a b] := by
  unfold atI at h
  split at h <;> first | (cases h; exact ⟨⟨ha, hb⟩, rfl⟩) | cases h
theorem atJ_ok {f p : Nat} (h : atJ f = some p) {a b : Int} (ha : in64 a) (hb : in64 b) : PQ p [] [a, b, fJ f a b] := by
  unfold atJ at h
  split at h <;> first | (cases h; exact ⟨⟨ha, hb⟩, rfl⟩) | cases h
/-- a rule of a function of two numbers: what must hold (c + p a + q b not negative), bounds of the result, what holds of it (c + p a + q b + s z not negative) -/
abbrev qRu : Type := List (Int × (Int × Int)) × ((Int × Int) × List (Int × (Int × (Int × Int))))
def RuOk (f : Int → Int → Int) (R : qRu) (a b : Int) : Prop := (∀ c ∈ R.1, 0 ≤ c.1 + c.2.1 * a + c.2.2 * b) → R.2.1.1 ≤ f a b ∧ f a b ≤ R.2.1.2 ∧ ∀ c ∈ R.2.2, 0 ≤ c.1 + c.2.1 * a + c.2.2.1 * b + c.2.2.2 * f a b
noncomputable def zlf (c p q : Int) (a b : qL) : qL := qA (qA (qC c) p a) q b
theorem zlf_ev (r : qW) (c p q : Int) (a b : qL) : qe r (zlf c p q a b) = c + p * qe r a + q * qe r b := by
  unfold zlf; rw [qA_ev, qA_ev, qC_ev]
noncomputable def zcs (l : List (Int × (Int × Int))) (a b : qL) : List qL := List.rec (motive := fun _ => List qL) [] (fun c _ ih => zlf c.1 c.2.1 c.2.2 a b :: ih) l
theorem zcs_mem {a b : qL} {r : qW} : ∀ l : List (Int × (Int × Int)), (∀ f ∈ zcs l a b, 0 ≤ qe r f) → ∀ c ∈ l, 0 ≤ c.1 + c.2.1 * qe r a + c.2.2 * qe r b
  | [], _, c, hc => by cases hc
  | x :: l, h, c, hc => by
    rcases List.mem_cons.mp hc with rfl | hc
    · have := h (zlf c.1 c.2.1 c.2.2 a b) List.mem_cons_self
      rw [zlf_ev] at this; exact this
    · exact zcs_mem l (fun f hf => h f (List.mem_cons_of_mem _ hf)) c hc
/-- the facts of a new unknown z -/
noncomputable def zfs (l : List (Int × (Int × (Int × Int)))) (a b z : qL) (K : qK) (k : qK → qR) : qR := List.rec (motive := fun _ => qK → qR) (fun K => k K) (fun c _ ih K => qF (qA (zlf c.1 c.2.1 c.2.2.1 a b) c.2.2.2 z) (fun f => ih (kFact K f))) l K
noncomputable def zru (nt : Option Nat) (R : qRu) (t : Nat) (a b : qL) (st : List qSV) (S : qS) (str : List Nat) (k : qKk) : qR := zgs S.2.2.2 (zcs R.1 a b) str (fun str => zfs R.2.2 a b (qV1 S.2.2.2.1) (kVar S.2.2.2 R.2.1.1 R.2.1.2) (fun K => k (S_mk S ((t, qV1 S.2.2.2.1, qC 0) :: st) S.2.2.1 (znt nt [a, b, qV1 S.2.2.2.1] K)) str))
theorem zfs_some {g : qG} {a b z : qL} {k : qK → qR} {o : List Nat} {r : qW} {v : qX} {ls : qLS} {st : List qV} {s : qSg} : ∀ (l : List (Int × (Int × (Int × Int)))) (S : qS), zfs l a b z S.2.2.2 k = some o → Sat γ g S r v ls st s → (∀ r' a', agr S.2.2.2 r r' v a' → SatC g S r' a' ls st s → ∀ c ∈ l, 0 ≤ c.1 + c.2.1 * qe r' a + c.2.2.1 * qe r' b + c.2.2.2 * qe r' z) → ∃ K, k K = some o ∧ Sat γ g (S.1, S.2.1, S.2.2.1, K) r v ls st s ∧ K.1 = S.2.2.2.1
  | [], S, h, hS, _ => ⟨_, h, hS, rfl⟩
  | c :: l, S, h, hS, hf => by
    have h' : qF (qA (zlf c.1 c.2.1 c.2.2.1 a b) c.2.2.2 z) (fun f => zfs l a b z (kFact S.2.2.2 f) k) = some o := h
    rw [qF_eq] at h'
    have hS1 := hS.fact (qA (zlf c.1 c.2.1 c.2.2.1 a b) c.2.2.2 z) (fun r' a' hg C => by
      rw [qA_ev, zlf_ev]; exact hf r' a' hg C c List.mem_cons_self)
    obtain ⟨K, h1, h2, h3⟩ := zfs_some l (S.1, S.2.1, S.2.2.1, kFact S.2.2.2 (qA (zlf c.1 c.2.1 c.2.2.1 a b) c.2.2.2 z)) h' hS1 (fun r' a' hg C x hx => hf r' a' hg (hS.2 r' a' hg) x (List.mem_cons_of_mem _ hx))
    exact ⟨K, h1, h2, h3⟩
theorem zru_some {g : qG} {S : qS} {nt : Option Nat} {R : qRu} {t : Nat} {a b : qL} {st1 : List qSV} {str : List Nat} {k : qKk} {o : List Nat} (h : zru nt R t a b st1 S str k = some o) (ht : t ≠ 3) {r : qW} {v : qX} {ls : qLS} {st : List qV} {s : qSg} (hS : Sat γ g S r v ls st s)
    {f : Int → Int → Int} (hf : RuOk f R (qe r a) (qe r b)) (hn : ∀ p, nt = some p → PQ p [] [qe r a, qe r b, f (qe r a) (qe r b)]) (hst : ∀ r', st = S.2.1.map (qden r') → qe r a = qe r' a ∧ qe r b = qe r' b ∧ st1.map (qden r) = st1.map (qden r')) :
    ∃ S' str' r', k S' str' = some o ∧ Sat γ g S' r' v ls ((t, f (qe r a) (qe r b)) :: st1.map (qden r)) s := by
  obtain ⟨⟨s1, h1⟩, p1⟩ := zgs_some _ _ _ h
  obtain ⟨q1, q2, q3⟩ := hf (zcs_mem _ (p1 g r v hS.now.2.2.2.2))
  have hV := hS.var (f (qe r a) (qe r b)) _ _ q1 q2
  have hst' : ∀ r', st = S.2.1.map (qden r') → qe r a = qe r' a ∧ qe r b = qe r' b ∧ st1.map (qden r) = st1.map (qden r') := hst
  obtain ⟨K, h2, h3, h4⟩ := zfs_some R.2.2 (S.1, S.2.1, S.2.2.1, kVar S.2.2.2 R.2.1.1 R.2.1.2) h1 hV (fun r' a' hg C c hc => by
    have hz : r' S.2.2.2.1 = f (qe r a) (qe r b) := by rw [hg.1 _ (Nat.lt_succ_self _), wUp_same]
    obtain ⟨u1, u2, u3⟩ := hst' r' C.2.1
    rw [qV1_ev, hz, ← u1, ← u2]
    exact q3 c hc)
  refine ⟨_, s1, wUp r S.2.2.2.1 (f (qe r a) (qe r b)), h2, ?_⟩
  have h4 : K.1 = Nat.succ S.2.2.2.1 := h4
  have h3 : Sat γ g (S.1, S.2.1, S.2.2.1, znt nt [a, b, qV1 S.2.2.2.1] K) (wUp r S.2.2.2.1 (f (qe r a) (qe r b))) v ls st s := by
    cases nt with
    | none => exact h3
    | some p =>
      refine h3.note (p, [], [a, b, qV1 S.2.2.2.1]) (fun r' a' hg C => ?_)
      obtain ⟨u1, u2, -⟩ := hst' r' C.2.1
      have hz : r' S.2.2.2.1 = f (qe r a) (qe r b) := by
        rw [hg.1 S.2.2.2.1 (by show S.2.2.2.1 < K.1; omega), wUp_same]
      show PQ p [] [qe r' a, qe r' b, qe r' (qV1 S.2.2.2.1)]
      rw [qV1_ev, hz, ← u1, ← u2]
      exact hn p rfl
  have h4 : (znt nt [a, b, qV1 S.2.2.2.1] K).1 = Nat.succ S.2.2.2.1 := by
    cases nt with
    | none => exact h4
    | some p => exact h4
  generalize znt nt [a, b, qV1 S.2.2.2.1] K = K at h3 h4
  refine ⟨h3.1, ?_⟩
  intro r' a' hg
  have C := h3.2 r' a' hg
  obtain ⟨u1, u2, u3⟩ := hst' r' C.2.1
  refine ⟨C.1, ?_, C.2.2⟩
  show (t, f (qe r a) (qe r b)) :: st1.map (qden r) = qden r' (t, qV1 S.2.2.2.1, qC 0) :: st1.map (qden r')
  have hz2 : r' S.2.2.2.1 = f (qe r a) (qe r b) := by
    have h5 : K.1 = Nat.succ S.2.2.2.1 := h4
    rw [hg.1 S.2.2.2.1 (by show S.2.2.2.1 < K.1; omega), wUp_same]
  rw [den_i r' _ _ _ ht, qV1_ev, hz2, u3]
/-- is 6 or 7: a division -/
noncomputable def zdv (z : Int) : Bool := qB (qIz (z - 6)) true (qIz (z - 7))
theorem zdv_f {z : Int} (h : zdv z = false) : ¬ (z = 6 ∨ z = 7) := by
  rintro (rfl | rfl) <;> cases h
/-- tables of rules: by the function's number, the rule's, and a number -/
abbrev qRt : Type := Nat → Nat → Int → Option qRu
noncomputable def zsg (n : Nat) : Int := zz n
/-- b isn't 0 (where it must not be) -/
noncomputable def zdz {β : Type} (w : Bool) (K : qK) (b : qL) (str : List Nat) (k : List Nat → Option β) : Option β := qB w (zp str (fun m str => Nat.rec (motive := fun _ => Option β) (zg K (qA b 1 (qC (-1))) str k) (fun _ _ => zg K (qA (qC (-1)) (-1) b) str k) m)) (k str)
theorem zdz_some {β : Type} {w : Bool} {K : qK} {b : qL} {str : List Nat} {k : List Nat → Option β} {o : β} (h : zdz w K b str k = some o) : (∃ s', k s' = some o) ∧ ∀ (g : qG) (r : qW) (a : qX), KnC g K r a → w = true → qe r b ≠ 0 := by
  unfold zdz at h
  cases w with
  | false => exact ⟨⟨str, h⟩, fun _ _ _ _ e => by cases e⟩
  | true =>
    rw [qB_t rfl] at h
    obtain ⟨m, s1, h1⟩ := zp_some h
    cases m with
    | zero =>
      obtain ⟨h2, p⟩ := zg_some h1
      refine ⟨h2, fun g r a C _ => ?_⟩
      have := p g r a C
      rw [qA_ev, qC_ev] at this; omega
    | succ m =>
      obtain ⟨h2, p⟩ := zg_some (show zg K (qA (qC (-1)) (-1) b) s1 k = some o from h1)
      refine ⟨h2, fun g r a C _ => ?_⟩
      have := p g r a C
      rw [qA_ev, qC_ev] at this; omega
/-- a rule by its number; from 100 on it is noted -/
noncomputable def zrn (ru : qRt) (at_ : Nat → Option Nat) (f n : Nat) (p : Int) (k : Option Nat → qRu → qR) : qR := qB (Nat.blt n 100) (Option.rec none (fun R => k none R) (ru f n p)) (Option.rec none (fun R => Option.rec none (fun q => k (some q) R) (at_ f)) (ru f (Nat.sub n 100) p))
theorem zrn_some {ru : qRt} {at_ : Nat → Option Nat} {f n : Nat} {p : Int} {k : Option Nat → qRu → qR} {o : List Nat} (h : zrn ru at_ f n p k = some o) : ∃ m R nt, ru f m p = some R ∧ k nt R = some o ∧ ∀ q, nt = some q → at_ f = some q := by
  unfold zrn at h
  cases c : Nat.blt n 100
  · rw [c, qB_f rfl] at h
    cases e : ru f (Nat.sub n 100) p with
    | none => rw [e] at h; cases h
    | some R =>
      rw [e] at h
      cases e2 : at_ f with
      | none => rw [e2] at h; cases h
      | some q =>
        rw [e2] at h
        exact ⟨_, R, some q, e, h, fun q' hq => hq⟩
  · rw [c, qB_t rfl] at h
    cases e : ru f n p with
    | none => rw [e] at h; cases h
    | some R =>
      rw [e] at h
      exact ⟨_, R, none, e, h, fun q hq => by cases hq⟩
-- a function of two ints (18), of two longs or a long and an int (19), of one int (20)
noncomputable def x18 (ru : qRt) (d : qD) : qS → List Nat → qKk → qR := fun S str k => zt 0 S.2.1 (fun b st => zt 0 st (fun a st => zgl S.2.2.2 0 (-2147483648) 2147483647 a str (fun str => zgl S.2.2.2 0 (-2147483648) 2147483647 b str (fun str =>
  zdz (zdv d.2.1) S.2.2.2 b str (fun str => zp str (fun n str => zp str (fun p str => zrn ru atI d.2.1.toNat n (zsg p) (fun nt R => zru nt R 0 a b st S str k))))))))
noncomputable def x19 (ru : qRt) (d : qD) : qS → List Nat → qKk → qR := fun S str k => qB (qB (Nat.beq d.2.2.1.toNat 0) true (Nat.beq d.2.2.1.toNat 1)) (zt d.2.2.1.toNat S.2.1 (fun b st => zt 1 st (fun a st => zgl S.2.2.2 0 (-9223372036854775808) 9223372036854775807 a str (fun str => zgl S.2.2.2 0 (-9223372036854775808) 9223372036854775807 b str (fun str =>
  zdz (zdv d.2.1) S.2.2.2 b str (fun str => zp str (fun n str => zp str (fun p str => zrn ru atJ d.2.1.toNat n (zsg p) (fun nt R => zru nt R 1 a b st S str k))))))))) none
noncomputable def x20 (ru : qRt) (d : qD) : qS → List Nat → qKk → qR := fun S str k => zt 0 S.2.1 (fun a st => zgl S.2.2.2 0 (-2147483648) 2147483647 a str (fun str => zp str (fun n str => zp str (fun p str => zrn ru atI d.2.1.toNat n (zsg p) (fun nt R => zru nt R 0 a (qC 0) st S str k)))))
theorem Sat.tailx {g : qG} {S : qS} {r : qW} {a : qX} {ls : qLS} {st : List qV} {s : qSg} (hS : Sat γ g S r a ls st s) {t u : Nat} {i f : qL} {st0 st1 : List qSV} (h2 : ∀ r, S.2.1.map (qden r) = (t, qe r i) :: st0.map (qden r)) (h4 : ∀ r, st0.map (qden r) = (u, qe r f) :: st1.map (qden r)) {r' : qW} (e' : st = S.2.1.map (qden r')) : qe r i = qe r' i ∧ qe r f = qe r' f ∧ st1.map (qden r) = st1.map (qden r') := by
  have q := hS.now.2.1.symm.trans e'
  rw [h2, h2, h4, h4] at q
  obtain ⟨u1, u2⟩ := List.cons.inj q
  obtain ⟨u3, u4⟩ := List.cons.inj u2
  exact ⟨(Prod.mk.inj u1).2, (Prod.mk.inj u3).2, u4⟩
theorem zdv_or {z : Int} : (z = 6 ∨ z = 7) → zdv z = true := by
  rintro (rfl | rfl) <;> rfl
theorem x18_ok (g : qG) {ru : qRt} (hru : ∀ (f n : Nat) (p : Int) (R : qRu), ru f n p = some R → ∀ a b, in32 a → in32 b → ((f : Int) = 6 ∨ (f : Int) = 7 → b ≠ 0) → RuOk (fI f) R a b) (md : List Nat) (se : qSg) (b : Int × Int × Int) (hb : 0 ≤ b.1) : qStp γ g md se (18, b) (x18 ru (18, b)) := by
  intro S str k o P h hk r v ls st s hT hS
  obtain ⟨y, st0, h1, h2⟩ := zt_some (by decide) h
  obtain ⟨x, st1, h3, h4⟩ := zt_some (by decide) h1
  obtain ⟨⟨s1, h5⟩, p1⟩ := zgl_some h3
  obtain ⟨⟨s2, h6⟩, p2⟩ := zgl_some h5
  obtain ⟨⟨s3, h7⟩, p3⟩ := zdz_some h6
  obtain ⟨n, s4, h8⟩ := zp_some h7
  obtain ⟨p, s5, h9⟩ := zp_some h8
  obtain ⟨m, R, nt, e, h9, hn⟩ := zrn_some h9
  have q1 := p1 g r v hS.now.2.2.2.2
  have q2 := p2 g r v hS.now.2.2.2.2
  have q3 := p3 g r v hS.now.2.2.2.2
  have hb' : ((b.1.toNat : Nat) : Int) = b.1 := Int.toNat_of_nonneg hb
  obtain ⟨S', str', r', h10, h11⟩ := zru_some h9 (by decide) hS (hru _ _ _ _ e (qe r x) (qe r y) q1 q2 (fun hd => q3 (zdv_or (by rw [← hb']; exact hd)))) (fun p hp => atI_ok (hn p hp) q1 q2) (fun r' e' => by
    obtain ⟨t1, t2, t3⟩ := hS.tailx h2 h4 e'
    exact ⟨t2, t1, t3⟩)
  exact ⟨qe r x, qe r y, st1.map (qden r), by rw [hS.now.2.1, h2, h4], q1, q2, fun hd => q3 (zdv_or hd), hk _ _ _ h10 r' v _ _ s hT h11⟩
theorem x19_ok (g : qG) {ru : qRt} (hru : ∀ (f n : Nat) (p : Int) (R : qRu), ru f n p = some R → ∀ a b, in64 a → in64 b → ((f : Int) = 6 ∨ (f : Int) = 7 → b ≠ 0) → RuOk (fJ f) R a b) (md : List Nat) (se : qSg) (b : Int × Int × Int) (hb : 0 ≤ b.1) : qStp γ g md se (19, b) (x19 ru (19, b)) := by
  intro S str k o P h hk r v ls st s hT hS
  obtain ⟨ht0, h0⟩ := qB_y h
  have ht : b.2.1.toNat ≠ 3 := by
    intro e3
    have : ((19, b) : qD).2.2.1.toNat = 3 := e3
    rw [this] at ht0; cases ht0
  obtain ⟨y, st0, h1, h2⟩ := zt_some ht h0
  obtain ⟨x, st1, h3, h4⟩ := zt_some (by decide) h1
  obtain ⟨⟨s1, h5⟩, p1⟩ := zgl_some h3
  obtain ⟨⟨s2, h6⟩, p2⟩ := zgl_some h5
  obtain ⟨⟨s3, h7⟩, p3⟩ := zdz_some h6
  obtain ⟨n, s4, h8⟩ := zp_some h7
  obtain ⟨p, s5, h9⟩ := zp_some h8
  obtain ⟨m, R, nt, e, h9, hn⟩ := zrn_some h9
  have q1 := p1 g r v hS.now.2.2.2.2
  have q2 := p2 g r v hS.now.2.2.2.2
  have q3 := p3 g r v hS.now.2.2.2.2
  have hb' : ((b.1.toNat : Nat) : Int) = b.1 := Int.toNat_of_nonneg hb
  obtain ⟨S', str', r', h10, h11⟩ := zru_some h9 (by decide) hS (hru _ _ _ _ e (qe r x) (qe r y) q1 q2 (fun hd => q3 (zdv_or (by rw [← hb']; exact hd)))) (fun p hp => atJ_ok (hn p hp) q1 q2) (fun r' e' => by
    obtain ⟨t1, t2, t3⟩ := hS.tailx h2 h4 e'
    exact ⟨t2, t1, t3⟩)
  exact ⟨qe r x, qe r y, st1.map (qden r), by rw [hS.now.2.1, h2, h4], q1, q2, fun hd => q3 (zdv_or hd), hk _ _ _ h10 r' v _ _ s hT h11⟩
theorem Sat.tail1 {g : qG} {S : qS} {r : qW} {a : qX} {ls : qLS} {st : List qV} {s : qSg} (hS : Sat γ g S r a ls st s) {t : Nat} {i : qL} {st0 : List qSV} (h2 : ∀ r, S.2.1.map (qden r) = (t, qe r i) :: st0.map (qden r)) {r' : qW} (e' : st = S.2.1.map (qden r')) : qe r i = qe r' i ∧ st0.map (qden r) = st0.map (qden r') := by
  have q := hS.now.2.1.symm.trans e'
  rw [h2, h2] at q
  obtain ⟨u1, u2⟩ := List.cons.inj q
  exact ⟨(Prod.mk.inj u1).2, u2⟩
theorem x20_ok (g : qG) {ru : qRt} (hru : ∀ (f n : Nat) (p : Int) (R : qRu), ru f n p = some R → ∀ a, in32 a → RuOk (fI f) R a 0) (md : List Nat) (se : qSg) (b : Int × Int × Int) : qStp γ g md se (20, b) (x20 ru (20, b)) := by
  intro S str k o P h hk r v ls st s hT hS
  obtain ⟨x, st1, h3, h4⟩ := zt_some (by decide) h
  obtain ⟨⟨s1, h5⟩, p1⟩ := zgl_some h3
  obtain ⟨n, s4, h8⟩ := zp_some h5
  obtain ⟨p, s5, h9⟩ := zp_some h8
  obtain ⟨m, R, nt, e, h9, hn⟩ := zrn_some h9
  have q1 := p1 g r v hS.now.2.2.2.2
  obtain ⟨S', str', r', h10, h11⟩ := zru_some (f := fI b.1.toNat) h9 (by decide) hS (by rw [qC_ev]; exact hru _ _ _ _ e (qe r x) q1) (fun p hp => by rw [qC_ev]; exact atI_ok (hn p hp) q1 (by unfold in32; omega)) (fun r' e' => by
    obtain ⟨t1, t2⟩ := hS.tail1 h4 e'
    exact ⟨t1, by rw [qC_ev, qC_ev], t2⟩)
  rw [qC_ev] at h11
  exact ⟨qe r x, st1.map (qden r), by rw [hS.now.2.1, h4], q1, hk _ _ _ h10 r' v _ _ s hT h11⟩
-- i2l, l2i, lcmp
noncomputable def x21 : qS → List Nat → qKk → qR := fun S str k => zt 0 S.2.1 (fun a st => zgl S.2.2.2 0 (-2147483648) 2147483647 a str (fun str => k (S_stk S ((1, a, qC 0) :: st)) str))
theorem x21_ok (g : qG) (md : List Nat) (se : qSg) (b : Int × Int × Int) : qStp γ g md se (21, b) x21 := by
  intro S str k o P h hk r v ls st s hT hS
  obtain ⟨x, st1, h3, h4⟩ := zt_some (by decide) h
  obtain ⟨⟨s1, h5⟩, p1⟩ := zgl_some h3
  refine ⟨qe r x, st1.map (qden r), by rw [hS.now.2.1, h4], p1 g r v hS.now.2.2.2.2, hk _ _ _ h5 r v _ _ s hT (hS.stk _ fun r' e' => ?_)⟩
  obtain ⟨t1, t2⟩ := hS.tail1 h4 e'
  rw [List.map_cons, den_i r' _ _ _ (by decide), t1, t2]
noncomputable def x22 : qS → List Nat → qKk → qR := fun S str k => zt 1 S.2.1 (fun a st => k (S_stk S ((0, a, qC 0) :: st)) str)
theorem x22_ok (g : qG) (md : List Nat) (se : qSg) (b : Int × Int × Int) : qStp γ g md se (22, b) x22 := by
  intro S str k o P h hk r v ls st s hT hS
  obtain ⟨x, st1, h3, h4⟩ := zt_some (by decide) h
  refine ⟨qe r x, st1.map (qden r), by rw [hS.now.2.1, h4], hk _ _ _ h3 r v _ _ s hT (hS.stk _ fun r' e' => ?_)⟩
  obtain ⟨t1, t2⟩ := hS.tail1 h4 e'
  rw [List.map_cons, den_i r' _ _ _ (by decide), t1, t2]
noncomputable def x23 : qS → List Nat → qKk → qR := fun S str k => zt 1 S.2.1 (fun b st => zt 1 st (fun a st => zgl S.2.2.2 0 (-9223372036854775808) 9223372036854775807 a str (fun str => zgl S.2.2.2 0 (-9223372036854775808) 9223372036854775807 b str (fun str => k (S_stk S ((3, a, b) :: st)) str))))
theorem x23_ok (g : qG) (md : List Nat) (se : qSg) (b : Int × Int × Int) : qStp γ g md se (23, b) x23 := by
  intro S str k o P h hk r v ls st s hT hS
  obtain ⟨y, st0, h1, h2⟩ := zt_some (by decide) h
  obtain ⟨x, st1, h3, h4⟩ := zt_some (by decide) h1
  obtain ⟨⟨s1, h5⟩, p1⟩ := zgl_some h3
  obtain ⟨⟨s2, h6⟩, p2⟩ := zgl_some h5
  refine ⟨qe r x, qe r y, st1.map (qden r), by rw [hS.now.2.1, h2, h4], p1 g r v hS.now.2.2.2.2, p2 g r v hS.now.2.2.2.2, hk _ _ _ h6 r v _ _ s hT (hS.stk _ fun r' e' => ?_)⟩
  obtain ⟨t1, t2, t3⟩ := hS.tailx h2 h4 e'
  rw [List.map_cons, t3]
  show (0, cmpZ (qe r x) (qe r y)) :: _ = (if (3 : Nat) = 3 then ((0, cmpZ (qe r' x) (qe r' y)) : qV) else _) :: _
  rw [if_pos rfl, t1, t2]
/-- is told by a constant -/
noncomputable def zcn {β : Type} (f : qL) (k : Int → Option β) (e : Option β) : Option β := List.rec (motive := fun _ => Option β) (k f.1) (fun _ _ _ => e) f.2
theorem zcn_some {β : Type} {f : qL} {k : Int → Option β} {e : Option β} {o : β} (h : zcn f k e = some o) : (k f.1 = some o ∧ ∀ r, qe r f = f.1) ∨ e = some o := by
  obtain ⟨c, t⟩ := f
  cases t with
  | nil => exact Or.inl ⟨h, fun r => by show c + 0 = c; omega⟩
  | cons x t => exact Or.inr h
/-- an unknown without bounds -/
noncomputable def kVar0 (K : qK) : qK := (Nat.succ K.1, K.2)
theorem Sat.var0 {g : qG} {S : qS} {r : qW} {a : qX} {ls : qLS} {st : List qV} {s : qSg} (h : Sat γ g S r a ls st s) (z : Int) : Sat γ g (S.1, S.2.1, S.2.2.1, kVar0 S.2.2.2) (wUp r S.2.2.2.1 z) a ls st s := by
  refine ⟨⟨Nat.le_succ_of_le h.1.1, h.1.2.1, fun v hv => (if_neg (Nat.ne_of_lt (Nat.lt_of_lt_of_le hv h.1.1))).trans (h.1.2.2.1 v hv), h.1.2.2.2⟩, ?_⟩
  intro r' a' hg
  exact h.2 r' a' ⟨fun v hv => by
    rw [hg.1 v (Nat.lt_succ_of_lt hv)]
    exact if_neg (Nat.ne_of_lt hv), fun v hv => hg.2 v hv⟩
-- products
noncomputable def x16 (t : Nat) : qS → List Nat → qKk → qR := fun S str k => zt t S.2.1 (fun y st => zt t st (fun x st => zcn y (fun c => qF (qA (qC 0) c x) (fun z => k (S_stk S ((t, z, qC 0) :: st)) str)) (zcn x (fun c => qF (qA (qC 0) c y) (fun z => k (S_stk S ((t, z, qC 0) :: st)) str)) (k (S_mk S ((t, qV1 S.2.2.2.1, qC 0) :: st) S.2.2.1 (kVar0 S.2.2.2)) str))))
theorem x16_ok (g : qG) (md : List Nat) (se : qSg) (t : Int) (b : Int × Int) (ht : t.toNat ≠ 3) : qStp γ g md se (16, t, b) (x16 t.toNat) := by
  intro S str k o P h hk r v ls st s hT hS
  obtain ⟨y, st0, h1, h2⟩ := zt_some ht h
  obtain ⟨x, st1, h3, h4⟩ := zt_some ht h1
  refine ⟨qe r x, qe r y, st1.map (qden r), by rw [hS.now.2.1, h2, h4], ?_⟩
  rcases zcn_some h3 with ⟨h5, e5⟩ | h5
  · rw [qF_eq] at h5
    refine hk _ _ _ h5 r v _ _ s hT (hS.stk _ fun r' e' => ?_)
    obtain ⟨t1, t2, t3⟩ := hS.tailx h2 h4 e'
    rw [List.map_cons, den_i r' _ _ _ ht, qA_ev, qC_ev, t2, e5, t3, Int.mul_comm, Int.zero_add]
  · rcases zcn_some h5 with ⟨h6, e6⟩ | h6
    · rw [qF_eq] at h6
      refine hk _ _ _ h6 r v _ _ s hT (hS.stk _ fun r' e' => ?_)
      obtain ⟨t1, t2, t3⟩ := hS.tailx h2 h4 e'
      rw [List.map_cons, den_i r' _ _ _ ht, qA_ev, qC_ev, t1, e6, t3, Int.zero_add]
    · have hV := hS.var0 (qe r x * qe r y)
      refine hk _ _ _ h6 (wUp r S.2.2.2.1 (qe r x * qe r y)) v _ _ s hT ?_
      refine ⟨hV.1, ?_⟩
      intro r' a' hg'
      have C := hV.2 r' a' hg'
      obtain ⟨t1, t2, t3⟩ := hS.tailx h2 h4 C.2.1
      refine ⟨C.1, ?_, C.2.2⟩
      show (t.toNat, qe r x * qe r y) :: st1.map (qden r) = qden r' (t.toNat, qV1 S.2.2.2.1, qC 0) :: st1.map (qden r')
      rw [den_i r' _ _ _ ht, qV1_ev, hg'.1 _ (Nat.lt_succ_self _), wUp_same, t3]
end
