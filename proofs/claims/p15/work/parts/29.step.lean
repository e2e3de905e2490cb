/-! STEPS: CANONICAL NUMBERS; BRANCHES -/
section
variable {γ : qGh}
theorem ofInt32_in (z : Int) : -2147483648 ≤ (Int32.ofInt z).toInt ∧ (Int32.ofInt z).toInt ≤ 2147483647 := by
  have h1 := Int32.le_toInt (Int32.ofInt z)
  have h2 := Int32.toInt_lt (Int32.ofInt z)
  exact ⟨by omega, by omega⟩
theorem ofInt64_in (z : Int) : -9223372036854775808 ≤ (Int64.ofInt z).toInt ∧ (Int64.ofInt z).toInt ≤ 9223372036854775807 := by
  have h1 := Int64.le_toInt (Int64.ofInt z)
  have h2 := Int64.toInt_lt (Int64.ofInt z)
  exact ⟨by omega, by omega⟩
noncomputable def x31 (t : Nat) (lo hi : Int) (d : qD) : qS → List Nat → qKk → qR := fun S str k => qB (qIz d.2.1) (zt t S.2.1 (fun _ st => k (S_mk S ((t, qV1 S.2.2.2.1, qC 0) :: st) S.2.2.1 (kVar S.2.2.2 lo hi)) str)) none
theorem x31_go {S : qS} {t : Nat} {lo hi : Int} {d : qD} {str : List Nat} {k : qKk} {o : List Nat} (h : x31 t lo hi d S str k = some o) (ht : t ≠ 3) {g : qG} {r : qW} {a : qX} {ls : qLS} {st : List qV} {s : qSg} (hS : Sat γ g S r a ls st s) (c : Int → Int) (hc : ∀ z, lo ≤ c z ∧ c z ≤ hi) :
    d.2.1 = 0 ∧ ∃ z st2 S' r', st = (t, z) :: st2 ∧ k S' str = some o ∧ Sat γ g S' r' a ls ((t, c z) :: st2) s := by
  obtain ⟨h0, h1⟩ := qB_y h
  obtain ⟨x, st1, h3, h4⟩ := zt_some ht h1
  refine ⟨qIz_t h0, qe r x, st1.map (qden r), _, wUp r S.2.2.2.1 (c (qe r x)), by rw [hS.now.2.1, h4], h3, ?_⟩
  have hV := hS.var (c (qe r x)) lo hi (hc _).1 (hc _).2
  refine ⟨hV.1, ?_⟩
  intro r' a' hg'
  have C := hV.2 r' a' hg'
  obtain ⟨t1, t2⟩ := hS.tail1 h4 C.2.1
  refine ⟨C.1, ?_, C.2.2⟩
  show (t, c (qe r x)) :: st1.map (qden r) = qden r' (t, qV1 S.2.2.2.1, qC 0) :: st1.map (qden r')
  rw [den_i r' _ _ _ ht, qV1_ev, hg'.1 _ (Nat.lt_succ_self _), wUp_same, t2]
/-- .. and what it is is noted -/
noncomputable def x31n (p t : Nat) (lo hi : Int) : qS → List Nat → qKk → qR := fun S str k => zt t S.2.1 (fun f st => k (S_mk S ((t, qV1 S.2.2.2.1, qC 0) :: st) S.2.2.1 (kNote (kVar S.2.2.2 lo hi) (p, [], [f, qV1 S.2.2.2.1]))) str)
theorem x31n_go {S : qS} {p t : Nat} {lo hi : Int} {str : List Nat} {k : qKk} {o : List Nat} (h : x31n p t lo hi S str k = some o) (ht : t ≠ 3) {g : qG} {r : qW} {a : qX} {ls : qLS} {st : List qV} {s : qSg} (hS : Sat γ g S r a ls st s) (c : Int → Int) (hc : ∀ z, lo ≤ c z ∧ c z ≤ hi) (hp : ∀ z, PQ p [] [z, c z]) :
    ∃ z st2 S' r', st = (t, z) :: st2 ∧ k S' str = some o ∧ Sat γ g S' r' a ls ((t, c z) :: st2) s := by
  obtain ⟨x, st1, h3, h4⟩ := zt_some ht h
  refine ⟨qe r x, st1.map (qden r), _, wUp r S.2.2.2.1 (c (qe r x)), by rw [hS.now.2.1, h4], h3, ?_⟩
  have hV := hS.var (c (qe r x)) lo hi (hc _).1 (hc _).2
  have hN := hV.note (p, [], [x, qV1 S.2.2.2.1]) (fun r' a' hg' C => by
    obtain ⟨t1, -⟩ := hS.tail1 h4 C.2.1
    show PQ p [] [qe r' x, qe r' (qV1 S.2.2.2.1)]
    rw [qV1_ev, hg'.1 _ (Nat.lt_succ_self _), wUp_same, ← t1]
    exact hp _)
  refine ⟨hN.1, ?_⟩
  intro r' a' hg'
  have C := hN.2 r' a' hg'
  obtain ⟨t1, t2⟩ := hS.tail1 h4 C.2.1
  refine ⟨C.1, ?_, C.2.2⟩
  show (t, c (qe r x)) :: st1.map (qden r) = qden r' (t, qV1 S.2.2.2.1, qC 0) :: st1.map (qden r')
  rw [den_i r' _ _ _ ht, qV1_ev, hg'.1 _ (Nat.lt_succ_self _), wUp_same, t2]
theorem x31_ok (g : qG) (md : List Nat) (se : qSg) (b : Int × Int × Int) : qStp γ g md se (31, b) (x31 0 (-2147483648) 2147483647 (31, b)) := by
  intro S str k o P h hk r v ls st s hT hS
  obtain ⟨h0, z, st2, S', r', h1, h2, h3⟩ := x31_go h (by decide) hS (fun z => (Int32.ofInt z).toInt) ofInt32_in
  exact ⟨[], z, st2, h1, by rw [show ((31, b) : qD).2.1 = 0 from h0]; rfl, hk _ _ _ h2 r' v _ _ s hT h3⟩
theorem x32_ok (g : qG) (md : List Nat) (se : qSg) (b : Int × Int × Int) : qStp γ g md se (32, b) (x31 1 (-9223372036854775808) 9223372036854775807 (32, b)) := by
  intro S str k o P h hk r v ls st s hT hS
  obtain ⟨h0, z, st2, S', r', h1, h2, h3⟩ := x31_go h (by decide) hS (fun z => (Int64.ofInt z).toInt) ofInt64_in
  exact ⟨[], z, st2, h1, by rw [show ((32, b) : qD).2.1 = 0 from h0]; rfl, hk _ _ _ h2 r' v _ _ s hT h3⟩
/-- the facts of a relation between numbers that differ by d -/
noncomputable def zrf (k : Nat) (d : qL) : List qL := Nat.rec [d, qA (qC 0) (-1) d] (fun k _ => Nat.rec [] (fun k _ => Nat.rec [qA (qC (-1)) (-1) d] (fun k _ => Nat.rec [d] (fun k _ => Nat.rec [qA d 1 (qC (-1))] (fun _ _ => [qA (qC 0) (-1) d]) k) k) k) k) k
theorem zrf_ok {k : Nat} {d : qL} {r : qW} {a b : Int} (h : relZ k a b) (hd : qe r d = a - b) : ∀ f ∈ zrf k d, 0 ≤ qe r f := by
  match k with
  | 0 =>
    intro f hf
    have h' : a = b := h
    rcases List.mem_cons.mp hf with rfl | hf
    · omega
    · rcases List.mem_cons.mp hf with rfl | hf
      · rw [qA_ev, qC_ev]; omega
      · cases hf
  | 1 => intro f hf; cases hf
  | 2 =>
    intro f hf
    have h' : a < b := h
    rcases List.mem_cons.mp hf with rfl | hf
    · rw [qA_ev, qC_ev]; omega
    · cases hf
  | 3 =>
    intro f hf
    have h' : b ≤ a := h
    rcases List.mem_cons.mp hf with rfl | hf
    · omega
    · cases hf
  | 4 =>
    intro f hf
    have h' : b < a := h
    rcases List.mem_cons.mp hf with rfl | hf
    · rw [qA_ev, qC_ev]; omega
    · cases hf
  | n + 5 =>
    intro f hf
    have h' : a ≤ b := h
    rcases List.mem_cons.mp hf with rfl | hf
    · rw [qA_ev, qC_ev]; omega
    · cases hf
/-- several new facts -/
noncomputable def kFacts (K : qK) (l : List qL) : qK := List.rec (motive := fun _ => qK → qK) (fun K => K) (fun f _ ih K => qF f (fun f => ih (kFact K f))) l K
theorem Sat.facts {g : qG} {r : qW} {a : qX} {ls : qLS} {st : List qV} {s : qSg} : ∀ (l : List qL) (S : qS), Sat γ g S r a ls st s → (∀ r' a', agr S.2.2.2 r r' a a' → SatC g S r' a' ls st s → ∀ f ∈ l, 0 ≤ qe r' f) → Sat γ g (S.1, S.2.1, S.2.2.1, kFacts S.2.2.2 l) r a ls st s
  | [], S, h, _ => h
  | f :: l, S, h, hf => by
    show Sat γ g (S.1, S.2.1, S.2.2.1, qF f (fun f => kFacts (kFact S.2.2.2 f) l)) r a ls st s
    rw [qF_eq]
    have h1 := h.fact f (fun r' a' hg C => hf r' a' hg C f List.mem_cons_self)
    exact Sat.facts l (S.1, S.2.1, S.2.2.1, kFact S.2.2.2 f) h1 (fun r' a' hg C x hx => hf r' a' hg (h.2 r' a' hg) x (List.mem_cons_of_mem _ hx))
/-- one way of a branch: relation k holds between numbers that differ by d; the stream tells: 0 no fact, 1 its facts, 2 and 3 (ne) more, less, 4 and 5 it can't be, 6 (ne) both ways -/
noncomputable def zbr (rel : Nat) (d : qL) (S : qS) (str : List Nat) (k : qKk) : qR := zp str (fun m str =>
  Nat.rec (motive := fun _ => qR) (k S str) (fun m _ =>
  Nat.rec (motive := fun _ => qR) (k (S.1, S.2.1, S.2.2.1, kFacts S.2.2.2 (zrf rel d)) str) (fun m _ =>
  Nat.rec (motive := fun _ => qR) (qB (Nat.beq rel 1) (zg S.2.2.2 d str (fun str => k (S.1, S.2.1, S.2.2.1, kFacts S.2.2.2 (zrf 4 d)) str)) none) (fun m _ =>
  Nat.rec (motive := fun _ => qR) (qB (Nat.beq rel 1) (zg S.2.2.2 (qA (qC 0) (-1) d) str (fun str => k (S.1, S.2.1, S.2.2.1, kFacts S.2.2.2 (zrf 2 d)) str)) none) (fun m _ =>
  Nat.rec (motive := fun _ => qR) (zg (kFacts S.2.2.2 (zrf rel d)) (qC (-1)) str (fun str => some str)) (fun m _ =>
  Nat.rec (motive := fun _ => qR) (qB (Nat.beq rel 1) (zg S.2.2.2 d str (fun str => zg S.2.2.2 (qA (qC 0) (-1) d) str (fun str => some str))) none) (fun _ _ =>
    qB (Nat.beq rel 1) (Option.rec none (fun str => k (S.1, S.2.1, S.2.2.1, kFacts S.2.2.2 (zrf 2 d)) str) (k (S.1, S.2.1, S.2.2.1, kFacts S.2.2.2 (zrf 4 d)) str)) none) m) m) m) m) m) m)
theorem zbr_ok {g : qG} {rel : Nat} {d : qL} {S : qS} {str : List Nat} {k : qKk} {o : List Nat} (h : zbr rel d S str k = some o) {r : qW} {v : qX} {ls : qLS} {st : List qV} {s : qSg} (hS : Sat γ g S r v ls st s) {a b : Int} (hr : relZ rel a b) (hd : ∀ r' a', agr S.2.2.2 r r' v a' → SatC g S r' a' ls st s → qe r' d = a - b) :
    ∃ S' str' o', k S' str' = some o' ∧ Sat γ g S' r v ls st s := by
  have hd0 := hd r v (agr_refl _ r v) hS.now
  obtain ⟨m, s1, h1⟩ := zp_some h
  match m with
  | 0 => exact ⟨S, s1, o, h1, hS⟩
  | 1 => exact ⟨_, s1, o, h1, hS.facts _ S (fun r' a' hg C => zrf_ok hr (hd r' a' hg C))⟩
  | 2 =>
    obtain ⟨e, h2⟩ := qB_y (show qB (Nat.beq rel 1) (zg S.2.2.2 d s1 (fun str => k (S.1, S.2.1, S.2.2.1, kFacts S.2.2.2 (zrf 4 d)) str)) none = some o from h1)
    have e1 := Nat.eq_of_beq_eq_true e
    subst e1
    obtain ⟨⟨s2, h3⟩, p⟩ := zg_some h2
    have q := p g r v hS.now.2.2.2.2
    have hr' : a ≠ b := hr
    exact ⟨_, s2, o, h3, hS.facts _ S (fun r' a' hg C => zrf_ok (k := 4) (show b < a by omega) (hd r' a' hg C))⟩
  | 3 =>
    obtain ⟨e, h2⟩ := qB_y (show qB (Nat.beq rel 1) (zg S.2.2.2 (qA (qC 0) (-1) d) s1 (fun str => k (S.1, S.2.1, S.2.2.1, kFacts S.2.2.2 (zrf 2 d)) str)) none = some o from h1)
    have e1 := Nat.eq_of_beq_eq_true e
    subst e1
    obtain ⟨⟨s2, h3⟩, p⟩ := zg_some h2
    have q := p g r v hS.now.2.2.2.2
    rw [qA_ev, qC_ev] at q
    have hr' : a ≠ b := hr
    exact ⟨_, s2, o, h3, hS.facts _ S (fun r' a' hg C => zrf_ok (k := 2) (show a < b by omega) (hd r' a' hg C))⟩
  | 4 =>
    obtain ⟨-, p⟩ := zg_some (show zg (kFacts S.2.2.2 (zrf rel d)) (qC (-1)) s1 (fun str => some str) = some o from h1)
    have hF := hS.facts (zrf rel d) S (fun r' a' hg C => zrf_ok hr (hd r' a' hg C))
    have q := p g r v hF.now.2.2.2.2
    rw [qC_ev] at q
    omega
  | 5 =>
    obtain ⟨e, h2⟩ := qB_y (show qB (Nat.beq rel 1) (zg S.2.2.2 d s1 (fun str => zg S.2.2.2 (qA (qC 0) (-1) d) str (fun str => some str))) none = some o from h1)
    have e1 := Nat.eq_of_beq_eq_true e
    subst e1
    obtain ⟨⟨s2, h3⟩, p⟩ := zg_some h2
    obtain ⟨-, p2⟩ := zg_some h3
    have q := p g r v hS.now.2.2.2.2
    have q2 := p2 g r v hS.now.2.2.2.2
    rw [qA_ev, qC_ev] at q2
    have hr' : a ≠ b := hr
    omega
  | n + 6 =>
    obtain ⟨e, h2⟩ := qB_y (show qB (Nat.beq rel 1) (Option.rec (motive := fun _ => qR) none (fun str => k (S.1, S.2.1, S.2.2.1, kFacts S.2.2.2 (zrf 2 d)) str) (k (S.1, S.2.1, S.2.2.1, kFacts S.2.2.2 (zrf 4 d)) s1)) none = some o from h1)
    have e1 := Nat.eq_of_beq_eq_true e
    subst e1
    have hr' : a ≠ b := hr
    cases e2 : k (S.1, S.2.1, S.2.2.1, kFacts S.2.2.2 (zrf 4 d)) s1 with
    | none => rw [e2] at h2; cases h2
    | some s2 =>
      rw [e2] at h2
      by_cases c : a < b
      · exact ⟨_, s2, o, h2, hS.facts _ S (fun r' a' hg C => zrf_ok (k := 2) c (hd r' a' hg C))⟩
      · exact ⟨_, s1, s2, e2, hS.facts _ S (fun r' a' hg C => zrf_ok (k := 4) (show b < a by omega) (hd r' a' hg C))⟩
end
