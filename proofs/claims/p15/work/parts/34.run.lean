/-! BLOCKS, METHODS -/
def wT (V : Nat → qP) (R : List qV → qSg → Prop) (t : qTm) : qP := fun ls st s => match t.1 with
  | 0 => V t.2.2.1 ls st s
  | 1 => ∃ (a b : Int) (st' : List qV), st = (0, b) :: (0, a) :: st' ∧ in32 a ∧ in32 b ∧ (relZ t.2.1 a b → V t.2.2.1 ls st' s) ∧ (¬ relZ t.2.1 a b → V t.2.2.2.1 ls st' s)
  | 2 => ∃ (a : Int) (st' : List qV), st = (0, a) :: st' ∧ in32 a ∧ (relZ t.2.1 a 0 → V t.2.2.1 ls st' s) ∧ (¬ relZ t.2.1 a 0 → V t.2.2.2.1 ls st' s)
  | 3 => ∃ (a : Int) (st' : List qV), st = (0, a) :: st' ∧ in32 a ∧ (∀ x ∈ t.2.2.2.2, a = x.1 → V x.2 ls st' s) ∧ ((∀ x ∈ t.2.2.2.2, a ≠ x.1) → V t.2.2.1 ls st' s)
  | 4 => st = [] ∧ R [] s
  | 5 => ∃ (z : Int) (lo hi : Int × Nat), st = [(t.2.1, z)] ∧ t.2.2.2.2 = [lo, hi] ∧ lo.1 ≤ z ∧ z ≤ hi.1 ∧ R [(t.2.1, z)] s
  | _ => False
def wBl (g : qG) (cts : List qCt) : List qD → qP → qP
  | [], T => T
  | d :: ds, T => wI g cts d (wBl g cts ds T)
/-- the other relation -/
noncomputable def zneg (k : Nat) : Nat := Nat.rec 1 (fun k _ => Nat.rec 0 (fun k _ => Nat.rec 3 (fun k _ => Nat.rec 2 (fun k _ => Nat.rec 5 (fun _ _ => 4) k) k) k) k) k
theorem zneg_ok {k : Nat} {a b : Int} (h : ¬ relZ k a b) : relZ (zneg k) a b := by
  match k with
  | 0 => exact h
  | 1 => have h' : ¬ a ≠ b := h; show a = b; omega
  | 2 => have h' : ¬ a < b := h; show b ≤ a; omega
  | 3 => have h' : ¬ b ≤ a := h; show a < b; omega
  | 4 => have h' : ¬ b < a := h; show a ≤ b; omega
  | n + 5 => have h' : ¬ a ≤ b := h; show b < a; omega
theorem rel_cmp {k : Nat} {a b : Int} : relZ k (cmpZ a b) 0 ↔ relZ k a b := by
  unfold cmpZ
  by_cases h1 : a < b
  · rw [if_pos h1]
    match k with
    | 0 => show -1 = (0 : Int) ↔ a = b; omega
    | 1 => show -1 ≠ (0 : Int) ↔ a ≠ b; omega
    | 2 => show -1 < (0 : Int) ↔ a < b; omega
    | 3 => show (0 : Int) ≤ -1 ↔ b ≤ a; omega
    | 4 => show (0 : Int) < -1 ↔ b < a; omega
    | n + 5 => show -1 ≤ (0 : Int) ↔ a ≤ b; omega
  · rw [if_neg h1]
    by_cases h2 : a = b
    · rw [if_pos h2]
      match k with
      | 0 => show 0 = (0 : Int) ↔ a = b; omega
      | 1 => show 0 ≠ (0 : Int) ↔ a ≠ b; omega
      | 2 => show 0 < (0 : Int) ↔ a < b; omega
      | 3 => show (0 : Int) ≤ 0 ↔ b ≤ a; omega
      | 4 => show (0 : Int) < 0 ↔ b < a; omega
      | n + 5 => show 0 ≤ (0 : Int) ↔ a ≤ b; omega
    · rw [if_neg h2]
      match k with
      | 0 => show 1 = (0 : Int) ↔ a = b; omega
      | 1 => show 1 ≠ (0 : Int) ↔ a ≠ b; omega
      | 2 => show 1 < (0 : Int) ↔ a < b; omega
      | 3 => show (0 : Int) ≤ 1 ↔ b ≤ a; omega
      | 4 => show (0 : Int) < 1 ↔ b < a; omega
      | n + 5 => show 1 ≤ (0 : Int) ↔ a ≤ b; omega
theorem cmp_in (a b : Int) : in32 (cmpZ a b) := by
  unfold cmpZ in32
  by_cases h1 : a < b
  · rw [if_pos h1]; omega
  · rw [if_neg h1]
    by_cases h2 : a = b
    · rw [if_pos h2]; omega
    · rw [if_neg h2]; omega
section
variable {γ : qGh}
noncomputable def zseq (x : qR) (k : List Nat → qR) : qR := Option.rec none (fun s => k s) x
theorem zseq_some {x : qR} {k : List Nat → qR} {o : List Nat} (h : zseq x k = some o) : ∃ s, x = some s ∧ k s = some o := opt_some h
/-- a switch's ways, then the rest -/
noncomputable def zsw (f : qL) (S : qS) (kb : Nat → qKk) (l : List (Int × Nat)) : List Nat → qR := List.rec (motive := fun _ => List Nat → qR) (fun str => some str) (fun x _ ih str => zseq (zbr 0 (qA f (-1) (qC x.1)) S str (kb x.2)) (fun str => ih str)) l
theorem zsw_mem {f : qL} {S : qS} {kb : Nat → qKk} : ∀ (l : List (Int × Nat)) (str o : List Nat), zsw f S kb l str = some o → ∀ x ∈ l, ∃ s1 o1, zbr 0 (qA f (-1) (qC x.1)) S s1 (kb x.2) = some o1
  | [], str, o, h, x, hx => by cases hx
  | y :: l, str, o, h, x, hx => by
    obtain ⟨s1, h1, h2⟩ := zseq_some (show zseq (zbr 0 (qA f (-1) (qC y.1)) S str (kb y.2)) (fun str => zsw f S kb l str) = some o from h)
    rcases List.mem_cons.mp hx with rfl | hx
    · exact ⟨str, s1, h1⟩
    · exact zsw_mem l s1 o h2 x hx
/-- the checker at a block's end: kb goes on at a block, kr at a return -/
noncomputable def xT1 (t : qTm) (S : qS) (str : List Nat) (kb : Nat → qKk) : qR := zt 0 S.2.1 (fun b st => zt 0 st (fun a st => zgl S.2.2.2 0 (-2147483648) 2147483647 a str (fun str => zgl S.2.2.2 0 (-2147483648) 2147483647 b str (fun str => qF (qA a (-1) b) (fun d => zseq (zbr t.2.1 d (S_stk S st) str (kb t.2.2.1)) (fun str => zbr (zneg t.2.1) d (S_stk S st) str (kb t.2.2.2.1)))))))
noncomputable def xT2 (t : qTm) (S : qS) (str : List Nat) (kb : Nat → qKk) : qR := zk S.2.1 (fun v st => qB (Nat.beq v.1 0) (zgl S.2.2.2 0 (-2147483648) 2147483647 v.2.1 str (fun str => zseq (zbr t.2.1 v.2.1 (S_stk S st) str (kb t.2.2.1)) (fun str => zbr (zneg t.2.1) v.2.1 (S_stk S st) str (kb t.2.2.2.1))))
      (qB (Nat.beq v.1 3) (qB (zwl S.2.2.2.1 v.2.1) (qB (zwl S.2.2.2.1 v.2.2) (qF (qA v.2.1 (-1) v.2.2) (fun d => zseq (zbr t.2.1 d (S_stk S st) str (kb t.2.2.1)) (fun str => zbr (zneg t.2.1) d (S_stk S st) str (kb t.2.2.2.1)))) none) none) none))
noncomputable def xT3 (t : qTm) (S : qS) (str : List Nat) (kb : Nat → qKk) : qR := zt 0 S.2.1 (fun a st => zgl S.2.2.2 0 (-2147483648) 2147483647 a str (fun str => zseq (zsw a (S_stk S st) kb t.2.2.2.2 str) (fun str => kb t.2.2.1 (S_stk S st) str)))
noncomputable def xT5 (t : qTm) (S : qS) (str : List Nat) (kr : qKk) : qR := qB (Nat.beq t.2.1 3) none (zt t.2.1 S.2.1 (fun f st => qB (znil st) (List.rec (motive := fun _ => qR) none (fun lo l _ => List.rec (motive := fun _ => qR) none (fun hi l2 _ => qB (znil l2) (zgl S.2.2.2 0 lo.1 hi.1 f str (fun str => kr S str)) none) l) t.2.2.2.2) none))
noncomputable def xT (t : qTm) (S : qS) (str : List Nat) (kb : Nat → qKk) (kr : qKk) : qR := match t.1 with
  | 0 => kb t.2.2.1 S str
  | 1 => xT1 t S str kb
  | 2 => xT2 t S str kb
  | 3 => xT3 t S str kb
  | 4 => qB (znil S.2.1) (kr S str) none
  | 5 => xT5 t S str kr
  | _ => none
theorem xT_ok {g : qG} {t : qTm} {S : qS} {str : List Nat} {kb : Nat → qKk} {kr : qKk} {o : List Nat} (h : xT t S str kb kr = some o) {V : Nat → qP} {R : List qV → qSg → Prop} {r : qW} {a : qX} {ls : qLS} {st : List qV} {s : qSg} (hS : Sat γ g S r a ls st s)
    (hb : ∀ (b : Nat) (S' : qS) (str' o' : List Nat), kb b S' str' = some o' → ∀ r a ls st, Sat γ g S' r a ls st s → V b ls st s) (hr : ∀ (S' : qS) (str' o' : List Nat), kr S' str' = some o' → ∀ r a ls st, Sat γ g S' r a ls st s → R st s) : wT V R t ls st s := by
  obtain ⟨op, rel, b1, b2, tab⟩ := t
  match op with
  | 0 => exact hb _ _ _ _ h r a ls st hS
  | 1 =>
    have h : xT1 (1, rel, b1, b2, tab) S str kb = some o := h
    obtain ⟨y, st0, h1, h2⟩ := zt_some (by decide) h
    obtain ⟨x, st1, h3, h4⟩ := zt_some (by decide) h1
    obtain ⟨⟨s1, h5⟩, p1⟩ := zgl_some h3
    obtain ⟨⟨s2, h6⟩, p2⟩ := zgl_some h5
    rw [qF_eq] at h6
    obtain ⟨s3, h7, h8⟩ := zseq_some h6
    have hS' : Sat γ g (S_stk S st1) r a ls (st1.map (qden r)) s := hS.stk _ (fun r' e' => (hS.tailx h2 h4 e').2.2)
    have hd : ∀ r' a', agr S.2.2.2 r r' a a' → SatC g (S_stk S st1) r' a' ls (st1.map (qden r)) s → qe r' (qA x (-1) y) = qe r x - qe r y := fun r' a' hg _ => by
      have C := hS.2 r' a' hg
      obtain ⟨t1, t2, -⟩ := hS.tailx h2 h4 C.2.1
      rw [qA_ev, ← t1, ← t2]; omega
    refine ⟨qe r x, qe r y, st1.map (qden r), by rw [hS.now.2.1, h2, h4], p1 g r a hS.now.2.2.2.2, p2 g r a hS.now.2.2.2.2, fun hq => ?_, fun hq => ?_⟩
    · obtain ⟨S', str', o', k1, k2⟩ := zbr_ok h7 hS' hq hd
      exact hb _ _ _ _ k1 r a ls _ k2
    · obtain ⟨S', str', o', k1, k2⟩ := zbr_ok h8 hS' (zneg_ok hq) hd
      exact hb _ _ _ _ k1 r a ls _ k2
  | 2 =>
    have h : xT2 (2, rel, b1, b2, tab) S str kb = some o := h
    obtain ⟨v, st1, h1, h2⟩ := zk_some h
    have htl : ∀ r', st = S.2.1.map (qden r') → qden r v = qden r' v ∧ st1.map (qden r) = st1.map (qden r') := fun r' e' => by
      have q := hS.now.2.1.symm.trans e'
      rw [h1, List.map_cons, List.map_cons] at q
      exact List.cons.inj q
    have hS' : Sat γ g (S_stk S st1) r a ls (st1.map (qden r)) s := hS.stk _ (fun r' e' => (htl r' e').2)
    cases e : Nat.beq v.1 0
    · rw [e, qB_f rfl] at h2
      obtain ⟨e3, h3⟩ := qB_y h2
      have e3' := Nat.eq_of_beq_eq_true e3
      obtain ⟨w1, h3⟩ := qB_y h3
      obtain ⟨w2, h3⟩ := qB_y h3
      rw [qF_eq] at h3
      obtain ⟨s3, h7, h8⟩ := zseq_some h3
      have hden : ∀ r', qden r' v = (0, cmpZ (qe r' v.2.1) (qe r' v.2.2)) := fun r' => by unfold qden; rw [if_pos e3']
      have hd : ∀ r' a', agr S.2.2.2 r r' a a' → SatC g (S_stk S st1) r' a' ls (st1.map (qden r)) s → qe r' (qA v.2.1 (-1) v.2.2) = qe r v.2.1 - qe r v.2.2 := fun r' a' hg _ => by
        rw [qA_ev, zwl_ok hg.1 w1, zwl_ok hg.1 w2]; omega
      refine ⟨cmpZ (qe r v.2.1) (qe r v.2.2), st1.map (qden r), by rw [hS.now.2.1, h1, List.map_cons, hden], cmp_in _ _, fun hq => ?_, fun hq => ?_⟩
      · obtain ⟨S', str', o', k1, k2⟩ := zbr_ok h7 hS' (rel_cmp.mp hq) hd
        exact hb _ _ _ _ k1 r a ls _ k2
      · obtain ⟨S', str', o', k1, k2⟩ := zbr_ok h8 hS' (zneg_ok (fun z => hq (rel_cmp.mpr z))) hd
        exact hb _ _ _ _ k1 r a ls _ k2
    · rw [e, qB_t rfl] at h2
      have e1 := Nat.eq_of_beq_eq_true e
      have hden : ∀ r', qden r' v = (0, qe r' v.2.1) := fun r' => by unfold qden; rw [if_neg (by omega), e1]
      obtain ⟨⟨s1, h5⟩, p1⟩ := zgl_some h2
      obtain ⟨s3, h7, h8⟩ := zseq_some h5
      have hd : ∀ r' a', agr S.2.2.2 r r' a a' → SatC g (S_stk S st1) r' a' ls (st1.map (qden r)) s → qe r' v.2.1 = qe r v.2.1 - 0 := fun r' a' hg _ => by
        have C := hS.2 r' a' hg
        have q := (htl r' C.2.1).1
        rw [hden, hden] at q
        have := (Prod.mk.inj q).2
        omega
      refine ⟨qe r v.2.1, st1.map (qden r), by rw [hS.now.2.1, h1, List.map_cons, hden], p1 g r a hS.now.2.2.2.2, fun hq => ?_, fun hq => ?_⟩
      · obtain ⟨S', str', o', k1, k2⟩ := zbr_ok h7 hS' hq hd
        exact hb _ _ _ _ k1 r a ls _ k2
      · obtain ⟨S', str', o', k1, k2⟩ := zbr_ok h8 hS' (zneg_ok hq) hd
        exact hb _ _ _ _ k1 r a ls _ k2
  | 3 =>
    have h : xT3 (3, rel, b1, b2, tab) S str kb = some o := h
    obtain ⟨x, st1, h3, h4⟩ := zt_some (by decide) h
    obtain ⟨⟨s1, h5⟩, p1⟩ := zgl_some h3
    obtain ⟨s3, h7, h8⟩ := zseq_some h5
    have hS' : Sat γ g (S_stk S st1) r a ls (st1.map (qden r)) s := hS.stk _ (fun r' e' => (hS.tail1 h4 e').2)
    refine ⟨qe r x, st1.map (qden r), by rw [hS.now.2.1, h4], p1 g r a hS.now.2.2.2.2, fun y hy hq => ?_, fun _ => hb _ _ _ _ h8 r a ls _ hS'⟩
    obtain ⟨s4, o4, h9⟩ := zsw_mem _ _ _ h7 y hy
    obtain ⟨S', str', o', k1, k2⟩ := zbr_ok (a := qe r x) (b := y.1) h9 hS' (show qe r x = y.1 from hq) (fun r' a' hg _ => by
      have C := hS.2 r' a' hg
      rw [qA_ev, qC_ev, ← (hS.tail1 h4 C.2.1).1]; omega)
    exact hb _ _ _ _ k1 r a ls _ k2
  | 4 =>
    obtain ⟨e, h1⟩ := qB_y h
    have hst : st = [] := by rw [hS.now.2.1, znil_t e]; rfl
    have := hr _ _ _ h1 r a ls st hS
    rw [hst] at this
    exact ⟨hst, this⟩
  | 5 =>
    have h : xT5 (5, rel, b1, b2, tab) S str kr = some o := h
    unfold xT5 at h
    cases e2 : Nat.beq rel 3
    · rw [show ((5, rel, b1, b2, tab) : qTm).2.1 = rel from rfl, e2, qB_f rfl] at h
      have ht := Nat.ne_of_beq_eq_false e2
      obtain ⟨f, st1, h3, h4⟩ := zt_some ht h
      obtain ⟨e1, h5⟩ := qB_y h3
      match tab, h5 with
      | [], h5 => cases h5
      | [_], h5 => cases h5
      | lo :: hi :: l2, h5 =>
        obtain ⟨e3, h6⟩ := qB_y (show qB (znil l2) (zgl S.2.2.2 0 lo.1 hi.1 f str (fun str => kr S str)) none = some o from h5)
        obtain ⟨⟨s1, h7⟩, p1⟩ := zgl_some h6
        have q := p1 g r a hS.now.2.2.2.2
        have hst : st = [(rel, qe r f)] := by rw [hS.now.2.1, h4, znil_t e1]; rfl
        refine ⟨qe r f, lo, hi, hst, by rw [znil_t e3], q.1, q.2, ?_⟩
        have := hr _ _ _ h7 r a ls st hS
        rw [hst] at this
        exact this
    · rw [show ((5, rel, b1, b2, tab) : qTm).2.1 = rel from rfl, e2, qB_t rfl] at h; cases h
  | n + 6 => cases h
end
