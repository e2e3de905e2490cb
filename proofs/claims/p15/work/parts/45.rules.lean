/-! A PLACE WRITTEN, where something is said of the array -/
/-- how a read misses the place written: 0 it lies ahead of all, 1 behind all, 2 (constant, number) apart by the coefficient, 3 (special place) it is only hit there -/
abbrev wCl : Type := Nat × (Nat × Nat)
def wBase (r : fRd) : fTm := r.2.2.2.1
/-- the premises of the reads of array k; ti: where the numbers of sort 2 begin, si: where the special places begin, sw: how far apart they are -/
def wPr (k x ti si sw : Nat) : List fRd → List wCl → List qSn
  | [], _ => []
  | r :: rs, cs => if r.1 = k then (match cs with
    | [] => [(9, [], [])]
    | c :: cs => (match c.1 with
      | 0 => [sp (r.2.2.1 - 1) ((0, r.2.1) :: (x, -1) :: r.2.2.2.1)]
      | 1 => [sp (r.2.1 - r.2.2.1 - 1) ((x, 1) :: (1, -r.2.1) :: ngT r.2.2.2.1)]
      | 2 => [sp (-r.2.2.1 - c.2.1) ((x, 1) :: (ti + c.2.2, -r.2.1) :: ngT r.2.2.2.1), sp (r.2.2.1 + c.2.1) ((x, -1) :: (ti + c.2.2, r.2.1) :: r.2.2.2.1)]
      | _ => [sp (-r.2.2.1) ((x, 1) :: (si + c.2.1 * sw, -r.2.1) :: ngT r.2.2.2.1), sp (r.2.2.1) ((x, -1) :: (si + c.2.1 * sw, r.2.1) :: r.2.2.2.1)]) ++ wPr k x ti si sw rs cs) else wPr k x ti si sw rs cs
/-- reads of array k have a positive coefficient, no earlier reads in their place; sort 2: 0 < constant < coefficient; sort 3: that special place is there -/
def wOk (k ns : Nat) : List fRd → List wCl → Bool
  | [], _ => true
  | r :: rs, cs => if r.1 = k then (match cs with
    | [] => false
    | c :: cs => decide (0 < r.2.1) && (r.2.2.2.2.isEmpty && ((match c.1 with
      | 0 => true
      | 1 => true
      | 2 => decide (0 < c.2.1 ∧ (c.2.1 : Int) < r.2.1)
      | _ => decide (c.2.1 < ns)) && wOk k ns rs cs))) else wOk k ns rs cs
/-- the special places: each with a sentence -/
def wSp (φ : fFm) (am : Nat → Nat) (si sw : Nat) : Nat → List Nat → List qSn
  | _, [] => []
  | i, l0 :: ls => (match φ.2.2[l0]? with
    | none => [(9, [], [])]
    | some l => rdP am idN (si + i * sw) (si + i * sw + 1) (si + i * sw + 1 + φ.2.1.length) 0 φ.2.1 ++ [lpS idN (si + i * sw) (si + i * sw + 1 + φ.2.1.length) l]) ++ wSp φ am si sw (i + 1) ls
def amW (k n : Nat) : Nat → Nat := fun a => if a = k then n else a
def rWr (p : Nat) (φ : fFm) (k : Nat) (cs : List wCl) (ls : List Nat) (nt : Nat) : qRl := if wOk k ls.length φ.2.1 cs = true ∧ k < φ.1.1 then
  (atm p φ idN idN :: (2, [φ.1.1, k, φ.1.2, φ.1.2 + 1], []) :: (wPr k φ.1.2 (φ.1.2 + 2) (φ.1.2 + 2 + nt) (1 + 2 * φ.2.1.length) φ.2.1 cs ++ wSp φ (amW k φ.1.1) (φ.1.2 + 2 + nt) (1 + 2 * φ.2.1.length) 0 ls), [atm p φ (amW k φ.1.1) idN]) else ([], [])
theorem no9 {fs : List (Int → Int)} {zs : List Int} {l : List Nat} {m : List Int} (h : SnOk fs zs (9, [], m)) (hl : l = []) : False := h
theorem wSp_ok {fs : List (Int → Int)} {zs : List Int} {φ : fFm} {am : Nat → Nat} {si sw : Nat} : ∀ (ls : List Nat) (i : Nat), (∀ x ∈ wSp φ am si sw i ls, SnOk fs zs x) → ∀ n, n < ls.length → ∃ l ∈ φ.2.2, (∀ x ∈ rdP am idN (si + (i + n) * sw) (si + (i + n) * sw + 1) (si + (i + n) * sw + 1 + φ.2.1.length) 0 φ.2.1, SnOk fs zs x) ∧ SnOk fs zs (lpS idN (si + (i + n) * sw) (si + (i + n) * sw + 1 + φ.2.1.length) l)
  | [], i, _, n, hn => by cases hn
  | l0 :: ls, i, h, n, hn => by
    obtain ⟨h1, h2⟩ := snApp (show ∀ x ∈ (match φ.2.2[l0]? with
      | none => [(9, [], [])]
      | some l => rdP am idN (si + i * sw) (si + i * sw + 1) (si + i * sw + 1 + φ.2.1.length) 0 φ.2.1 ++ [lpS idN (si + i * sw) (si + i * sw + 1 + φ.2.1.length) l]) ++ wSp φ am si sw (i + 1) ls, SnOk fs zs x from h)
    cases n with
    | zero =>
      cases e : φ.2.2[l0]? with
      | none =>
        rw [e] at h1
        exact (h1 (9, [], []) List.mem_cons_self).elim
      | some l =>
        rw [e] at h1
        obtain ⟨h3, h4⟩ := snApp h1
        exact ⟨l, List.mem_of_getElem? e, h3, h4 _ List.mem_cons_self⟩
    | succ n =>
      have hn' : n < ls.length := by
        have : n + 1 < ls.length + 1 := hn
        omega
      have q := wSp_ok ls (i + 1) h2 n hn'
      rw [show i + 1 + n = i + (n + 1) by omega] at q
      exact q
theorem mul_cancel_pos {c a b : Int} (hc : 0 < c) (h : c * a = c * b) : a = b := Int.eq_of_mul_eq_mul_left (by omega) h
theorem mul_apart {c a b d : Int} (h0 : 0 < d) (h1 : d < c) (h : c * a = c * b + d) : False := by
  have h2 : c * (a - b) = d := by rw [Int.mul_sub]; omega
  by_cases q : a - b ≤ 0
  · have := Int.mul_nonpos_of_nonneg_of_nonpos (show 0 ≤ c by omega) q
    omega
  · have : c * 1 ≤ c * (a - b) := Int.mul_le_mul_of_nonneg_left (by omega) (by omega)
    omega
/-- where j is no special place, the reads are as they were -/
theorem wPr_ok {fs : List (Int → Int)} {zs ZA : List Int} {FA FB : List (Int → Int)} {k x ti si sw nA nZ ns : Nat} (hx : ∀ i : Int, fF FB k i = if i = fZ zs x then fZ zs (x + 1) else fF FA k i) (hne : ∀ a, a < nA → a ≠ k → fF FB a = fF FA a) (hZ : ∀ i, i < nZ → fZ ZA i = nthZ zs i) (h2 : 2 ≤ nZ) {j : Int} (hj0 : fZ ZA 0 ≤ j) (hj1 : j < fZ ZA 1) (hs : ∀ n, n < ns → j ≠ nthZ zs (si + n * sw)) :
    ∀ (rs : List fRd) (cs : List wCl) (q : Nat) (xs : List Int), wfR nA nZ q rs = true → wOk k ns rs cs = true → (∀ y ∈ wPr k x ti si sw rs cs, SnOk fs zs y) → fXs FB ZA j rs xs = fXs FA ZA j rs xs
  | [], _, _, _, _, _, _ => rfl
  | r :: rs, cs, q, xs, hw, hk, h => by
    obtain ⟨w1, w2, w3, w4⟩ := wfR_ok hw
    show fXs FB ZA j rs (xs ++ [fF FB r.1 (fIx j ZA xs r)]) = fXs FA ZA j rs (xs ++ [fF FA r.1 (fIx j ZA xs r)])
    by_cases c : r.1 = k
    · cases cs with
      | nil =>
        exfalso
        have hk' : (if r.1 = k then false else wOk k ns rs []) = true := hk
        rw [if_pos c] at hk'; cases hk'
      | cons y cs =>
        have hk' : (if r.1 = k then (decide (0 < r.2.1) && (r.2.2.2.2.isEmpty && ((match y.1 with
          | 0 => true
          | 1 => true
          | 2 => decide (0 < y.2.1 ∧ (y.2.1 : Int) < r.2.1)
          | _ => decide (y.2.1 < ns)) && wOk k ns rs cs))) else wOk k ns rs (y :: cs)) = true := hk
        rw [if_pos c, Bool.and_eq_true, Bool.and_eq_true, Bool.and_eq_true] at hk'
        obtain ⟨k1, k2, k3, k4⟩ := hk'
        have k1 : 0 < r.2.1 := of_decide_eq_true k1
        have h' : ∀ z ∈ (if r.1 = k then ((match y.1 with
          | 0 => [sp (r.2.2.1 - 1) ((0, r.2.1) :: (x, -1) :: r.2.2.2.1)]
          | 1 => [sp (r.2.1 - r.2.2.1 - 1) ((x, 1) :: (1, -r.2.1) :: ngT r.2.2.2.1)]
          | 2 => [sp (-r.2.2.1 - y.2.1) ((x, 1) :: (ti + y.2.2, -r.2.1) :: ngT r.2.2.2.1), sp (r.2.2.1 + y.2.1) ((x, -1) :: (ti + y.2.2, r.2.1) :: r.2.2.2.1)]
          | _ => [sp (-r.2.2.1) ((x, 1) :: (si + y.2.1 * sw, -r.2.1) :: ngT r.2.2.2.1), sp (r.2.2.1) ((x, -1) :: (si + y.2.1 * sw, r.2.1) :: r.2.2.2.1)]) ++ wPr k x ti si sw rs cs) else wPr k x ti si sw rs (y :: cs)), SnOk fs zs z := h
        rw [if_pos c] at h'
        obtain ⟨h1, h3⟩ := snApp h'
        have hdr : r.2.2.2.2 = [] := List.isEmpty_iff.mp k2
        have eb : fS zs r.2.2.2.1 = fS ZA r.2.2.2.1 := by
          have := fS_mp (zs := zs) (zs' := ZA) (m := fun i => i) r.2.2.2.1 (fun z hz => hZ _ (w2 z hz).2)
          have e2 : mpT (fun i => i) r.2.2.2.1 = r.2.2.2.1 := by unfold mpT; exact List.map_id' _
          rw [e2] at this
          exact this
        have ei : fIx j ZA xs r = r.2.2.1 + r.2.1 * j + fS ZA r.2.2.2.1 := by
          unfold fIx
          rw [hdr]
          show _ + (0 : Int) = _
          omega
        have z0 := hZ 0 (by omega)
        have z1 := hZ 1 (by omega)
        have e0 : nthZ zs 0 = fZ zs 0 := rfl
        have e1 : nthZ zs 1 = fZ zs 1 := rfl
        have hix : fIx j ZA xs r ≠ fZ zs x := by
          intro e
          rw [ei] at e
          match hy : y.1, h1, k3 with
          | 0, h1, _ =>
            have p := sp_ok.mp (h1 _ List.mem_cons_self)
            have p' : 0 ≤ r.2.2.1 - 1 + (r.2.1 * fZ zs 0 + (-1 * fZ zs x + fS zs r.2.2.2.1)) := p
            have := Int.mul_le_mul_of_nonneg_left (show fZ zs 0 ≤ j by omega) (show 0 ≤ r.2.1 by omega)
            omega
          | 1, h1, _ =>
            have p := sp_ok.mp (h1 _ List.mem_cons_self)
            have p' : 0 ≤ r.2.1 - r.2.2.1 - 1 + (1 * fZ zs x + (-r.2.1 * fZ zs 1 + fS zs (ngT r.2.2.2.1))) := p
            rw [fS_ng, Int.neg_mul] at p'
            have q1 := Int.mul_le_mul_of_nonneg_left (show j ≤ fZ zs 1 - 1 by omega) (show 0 ≤ r.2.1 by omega)
            rw [Int.mul_sub, Int.mul_one] at q1
            omega
          | 2, h1, k3 =>
            have p := sp_ok.mp (h1 _ List.mem_cons_self)
            have p2 := sp_ok.mp (h1 _ (List.mem_cons_of_mem _ List.mem_cons_self))
            have p' : 0 ≤ -r.2.2.1 - y.2.1 + (1 * fZ zs x + (-r.2.1 * fZ zs (ti + y.2.2) + fS zs (ngT r.2.2.2.1))) := p
            have p2' : 0 ≤ r.2.2.1 + y.2.1 + (-1 * fZ zs x + (r.2.1 * fZ zs (ti + y.2.2) + fS zs r.2.2.2.1)) := p2
            rw [fS_ng, Int.neg_mul] at p'
            obtain ⟨d1, d2⟩ := of_decide_eq_true k3
            exact mul_apart (c := r.2.1) (a := j) (b := fZ zs (ti + y.2.2)) (d := (y.2.1 : Int)) (by omega) d2 (by omega)
          | n + 3, h1, k3 =>
            have p := sp_ok.mp (h1 _ List.mem_cons_self)
            have p2 := sp_ok.mp (h1 _ (List.mem_cons_of_mem _ List.mem_cons_self))
            have p' : 0 ≤ -r.2.2.1 + (1 * fZ zs x + (-r.2.1 * fZ zs (si + y.2.1 * sw) + fS zs (ngT r.2.2.2.1))) := p
            have p2' : 0 ≤ r.2.2.1 + (-1 * fZ zs x + (r.2.1 * fZ zs (si + y.2.1 * sw) + fS zs r.2.2.2.1)) := p2
            rw [fS_ng, Int.neg_mul] at p'
            have d := of_decide_eq_true k3
            exact hs _ d (mul_cancel_pos k1 (by show r.2.1 * j = r.2.1 * fZ zs (si + y.2.1 * sw); omega))
        have e9 : fF FB r.1 (fIx j ZA xs r) = fF FA r.1 (fIx j ZA xs r) := by
          rw [c, hx, if_neg hix]
        rw [e9]
        exact wPr_ok hx hne hZ h2 hj0 hj1 hs rs cs (q + 1) _ w4 k4 h3
    · have hk' : wOk k ns rs cs = true := by
        have e : wOk k ns (r :: rs) cs = wOk k ns rs cs := by
          show (if r.1 = k then _ else wOk k ns rs cs) = _
          rw [if_neg c]
        rw [e] at hk
        exact hk
      have h' : ∀ z ∈ wPr k x ti si sw rs cs, SnOk fs zs z := by
        have e : wPr k x ti si sw (r :: rs) cs = wPr k x ti si sw rs cs := by
          show (if r.1 = k then _ else wPr k x ti si sw rs cs) = _
          rw [if_neg c]
        rw [e] at h
        exact h
      rw [hne _ w1 c]
      exact wPr_ok hx hne hZ h2 hj0 hj1 hs rs cs (q + 1) _ w4 hk' h'
theorem rWr_ok {p : Nat} {φ : fFm} (hp : fTab[p]? = some φ) (hw : wfs φ) (k : Nat) (cs : List wCl) (ls : List Nat) (nt : Nat) : RlOk (rWr p φ k cs ls nt) := by
  intro fs zs h x hx
  unfold rWr at h hx
  by_cases hk : wOk k ls.length φ.2.1 cs = true ∧ k < φ.1.1
  · rw [if_pos hk] at h hx
    obtain ⟨h1, h⟩ := snAll h
    obtain ⟨h2, h⟩ := snAll h
    obtain ⟨h3, h4⟩ := snApp h
    have hx : x = atm p φ (amW k φ.1.1) idN := by
      rcases List.mem_cons.mp hx with hx | hx
      · exact hx
      · cases hx
    subst hx
    have h1' := (PQ_f hp _ _).mp (atm_ok.mp h1)
    have h2' : ∀ i : Int, nthF fs φ.1.1 i = if i = nthZ zs φ.1.2 then nthZ zs (φ.1.2 + 1) else nthF fs k i := h2
    refine atm_ok.mpr ((PQ_f hp _ _).mpr fun j hj1 hj2 => ?_)
    have hF : ∀ a, a < φ.1.1 → fF (((List.range φ.1.1).map (amW k φ.1.1)).map (nthF fs)) a = nthF fs (amW k φ.1.1 a) := fun a ha => fA_at ha
    have hF0 : ∀ a, a < φ.1.1 → fF (((List.range φ.1.1).map idN).map (nthF fs)) a = nthF fs a := fun a ha => fA_at ha
    have hZ : ∀ i, i < φ.1.2 → fZ (((List.range φ.1.2).map idN).map (nthZ zs)) i = nthZ zs i := fun i hi => fZ_at hi
    by_cases c : ∃ n, n < ls.length ∧ j = nthZ zs (φ.1.2 + 2 + nt + n * (1 + 2 * φ.2.1.length))
    · obtain ⟨n, hn, rfl⟩ := c
      obtain ⟨l, hl, q1, q2⟩ := wSp_ok ls 0 h4 n hn
      rw [Nat.zero_add] at q1 q2
      exact ⟨l, hl, (at_ok hw hF (fun i _ hi => hZ i hi) q1 hl).1.mp q2⟩
    · obtain ⟨l, hl, q⟩ := h1' j hj1 hj2
      refine ⟨l, hl, ?_⟩
      unfold fLv at q ⊢
      rw [wPr_ok (fs := fs) (zs := zs) (k := k) (x := φ.1.2) (ti := φ.1.2 + 2) (si := φ.1.2 + 2 + nt) (sw := 1 + 2 * φ.2.1.length) (nA := φ.1.1) (nZ := φ.1.2) (ns := ls.length) (FA := ((List.range φ.1.1).map idN).map (nthF fs)) (fun i => by
        rw [hF k hk.2, hF0 k hk.2]
        show nthF fs (if k = k then φ.1.1 else k) i = _
        rw [if_pos rfl]
        exact h2' i) (fun a ha hak => by
        rw [hF a ha, hF0 a ha]
        show nthF fs (if a = k then φ.1.1 else a) = _
        rw [if_neg hak]) hZ hw.1 hj1 hj2 (fun n hn e => c ⟨n, hn, e⟩) φ.2.1 cs 0 [] hw.2.1 hk.1 h3]
      exact q
  · rw [if_neg hk] at hx; cases hx
/-- rules by their data: kind, formula, sentence or array; sorts of misses; sentences of special places, numbers of sort 2 -/
abbrev fSp : Type := Nat × (Nat × (Nat × (List wCl × (List Nat × Nat))))
def fMk (s : fSp) : Option qRl := if s.1 = 0 then some rCong else match fTab[s.2.1]? with
  | none => none
  | some φ => if wfF φ = true then (match s.1 with
    | 1 => some (rInst s.2.1 φ s.2.2.1)
    | 2 => some (rEmpty s.2.1 φ)
    | 3 => some (rExt s.2.1 φ s.2.2.1)
    | 4 => some (rLow s.2.1 φ s.2.2.1)
    | 5 => some (rWeak s.2.1 φ)
    | 6 => some (rWr s.2.1 φ s.2.2.1 s.2.2.2.1 s.2.2.2.2.1 s.2.2.2.2.2)
    | _ => none) else none
theorem fMk_ok {s : fSp} {R : qRl} (h : fMk s = some R) : RlOk R := by
  unfold fMk at h
  by_cases h0 : s.1 = 0
  · rw [if_pos h0] at h; cases h; exact rCong_ok
  · rw [if_neg h0] at h
    cases e : fTab[s.2.1]? with
    | none => rw [e] at h; cases h
    | some φ =>
      rw [e] at h
      have h : (if wfF φ = true then (match s.1 with
        | 1 => some (rInst s.2.1 φ s.2.2.1)
        | 2 => some (rEmpty s.2.1 φ)
        | 3 => some (rExt s.2.1 φ s.2.2.1)
        | 4 => some (rLow s.2.1 φ s.2.2.1)
        | 5 => some (rWeak s.2.1 φ)
        | 6 => some (rWr s.2.1 φ s.2.2.1 s.2.2.2.1 s.2.2.2.2.1 s.2.2.2.2.2)
        | _ => none) else none) = some R := h
      by_cases hw : wfF φ = true
      · rw [if_pos hw] at h
        have w := wfF_ok hw
        split at h
        · cases h; exact rInst_ok e w _
        · cases h; exact rEmpty_ok e w
        · cases h; exact rExt_ok e w _
        · cases h; exact rLow_ok e w _
        · cases h; exact rWeak_ok e w
        · cases h; exact rWr_ok e w _ _ _ _
        · cases h
      · rw [if_neg hw] at h; cases h
