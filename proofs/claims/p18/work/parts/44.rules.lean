/-! THE RULES THEMSELVES -/
theorem PQ_f {p : Nat} {φ : fFm} (hp : fTab[p]? = some φ) (fs : List (Int → Int)) (zs : List Int) : PQ p fs zs ↔ fOk φ fs zs := by
  unfold PQ
  rw [hp]
def wfs (φ : fFm) : Prop := 2 ≤ φ.1.2 ∧ wfR φ.1.1 φ.1.2 0 φ.2.1 = true ∧ ∀ l ∈ φ.2.2, (∀ x ∈ l.2.2.1, 2 ≤ x.1 ∧ x.1 < φ.1.2) ∧ ∀ x ∈ l.2.2.2, x.1 < φ.2.1.length
theorem wfF_ok {φ : fFm} (h : wfF φ = true) : wfs φ := by
  unfold wfF at h
  rw [Bool.and_eq_true, Bool.and_eq_true, List.all_eq_true] at h
  refine ⟨of_decide_eq_true h.1, h.2.1, fun l hl => ?_⟩
  have q := h.2.2 l hl
  rw [Bool.and_eq_true] at q
  exact ⟨wfZ_ok q.1, wfT_ok q.2⟩
theorem snAll {fs : List (Int → Int)} {zs : List Int} {l : List qSn} {x : qSn} (h : ∀ y ∈ x :: l, SnOk fs zs y) : SnOk fs zs x ∧ ∀ y ∈ l, SnOk fs zs y := ⟨h _ List.mem_cons_self, fun y hy => h y (List.mem_cons_of_mem _ hy)⟩
theorem snApp {fs : List (Int → Int)} {zs : List Int} {l m : List qSn} (h : ∀ y ∈ l ++ m, SnOk fs zs y) : (∀ y ∈ l, SnOk fs zs y) ∧ ∀ y ∈ m, SnOk fs zs y := ⟨fun y hy => h y (List.mem_append_left _ hy), fun y hy => h y (List.mem_append_right _ hy)⟩
theorem sp2 {fs : List (Int → Int)} {zs : List Int} {c x y : Int} {a b : Nat} : SnOk fs zs (sp c [(a, x), (b, y)]) ↔ 0 ≤ c + (x * nthZ zs a + (y * nthZ zs b + 0)) := sp_ok
section
variable {p : Nat} {φ : fFm}
/-- what the reads and a sentence at number jz say -/
theorem at_ok {fs : List (Int → Int)} {zs : List Int} (hw : wfs φ) {FA : List (Int → Int)} {ZA : List Int} {am zi : Nat → Nat} {jz iz xz : Nat} (hF : ∀ a, a < φ.1.1 → fF FA a = nthF fs (am a)) (hZ : ∀ i, 2 ≤ i → i < φ.1.2 → fZ ZA i = nthZ zs (zi i)) (hr : ∀ x ∈ rdP am zi jz iz xz 0 φ.2.1, SnOk fs zs x) {l : fLt} (hl : l ∈ φ.2.2) :
    (SnOk fs zs (lpS zi jz xz l) ↔ 0 ≤ fLv (nthZ zs jz) ZA (fXs FA ZA (nthZ zs jz) φ.2.1 []) l) ∧ (SnOk fs zs (lnS zi jz xz l) → fLv (nthZ zs jz) ZA (fXs FA ZA (nthZ zs jz) φ.2.1 []) l < 0) := by
  obtain ⟨q1, q2⟩ := rdP_ok hF hZ φ.2.1 0 [] hw.2.1 rfl (fun i hi => by omega) hr
  rw [Nat.zero_add] at q2
  obtain ⟨w1, w2⟩ := hw.2.2 l hl
  exact ⟨lpS_ok hZ q2 w1 w2, lnS_ok hZ q2 w1 w2⟩
def idN : Nat → Nat := fun i => i
/-- an instance at a place: sentence l0, the others being so no more -/
def rInst (p : Nat) (φ : fFm) (l0 : Nat) : qRl := match φ.2.2[l0]? with
  | none => ([], [])
  | some l => (atm p φ idN idN :: sp 0 [(φ.1.2, 1), (0, -1)] :: sp (-1) [(1, 1), (φ.1.2, -1)] :: (rdP idN idN φ.1.2 (φ.1.2 + 1) (φ.1.2 + 1 + φ.2.1.length) 0 φ.2.1 ++ (φ.2.2.eraseIdx l0).map (lnS idN φ.1.2 (φ.1.2 + 1 + φ.2.1.length))), [lpS idN φ.1.2 (φ.1.2 + 1 + φ.2.1.length) l])
theorem rInst_ok (hp : fTab[p]? = some φ) (hw : wfs φ) (l0 : Nat) : RlOk (rInst p φ l0) := by
  intro fs zs h x hx
  unfold rInst at h hx
  cases e : φ.2.2[l0]? with
  | none => rw [e] at hx; cases hx
  | some l =>
    rw [e] at h hx
    obtain ⟨h1, h⟩ := snAll h
    obtain ⟨h2, h⟩ := snAll h
    obtain ⟨h3, h⟩ := snAll h
    obtain ⟨h4, h5⟩ := snApp h
    have hx : x = lpS idN φ.1.2 (φ.1.2 + 1 + φ.2.1.length) l := by
      rcases List.mem_cons.mp hx with hx | hx
      · exact hx
      · cases hx
    subst hx
    have hF : ∀ a, a < φ.1.1 → fF (((List.range φ.1.1).map idN).map (nthF fs)) a = nthF fs (idN a) := fun a ha => fA_at ha
    have hZ : ∀ i, 2 ≤ i → i < φ.1.2 → fZ (((List.range φ.1.2).map idN).map (nthZ zs)) i = nthZ zs (idN i) := fun i _ hi => fZ_at hi
    have hl : l ∈ φ.2.2 := List.mem_of_getElem? e
    rw [(at_ok hw hF hZ h4 hl).1]
    have h1' := (PQ_f hp _ _).mp (atm_ok.mp h1)
    have h2' := sp2.mp h2
    have h3' := sp2.mp h3
    obtain ⟨m, hm, hm2⟩ := h1' (nthZ zs φ.1.2) (by rw [fZ_at (by have := hw.1; omega)]; show nthZ zs 0 ≤ _; omega) (by rw [fZ_at (by have := hw.1; omega)]; show _ < nthZ zs 1; omega)
    obtain ⟨i, hi⟩ := List.getElem?_of_mem hm
    by_cases c : i = l0
    · subst c
      rw [hi] at e
      cases e
      exact hm2
    · exfalso
      have hi' : m ∈ φ.2.2.eraseIdx l0 := by
        rcases Nat.lt_or_ge i l0 with c2 | c2
        · exact List.mem_of_getElem? (i := i) (by rw [List.getElem?_eraseIdx_of_lt c2]; exact hi)
        · exact List.mem_of_getElem? (i := i - 1) (by rw [List.getElem?_eraseIdx_of_ge (by omega), show i - 1 + 1 = i by omega]; exact hi)
      have q := (at_ok hw hF hZ h4 hm).2 (h5 _ (List.mem_map.mpr ⟨m, hi', rfl⟩))
      omega
/-- nothing is between number 0 and number 1 -/
def rEmpty (p : Nat) (φ : fFm) : qRl := ([sp 0 [(0, 1), (1, -1)]], [atm p φ idN idN])
theorem rEmpty_ok (hp : fTab[p]? = some φ) (hw : wfs φ) : RlOk (rEmpty p φ) := by
  intro fs zs h x hx
  have h1 := sp2.mp (h _ List.mem_cons_self)
  rcases List.mem_cons.mp hx with rfl | hx
  · refine atm_ok.mpr ((PQ_f hp _ _).mpr fun j hj1 hj2 => ?_)
    rw [fZ_at (by have := hw.1; omega)] at hj1 hj2
    have hj1 : nthZ zs 0 ≤ j := hj1
    have hj2 : j < nthZ zs 1 := hj2
    omega
  · cases hx
/-- numbers 0, 1 apart, formulas don't hang on the first two -/
theorem at_ext (hw : wfs φ) {FA : List (Int → Int)} {Z1 Z2 : List Int} (hZ : ∀ i, 2 ≤ i → i < φ.1.2 → fZ Z1 i = fZ Z2 i) {j : Int} (h : fAt φ FA Z1 j) : fAt φ FA Z2 j := by
  have hS : ∀ l : fTm, (∀ x ∈ l, 2 ≤ x.1 ∧ x.1 < φ.1.2) → fS Z1 l = fS Z2 l := by
    intro l
    induction l with
    | nil => intro _; rfl
    | cons x l ih =>
      intro hl
      show x.2 * fZ Z1 x.1 + fS Z1 l = x.2 * fZ Z2 x.1 + fS Z2 l
      rw [hZ _ (hl x List.mem_cons_self).1 (hl x List.mem_cons_self).2, ih (fun y hy => hl y (List.mem_cons_of_mem _ hy))]
  have hX : ∀ (rs : List fRd) (k : Nat) (xs : List Int), wfR φ.1.1 φ.1.2 k rs = true → fXs FA Z1 j rs xs = fXs FA Z2 j rs xs := by
    intro rs
    induction rs with
    | nil => intro k xs _; rfl
    | cons r rs ih =>
      intro k xs hr
      obtain ⟨w1, w2, w3, w4⟩ := wfR_ok hr
      show fXs FA Z1 j rs (xs ++ [fF FA r.1 (fIx j Z1 xs r)]) = fXs FA Z2 j rs (xs ++ [fF FA r.1 (fIx j Z2 xs r)])
      have e : fIx j Z1 xs r = fIx j Z2 xs r := by unfold fIx; rw [hS _ w2]
      rw [e]
      exact ih (k + 1) _ w4
  obtain ⟨l, hl, h2⟩ := h
  refine ⟨l, hl, ?_⟩
  unfold fLv at h2 ⊢
  rw [← hX _ 0 [] hw.2.1, ← hS _ (hw.2.2 l hl).1]
  exact h2
/-- one place more at the end, at the beginning -/
def rExt (p : Nat) (φ : fFm) (l0 : Nat) : qRl := match φ.2.2[l0]? with
  | none => ([], [])
  | some l => (atm p φ idN idN :: sp 0 [(φ.1.2, 1), (1, -1)] :: sp 0 [(1, 1), (φ.1.2, -1)] :: sp (-1) [(φ.1.2 + 1 + 2 * φ.2.1.length, 1), (1, -1)] :: sp 1 [(1, 1), (φ.1.2 + 1 + 2 * φ.2.1.length, -1)] :: (rdP idN idN φ.1.2 (φ.1.2 + 1) (φ.1.2 + 1 + φ.2.1.length) 0 φ.2.1 ++ [lpS idN φ.1.2 (φ.1.2 + 1 + φ.2.1.length) l]),
    [atm p φ idN (fun i => if i = 1 then φ.1.2 + 1 + 2 * φ.2.1.length else i)])
theorem rExt_ok (hp : fTab[p]? = some φ) (hw : wfs φ) (l0 : Nat) : RlOk (rExt p φ l0) := by
  intro fs zs h x hx
  unfold rExt at h hx
  cases e : φ.2.2[l0]? with
  | none => rw [e] at hx; cases hx
  | some l =>
    rw [e] at h hx
    obtain ⟨h1, h⟩ := snAll h
    obtain ⟨h2, h⟩ := snAll h
    obtain ⟨h3, h⟩ := snAll h
    obtain ⟨h6, h⟩ := snAll h
    obtain ⟨h7, h⟩ := snAll h
    obtain ⟨h4, h5⟩ := snApp h
    have hx : x = atm p φ idN (fun i => if i = 1 then φ.1.2 + 1 + 2 * φ.2.1.length else i) := by
      rcases List.mem_cons.mp hx with hx | hx
      · exact hx
      · cases hx
    subst hx
    have hF : ∀ a, a < φ.1.1 → fF (((List.range φ.1.1).map idN).map (nthF fs)) a = nthF fs (idN a) := fun a ha => fA_at ha
    have hZ : ∀ i, 2 ≤ i → i < φ.1.2 → fZ (((List.range φ.1.2).map idN).map (nthZ zs)) i = nthZ zs (idN i) := fun i _ hi => fZ_at hi
    have hl : l ∈ φ.2.2 := List.mem_of_getElem? e
    have q5 := (at_ok hw hF hZ h4 hl).1.mp (h5 _ List.mem_cons_self)
    have h1' := (PQ_f hp _ _).mp (atm_ok.mp h1)
    have h2' := sp2.mp h2
    have h3' := sp2.mp h3
    have h6' := sp2.mp h6
    have h7' := sp2.mp h7
    refine atm_ok.mpr ((PQ_f hp _ _).mpr fun j hj1 hj2 => ?_)
    rw [fZ_at (by have := hw.1; omega)] at hj1 hj2
    have hj1 : nthZ zs 0 ≤ j := hj1
    have hj2 : j < nthZ zs (φ.1.2 + 1 + 2 * φ.2.1.length) := hj2
    have hZZ : ∀ i, 2 ≤ i → i < φ.1.2 → fZ (((List.range φ.1.2).map idN).map (nthZ zs)) i = fZ (((List.range φ.1.2).map (fun i => if i = 1 then φ.1.2 + 1 + 2 * φ.2.1.length else i)).map (nthZ zs)) i := fun i hi1 hi2 => by
      rw [fZ_at hi2, fZ_at hi2, if_neg (by omega)]; rfl
    by_cases c : j < nthZ zs 1
    · exact at_ext hw hZZ (h1' j (by rw [fZ_at (by have := hw.1; omega)]; exact hj1) (by rw [fZ_at (by have := hw.1; omega)]; exact c))
    · have ej : j = nthZ zs φ.1.2 := by omega
      subst ej
      exact at_ext hw hZZ ⟨l, hl, q5⟩
def rLow (p : Nat) (φ : fFm) (l0 : Nat) : qRl := match φ.2.2[l0]? with
  | none => ([], [])
  | some l => (atm p φ idN idN :: sp 1 [(φ.1.2, 1), (0, -1)] :: sp (-1) [(0, 1), (φ.1.2, -1)] :: (rdP idN idN φ.1.2 (φ.1.2 + 1) (φ.1.2 + 1 + φ.2.1.length) 0 φ.2.1 ++ [lpS idN φ.1.2 (φ.1.2 + 1 + φ.2.1.length) l]),
    [atm p φ idN (fun i => if i = 0 then φ.1.2 else i)])
theorem rLow_ok (hp : fTab[p]? = some φ) (hw : wfs φ) (l0 : Nat) : RlOk (rLow p φ l0) := by
  intro fs zs h x hx
  unfold rLow at h hx
  cases e : φ.2.2[l0]? with
  | none => rw [e] at hx; cases hx
  | some l =>
    rw [e] at h hx
    obtain ⟨h1, h⟩ := snAll h
    obtain ⟨h2, h⟩ := snAll h
    obtain ⟨h3, h⟩ := snAll h
    obtain ⟨h4, h5⟩ := snApp h
    have hx : x = atm p φ idN (fun i => if i = 0 then φ.1.2 else i) := by
      rcases List.mem_cons.mp hx with hx | hx
      · exact hx
      · cases hx
    subst hx
    have hF : ∀ a, a < φ.1.1 → fF (((List.range φ.1.1).map idN).map (nthF fs)) a = nthF fs (idN a) := fun a ha => fA_at ha
    have hZ : ∀ i, 2 ≤ i → i < φ.1.2 → fZ (((List.range φ.1.2).map idN).map (nthZ zs)) i = nthZ zs (idN i) := fun i _ hi => fZ_at hi
    have hl : l ∈ φ.2.2 := List.mem_of_getElem? e
    have q5 := (at_ok hw hF hZ h4 hl).1.mp (h5 _ List.mem_cons_self)
    have h1' := (PQ_f hp _ _).mp (atm_ok.mp h1)
    have h2' := sp2.mp h2
    have h3' := sp2.mp h3
    refine atm_ok.mpr ((PQ_f hp _ _).mpr fun j hj1 hj2 => ?_)
    rw [fZ_at (by have := hw.1; omega)] at hj1 hj2
    have hj1 : nthZ zs φ.1.2 ≤ j := hj1
    have hj2 : j < nthZ zs 1 := hj2
    have hZZ : ∀ i, 2 ≤ i → i < φ.1.2 → fZ (((List.range φ.1.2).map idN).map (nthZ zs)) i = fZ (((List.range φ.1.2).map (fun i => if i = 0 then φ.1.2 else i)).map (nthZ zs)) i := fun i hi1 hi2 => by
      rw [fZ_at hi2, fZ_at hi2, if_neg (by omega)]; rfl
    by_cases c : nthZ zs 0 ≤ j
    · exact at_ext hw hZZ (h1' j (by rw [fZ_at (by have := hw.1; omega)]; exact c) (by rw [fZ_at (by have := hw.1; omega)]; exact hj2))
    · have ej : j = nthZ zs φ.1.2 := by omega
      subst ej
      exact at_ext hw hZZ ⟨l, hl, q5⟩
/-- other numbers, for which less is said -/
def dfT (n : Nat) (l : fTm) : fTm := mpT (fun i => n + i) l ++ ngT l
def rWeak (p : Nat) (φ : fFm) : qRl := (atm p φ idN idN :: sp 0 [(φ.1.2, 1), (0, -1)] :: sp 0 [(1, 1), (φ.1.2 + 1, -1)] :: (φ.2.2.map (fun l => sp 0 (dfT φ.1.2 l.2.2.1)) ++ φ.2.1.flatMap (fun r => [sp 0 (dfT φ.1.2 r.2.2.2.1), sp 0 (ngT (dfT φ.1.2 r.2.2.2.1))])), [atm p φ idN (fun i => φ.1.2 + i)])
theorem dfT_ev {zs Z1 Z2 : List Int} {n : Nat} {l : fTm} (h1 : ∀ x ∈ l, fZ Z1 x.1 = nthZ zs x.1) (h2 : ∀ x ∈ l, fZ Z2 x.1 = nthZ zs (n + x.1)) : fS zs (dfT n l) = fS Z2 l - fS Z1 l := by
  unfold dfT
  rw [fS_app, fS_ng, fS_mp (zs' := Z2) l h2]
  have e : fS zs l = fS Z1 l := by
    have := fS_mp (zs := zs) (zs' := Z1) (m := fun i => i) l h1
    have e2 : mpT (fun i => i) l = l := by unfold mpT; exact List.map_id' l
    rw [e2] at this
    exact this
  omega
theorem rWeak_ok (hp : fTab[p]? = some φ) (hw : wfs φ) : RlOk (rWeak p φ) := by
  intro fs zs h x hx
  unfold rWeak at h hx
  obtain ⟨h1, h⟩ := snAll h
  obtain ⟨h2, h⟩ := snAll h
  obtain ⟨h3, h⟩ := snAll h
  obtain ⟨h4, h5⟩ := snApp h
  have hx : x = atm p φ idN (fun i => φ.1.2 + i) := by
    rcases List.mem_cons.mp hx with hx | hx
    · exact hx
    · cases hx
  subst hx
  have h1' := (PQ_f hp _ _).mp (atm_ok.mp h1)
  have h2' := sp2.mp h2
  have h3' := sp2.mp h3
  generalize hZ1 : ((List.range φ.1.2).map idN).map (nthZ zs) = Z1 at h1'
  refine atm_ok.mpr ((PQ_f hp _ _).mpr ?_)
  generalize hZ2 : ((List.range φ.1.2).map (fun i => φ.1.2 + i)).map (nthZ zs) = Z2
  have z1 : ∀ i, i < φ.1.2 → fZ Z1 i = nthZ zs i := fun i hi => by rw [← hZ1, fZ_at hi]; rfl
  have z2 : ∀ i, i < φ.1.2 → fZ Z2 i = nthZ zs (φ.1.2 + i) := fun i hi => by rw [← hZ2, fZ_at hi]
  intro j hj1 hj2
  have w0 := hw.1
  rw [z2 0 (by omega)] at hj1
  rw [z2 1 (by omega)] at hj2
  have hj1 : nthZ zs (φ.1.2 + 0) ≤ j := hj1
  rw [Nat.add_zero] at hj1
  obtain ⟨l, hl, q⟩ := h1' j (by rw [z1 0 (by omega)]; omega) (by rw [z1 1 (by omega)]; omega)
  refine ⟨l, hl, ?_⟩
  have hX : ∀ (rs : List fRd) (k : Nat) (xs : List Int), wfR φ.1.1 φ.1.2 k rs = true → (∀ r ∈ rs, fS Z2 r.2.2.2.1 = fS Z1 r.2.2.2.1) → fXs (((List.range φ.1.1).map idN).map (nthF fs)) Z2 j rs xs = fXs (((List.range φ.1.1).map idN).map (nthF fs)) Z1 j rs xs := by
    intro rs
    induction rs with
    | nil => intro k xs _ _; rfl
    | cons r rs ih =>
      intro k xs hr he
      obtain ⟨v1, v2, v3, v4⟩ := wfR_ok hr
      show fXs _ Z2 j rs (xs ++ [fF _ r.1 (fIx j Z2 xs r)]) = fXs _ Z1 j rs (xs ++ [fF _ r.1 (fIx j Z1 xs r)])
      have e : fIx j Z2 xs r = fIx j Z1 xs r := by unfold fIx; rw [he r List.mem_cons_self]
      rw [e]
      exact ih (k + 1) _ v4 (fun y hy => he y (List.mem_cons_of_mem _ hy))
  have hin : ∀ (rs : List fRd) (k : Nat), wfR φ.1.1 φ.1.2 k rs = true → ∀ r ∈ rs, ∀ x ∈ r.2.2.2.1, 2 ≤ x.1 ∧ x.1 < φ.1.2 := by
    intro rs
    induction rs with
    | nil => intro k _ r hr; cases hr
    | cons r rs ih =>
      intro k hr y hy
      obtain ⟨v1, v2, v3, v4⟩ := wfR_ok hr
      rcases List.mem_cons.mp hy with rfl | hy
      · exact v2
      · exact ih (k + 1) v4 y hy
  have hre : ∀ r ∈ φ.2.1, fS Z2 r.2.2.2.1 = fS Z1 r.2.2.2.1 := fun r hr => by
    have w := hin φ.2.1 0 hw.2.1 r hr
    have p1 := sp_ok.mp (h5 _ (List.mem_flatMap.mpr ⟨r, hr, List.mem_cons_self⟩))
    have p2 := sp_ok.mp (h5 _ (List.mem_flatMap.mpr ⟨r, hr, List.mem_cons_of_mem _ List.mem_cons_self⟩))
    rw [fS_ng] at p2
    rw [dfT_ev (Z1 := Z1) (Z2 := Z2) (fun x hx => z1 _ (w x hx).2) (fun x hx => z2 _ (w x hx).2)] at p1 p2
    omega
  have p3 := sp_ok.mp (h4 _ (List.mem_map.mpr ⟨l, hl, rfl⟩))
  have wl := (hw.2.2 l hl).1
  rw [dfT_ev (Z1 := Z1) (Z2 := Z2) (fun x hx => z1 _ (wl x hx).2) (fun x hx => z2 _ (wl x hx).2)] at p3
  unfold fLv at q ⊢
  rw [hX φ.2.1 0 [] hw.2.1 hre]
  omega
end
/-- two places that are one hold one thing -/
def rCong : qRl := ([(1, [0, 0, 2], []), (1, [0, 1, 3], []), sp 0 [(0, 1), (1, -1)], sp 0 [(0, -1), (1, 1)]], [sp 0 [(2, 1), (3, -1)], sp 0 [(2, -1), (3, 1)]])
theorem rCong_ok : RlOk rCong := by
  intro fs zs h x hx
  have h1 : nthF fs 0 (nthZ zs 0) = nthZ zs 2 := h _ List.mem_cons_self
  have h2 : nthF fs 0 (nthZ zs 1) = nthZ zs 3 := h _ (List.mem_cons_of_mem _ List.mem_cons_self)
  have h3 := sp2.mp (h _ (List.mem_cons_of_mem _ (List.mem_cons_of_mem _ List.mem_cons_self)))
  have h4 := sp2.mp (h _ (List.mem_cons_of_mem _ (List.mem_cons_of_mem _ (List.mem_cons_of_mem _ List.mem_cons_self))))
  have e : nthZ zs 0 = nthZ zs 1 := by omega
  rw [e] at h1
  have e2 : nthZ zs 2 = nthZ zs 3 := h1.symm.trans h2
  rcases List.mem_cons.mp hx with rfl | hx
  · exact sp2.mpr (by omega)
  · rcases List.mem_cons.mp hx with rfl | hx
    · exact sp2.mpr (by omega)
    · cases hx
