/-! A METHOD CHECKED AGAINST ITS CONTRACT -/
/-- cutpoints: block, template, three measures -/
abbrev qCu : Type := List (Nat × (qS × (qL × (qL × qL))))
noncomputable def xBl (g : qG) (md : List Nat) (cts : List qCt) (rI rJ : qRt) (rL : Nat → Option qRl) (ds : List qD) (T : qKk) : qKk := List.rec (motive := fun _ => qKk) T (fun d _ ih S str => xI g md cts rI rJ rL d S str ih) ds
section
variable {γ : qGh}
theorem xBl_ok {g : qG} (hg : gTags g) {md : List Nat} {se : qSg} {cts : List qCt} {rI rJ : qRt} {rL : Nat → Option qRl} (hI : RtI rI) (hJ : RtJ rJ) (hL : ∀ n R, rL n = some R → RlOk R) {T : qKk} {Q : qP} (hk : ∀ (S' : qS) (str' o' : List Nat), T S' str' = some o' → ∀ r a ls st s, qJ g md se s → Sat γ g S' r a ls st s → Q ls st s) :
    ∀ (ds : List qD) (S : qS) (str o : List Nat), xBl g md cts rI rJ rL ds T S str = some o → ∀ r a ls st s, qJ g md se s → Sat γ g S r a ls st s → wBl g cts ds Q ls st s
  | [], S, str, o, h => hk S str o h
  | d :: ds, S, str, o, h => xI_ok hg hI hJ hL (show xI g md cts rI rJ rL d S str (xBl g md cts rI rJ rL ds T) = some o from h) (fun S' str' o' h' => xBl_ok hg hI hJ hL hk ds S' str' o' h')
end
/-- the measures are less, by place j -/
noncomputable def zlex (K : qK) (m0 : Option (qL × (qL × qL))) (f1 f2 f3 : qL) (str : List Nat) (k : List Nat → qR) : qR := Option.rec (k str) (fun m => zp str (fun j str => Nat.rec (motive := fun _ => qR) (zg K (qA (qA m.1 (-1) f1) 1 (qC (-1))) str k) (fun j _ => zg K (qA m.1 (-1) f1) str (fun str =>
  Nat.rec (motive := fun _ => qR) (zg K (qA (qA m.2.1 (-1) f2) 1 (qC (-1))) str k) (fun _ _ => zg K (qA m.2.1 (-1) f2) str (fun str => zg K (qA (qA m.2.2 (-1) f3) 1 (qC (-1))) str k)) j)) j)) m0
def lexLt (x1 x2 x3 y1 y2 y3 : Int) : Prop := x1 < y1 ∨ (x1 ≤ y1 ∧ (x2 < y2 ∨ (x2 ≤ y2 ∧ x3 < y3)))
def lexOk (m0 : Option (qL × (qL × qL))) (r : qW) (x1 x2 x3 : Int) : Prop := ∀ m, m0 = some m → lexLt x1 x2 x3 (qe r m.1) (qe r m.2.1) (qe r m.2.2)
theorem zlex_some {K : qK} {m0 : Option (qL × (qL × qL))} {f1 f2 f3 : qL} {str : List Nat} {k : List Nat → qR} {o : List Nat} (h : zlex K m0 f1 f2 f3 str k = some o) : (∃ s', k s' = some o) ∧ ∀ (g : qG) (r : qW) (a : qX), KnC g K r a → lexOk m0 r (qe r f1) (qe r f2) (qe r f3) := by
  cases m0 with
  | none => exact ⟨⟨str, h⟩, fun g r a C m e => by cases e⟩
  | some m =>
    obtain ⟨j, s1, h1⟩ := zp_some (show zp str (fun j str => Nat.rec (motive := fun _ => qR) (zg K (qA (qA m.1 (-1) f1) 1 (qC (-1))) str k) (fun j _ => zg K (qA m.1 (-1) f1) str (fun str => Nat.rec (motive := fun _ => qR) (zg K (qA (qA m.2.1 (-1) f2) 1 (qC (-1))) str k) (fun _ _ => zg K (qA m.2.1 (-1) f2) str (fun str => zg K (qA (qA m.2.2 (-1) f3) 1 (qC (-1))) str k)) j)) j) = some o from h)
    match j with
    | 0 =>
      obtain ⟨h2, p⟩ := zg_some h1
      refine ⟨h2, fun g r a C n e => ?_⟩
      cases e
      have := p g r a C
      rw [qA_ev, qA_ev, qC_ev] at this
      exact Or.inl (by omega)
    | 1 =>
      obtain ⟨⟨s2, h2⟩, p⟩ := zg_some (show zg K (qA m.1 (-1) f1) s1 (fun str => zg K (qA (qA m.2.1 (-1) f2) 1 (qC (-1))) str k) = some o from h1)
      obtain ⟨h3, p2⟩ := zg_some h2
      refine ⟨h3, fun g r a C n e => ?_⟩
      cases e
      have q1 := p g r a C
      have q2 := p2 g r a C
      rw [qA_ev] at q1
      rw [qA_ev, qA_ev, qC_ev] at q2
      exact Or.inr ⟨by omega, Or.inl (by omega)⟩
    | j + 2 =>
      obtain ⟨⟨s2, h2⟩, p⟩ := zg_some (show zg K (qA m.1 (-1) f1) s1 (fun str => zg K (qA m.2.1 (-1) f2) str (fun str => zg K (qA (qA m.2.2 (-1) f3) 1 (qC (-1))) str k)) = some o from h1)
      obtain ⟨⟨s3, h3⟩, p2⟩ := zg_some h2
      obtain ⟨h4, p3⟩ := zg_some h3
      refine ⟨h4, fun g r a C n e => ?_⟩
      cases e
      have q1 := p g r a C
      have q2 := p2 g r a C
      have q3 := p3 g r a C
      rw [qA_ev] at q1 q2
      rw [qA_ev, qA_ev, qC_ev] at q3
      exact Or.inr ⟨by omega, Or.inr ⟨by omega, by omega⟩⟩
/-- a cutpoint is reached: m, mv: unknowns and versions of the method's start -/
noncomputable def zcut (m mv : Nat) (m0 : Option (qL × (qL × qL))) (T : qS × (qL × (qL × qL))) (S : qS) (str : List Nat) : qR := qB (zwf T.1) (qFl (zthe m T.1 S) (fun th => zarr th (zeta mv T.1 S) T.1 S str (fun str => Option.rec none (fun f1 => Option.rec none (fun f2 => Option.rec none (fun f3 => zg S.2.2.2 f1 str (fun str => zg S.2.2.2 f2 str (fun str => zg S.2.2.2 f3 str (fun str => zlex S.2.2.2 m0 f1 f2 f3 str (fun str => some str))))) (zsb th T.2.2.2)) (zsb th T.2.2.1)) (zsb th T.2.1)))) none
noncomputable def zS0 (S : qS) : qS := ([], S.2.1, S.2.2.1, S.2.2.2)
/-- an end is reached: the stream tells which -/
noncomputable def zret (m mv : Nat) (xs : List qS) (S : qS) (str : List Nat) : qR := zp str (fun i str => Option.rec none (fun x => qB (zwf x) (qFl (zthe m x (zS0 S)) (fun th => zarr th (zeta mv x (zS0 S)) x (zS0 S) str (fun str => some str))) none) (qNth xs i))
theorem zthe_lo {m : Nat} {T S : qS} {v : Nat} (h : v < m) (r : qW) : zrS r (zthe m T S) v = r v := by
  unfold zrS zthe
  rw [zapp_eq, List.getElem?_append_left (by rw [znew_len]; exact h), znew_get _ _ _ h]
  show qe r (qV1 (0 + v)) = r v
  rw [qV1_ev, Nat.zero_add]
theorem zvnew_len : ∀ (m n : Nat), (zvnew n m).length = m
  | 0, _ => rfl
  | m + 1, n => by show (zvnew (Nat.succ n) m).length + 1 = m + 1; rw [zvnew_len m]
theorem zeta_lo {m : Nat} {T S : qS} {v : Nat} (h : v < m) (a : qX) : aSub a (zeta m T S) v = a v := by
  unfold aSub zeta
  show (match (zapp (zvnew 0 m) _)[v]? with | some w => a w | none => fun _ => 0) = a v
  rw [zapp_eq, List.getElem?_append_left (by rw [zvnew_len]; exact h), zvnew_get _ _ _ h, Nat.zero_add]
section
variable {γ : qGh}
theorem zcut_ok {g : qG} {m mv : Nat} {m0 : Option (qL × (qL × qL))} {T : qS × (qL × (qL × qL))} {S : qS} {str o : List Nat} (h : zcut m mv m0 T S str = some o) {r : qW} {a : qX} {ls : qLS} {st : List qV} {s : qSg} (hT : Typed g s) (hS : Sat γ g S r a ls st s) :
    ∃ ls' r' a', lsSub ls' ls ∧ Sat gh0 g T.1 r' a' ls' st s ∧ (∀ v, v < m → r' v = r v) ∧ (∀ v, v < mv → a' v = a v) ∧ 0 ≤ qe r' T.2.1 ∧ 0 ≤ qe r' T.2.2.1 ∧ 0 ≤ qe r' T.2.2.2 ∧ lexOk m0 r (qe r' T.2.1) (qe r' T.2.2.1) (qe r' T.2.2.2) := by
  obtain ⟨w, h1⟩ := qB_y h
  rw [qFl_eq] at h1
  obtain ⟨⟨s1, h2⟩, ls', h3, h4⟩ := zarr_some h1 w hT hS
  obtain ⟨f1, e1, h2⟩ := opt_some h2
  obtain ⟨f2, e2, h2⟩ := opt_some h2
  obtain ⟨f3, e3, h2⟩ := opt_some h2
  obtain ⟨⟨s2, h5⟩, p1⟩ := zg_some h2
  obtain ⟨⟨s3, h6⟩, p2⟩ := zg_some h5
  obtain ⟨⟨s4, h7⟩, p3⟩ := zg_some h6
  obtain ⟨-, p4⟩ := zlex_some h7
  have K := hS.now.2.2.2.2
  refine ⟨ls', _, _, h3, h4, fun v hv => zthe_lo hv r, fun v hv => zeta_lo hv a, ?_, ?_, ?_, ?_⟩
  · rw [← zsb_ok e1]; exact p1 g r a K
  · rw [← zsb_ok e2]; exact p2 g r a K
  · rw [← zsb_ok e3]; exact p3 g r a K
  · rw [← zsb_ok e1, ← zsb_ok e2, ← zsb_ok e3]; exact p4 g r a K
theorem zret_ok {g : qG} {m mv : Nat} {xs : List qS} {S : qS} {str o : List Nat} (h : zret m mv xs S str = some o) {r : qW} {a : qX} {ls : qLS} {st : List qV} {s : qSg} (hT : Typed g s) (hS : Sat γ g S r a ls st s) :
    ∃ x ∈ xs, ∃ r' a', (∀ v, v < m → r' v = r v) ∧ (∀ v, v < mv → a' v = a v) ∧ Sat gh0 g x r' a' [] st s := by
  obtain ⟨i, s1, h1⟩ := zp_some h
  obtain ⟨x, e, h2⟩ := opt_some h1
  obtain ⟨w, h3⟩ := qB_y h2
  rw [qFl_eq] at h3
  have hS0 : Sat γ g (zS0 S) r a [] st s := ⟨hS.1, fun r' a' hg => by
    have C := hS.2 r' a' hg
    exact ⟨rfl, C.2.1, C.2.2.1, C.2.2.2.1, C.2.2.2.2⟩⟩
  obtain ⟨-, ls', h4, h5⟩ := zarr_some h3 w hT hS0
  have e2 : ls' = [] := by
    cases ls' with
    | nil => rfl
    | cons q l => have := h4 q List.mem_cons_self; cases this
  subst e2
  exact ⟨x, qNth_mem _ _ e, _, _, fun v hv => zthe_lo hv r, fun v hv => zeta_lo hv a, h5⟩
end
/-- from a block on: to cutpoints and ends -/
noncomputable def zblk (g : qG) (md : List Nat) (cts : List qCt) (rI rJ : qRt) (rL : Nat → Option qRl) (code : qCd) (C : qCt) (kb : Nat → qKk) (b : Nat) : qKk := fun S str => Option.rec none (fun blk => xBl g md cts rI rJ rL blk.1 (fun S str => xT blk.2 S str kb (zret C.2.1.2.2.2.1 C.2.1.2.2.2.2.2.2.1 C.2.2.1)) S str) (qNth code b)
noncomputable def zrun (g : qG) (md : List Nat) (cts : List qCt) (rI rJ : qRt) (rL : Nat → Option qRl) (code : qCd) (cuts : qCu) (C : qCt) (m0 : Option (qL × (qL × qL))) (fuel : Nat) : Nat → qKk := Nat.rec (motive := fun _ => Nat → qKk) (fun _ _ _ => none) (fun _ ih b S str => Option.rec (zblk g md cts rI rJ rL code C ih b S str) (fun T => zcut C.2.1.2.2.2.1 C.2.1.2.2.2.2.2.2.1 m0 T S str) (qFi (β := Int) cuts b)) fuel
/-- what the machine owes of the method's blocks -/
def VRule (g : qG) (cts : List qCt) (code : qCd) (R : List qV → qSg → Prop) (V : Nat → qP) : Prop := (∀ (b : Nat) (blk : List qD × qTm), code[b]? = some blk → ∀ ls st s, wBl g cts blk.1 (wT V R blk.2) ls st s → V b ls st s) ∧ ∀ (b : Nat) (ls ls' : qLS) (st : List qV) (s : qSg), lsSub ls' ls → V b ls' st s → V b ls st s
section
variable {g : qG} {md : List Nat} {se : qSg} {cts : List qCt} {rI rJ : qRt} {rL : Nat → Option qRl} {code : qCd} {cuts : qCu} {C : qCt} {V : Nat → qP} {r0 : qW} {a0 : qX}
/-- what a cutpoint gives, where the measures are less than told -/
def HCut (g : qG) (md : List Nat) (se : qSg) (cuts : qCu) (C : qCt) (V : Nat → qP) (r0 : qW) (a0 : qX) (m0 : Option (qL × (qL × qL))) (r1 : qW) : Prop := ∀ (b : Nat) (T : qS × (qL × (qL × qL))), (b, T) ∈ cuts → ∀ r a ls st s, qJ g md se s → Sat gh0 g T.1 r a ls st s → (∀ v, v < C.2.1.2.2.2.1 → r v = r0 v) → (∀ v, v < C.2.1.2.2.2.2.2.2.1 → a v = a0 v) →
  0 ≤ qe r T.2.1 → 0 ≤ qe r T.2.2.1 → 0 ≤ qe r T.2.2.2 → lexOk m0 r1 (qe r T.2.1) (qe r T.2.2.1) (qe r T.2.2.2) → V b ls st s
theorem zblk_ok (hg : gTags g) (hI : RtI rI) (hJ : RtJ rJ) (hL : ∀ n R, rL n = some R → RlOk R) (hV : VRule g cts code (fun res s' => CtEnd g C r0 a0 se res s') V) (hmd : ∀ b : Nat, b ∈ md → b ∈ C.2.2.2) {γ : qGh} (hm : C.2.1.2.2.2.1 ≤ γ.1) (hmv : C.2.1.2.2.2.2.2.2.1 ≤ γ.2.2.1) (hr : ∀ v, v < C.2.1.2.2.2.1 → γ.2.1 v = r0 v) (ha : ∀ v, v < C.2.1.2.2.2.2.2.2.1 → γ.2.2.2 v = a0 v)
    {kb : Nat → qKk} {b : Nat} {S : qS} {str o : List Nat} (h : zblk g md cts rI rJ rL code C kb b S str = some o) (hb : ∀ (b : Nat) (S' : qS) (str' o' : List Nat), kb b S' str' = some o' → ∀ r a ls st s, qJ g md se s → Sat γ g S' r a ls st s → V b ls st s) :
    ∀ r a ls st s, qJ g md se s → Sat γ g S r a ls st s → V b ls st s := by
  intro r a ls st s hT hS
  obtain ⟨blk, e, h1⟩ := opt_some h
  refine hV.1 b blk (by rw [← qNth_get]; exact e) ls st s ?_
  refine xBl_ok hg hI hJ hL (fun S' str' o' h' r a ls st s hT hS => ?_) blk.1 S str o h1 r a ls st s hT hS
  refine xT_ok h' hS (fun b S' str' o' h' r a ls st hS => hb b S' str' o' h' r a ls st s hT hS) (fun S' str' o' h' r a ls st hS => ?_)
  obtain ⟨x, hx, r', a', p1, p2, p3⟩ := zret_ok h' hT.1 hS
  refine ⟨hT.1, fun b hb => hT.2 b (fun q => hb (hmd b q)), x, hx, r', a', fun v hv => ?_, fun v hv => ?_, p3⟩
  · rw [p1 v hv, hS.1.2.2.1 v (Nat.lt_of_lt_of_le hv hm)]; exact hr v hv
  · rw [p2 v hv, hS.1.2.2.2 v (Nat.lt_of_lt_of_le hv hmv)]; exact ha v hv
theorem zrun_ok (hg : gTags g) (hI : RtI rI) (hJ : RtJ rJ) (hL : ∀ n R, rL n = some R → RlOk R) (hV : VRule g cts code (fun res s' => CtEnd g C r0 a0 se res s') V) (hmd : ∀ b : Nat, b ∈ md → b ∈ C.2.2.2) {γ : qGh} (hm : C.2.1.2.2.2.1 ≤ γ.1) (hmv : C.2.1.2.2.2.2.2.2.1 ≤ γ.2.2.1) (hr : ∀ v, v < C.2.1.2.2.2.1 → γ.2.1 v = r0 v) (ha : ∀ v, v < C.2.1.2.2.2.2.2.2.1 → γ.2.2.2 v = a0 v)
    {m0 : Option (qL × (qL × qL))} (hw : ∀ m, m0 = some m → zwl γ.1 m.1 = true ∧ zwl γ.1 m.2.1 = true ∧ zwl γ.1 m.2.2 = true) (hC : HCut g md se cuts C V r0 a0 m0 γ.2.1) :
    ∀ (fuel b : Nat) (S : qS) (str o : List Nat), zrun g md cts rI rJ rL code cuts C m0 fuel b S str = some o → ∀ r a ls st s, qJ g md se s → Sat γ g S r a ls st s → V b ls st s := by
  intro fuel
  induction fuel with
  | zero => intro b S str o h; cases h
  | succ f ih =>
    intro b S str o h r a ls st s hT hS
    have h' : Option.rec (motive := fun _ => qR) (zblk g md cts rI rJ rL code C (zrun g md cts rI rJ rL code cuts C m0 f) b S str) (fun T => zcut C.2.1.2.2.2.1 C.2.1.2.2.2.2.2.2.1 m0 T S str) (qFi (β := Int) cuts b) = some o := h
    cases e : qFi (β := Int) cuts b with
    | none =>
      rw [e] at h'
      exact zblk_ok hg hI hJ hL hV hmd hm hmv hr ha h' ih r a ls st s hT hS
    | some T =>
      rw [e] at h'
      obtain ⟨ls', r', a', p1, p2, p3, p4, p5, p6, p7, p8⟩ := zcut_ok h' hT.1 hS
      refine hV.2 b ls ls' st s p1 (hC b T (qFi_mem _ e) r' a' ls' st s hT p2 (fun v hv => ?_) (fun v hv => ?_) p5 p6 p7 (fun m em => ?_))
      · rw [p3 v hv, hS.1.2.2.1 v (Nat.lt_of_lt_of_le hv hm)]; exact hr v hv
      · rw [p4 v hv, hS.1.2.2.2 v (Nat.lt_of_lt_of_le hv hmv)]; exact ha v hv
      · have q := p8 m em
        obtain ⟨w1, w2, w3⟩ := hw m em
        rw [zwl_ok (r := γ.2.1) (r' := r) hS.1.2.2.1 w1, zwl_ok (r := γ.2.1) (r' := r) hS.1.2.2.1 w2, zwl_ok (r := γ.2.1) (r' := r) hS.1.2.2.1 w3] at q
        exact q
end
