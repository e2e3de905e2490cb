/-! A METHOD KEEPS ITS CONTRACT -/
/-- the run from cutpoint T: all its unknowns stay -/
noncomputable def zfrom (g : qG) (md : List Nat) (cts : List qCt) (rI rJ : qRt) (rL : Nat → Option qRl) (code : qCd) (cuts : qCu) (C : qCt) (fuel : Nat) (x : Nat × (qS × (qL × (qL × qL)))) : List Nat → qR := fun str => qB (zwf x.2.1) (qB (zwl x.2.1.2.2.2.1 x.2.2.1) (qB (zwl x.2.1.2.2.2.1 x.2.2.2.1) (qB (zwl x.2.1.2.2.2.1 x.2.2.2.2) (qB (Nat.ble C.2.1.2.2.2.1 x.2.1.2.2.2.1) (qB (Nat.ble C.2.1.2.2.2.2.2.2.1 x.2.1.2.2.2.2.2.2.1)
  (zblk g md cts rI rJ rL code C (zrun g md cts rI rJ rL code cuts C (some x.2.2) fuel) x.1 x.2.1 str) none) none) none) none) none) none
noncomputable def zcuts (z : Nat × (qS × (qL × (qL × qL))) → List Nat → qR) (l : qCu) : List Nat → qR := List.rec (motive := fun _ => List Nat → qR) (fun str => some str) (fun x _ ih str => zseq (z x str) (fun str => ih str)) l
theorem zcuts_mem {z : Nat × (qS × (qL × (qL × qL))) → List Nat → qR} : ∀ (l : qCu) (str o : List Nat), zcuts z l str = some o → ∀ x ∈ l, ∃ s1 o1, z x s1 = some o1
  | [], str, o, h, x, hx => by cases hx
  | y :: l, str, o, h, x, hx => by
    obtain ⟨s1, h1, h2⟩ := zseq_some (show zseq (z y str) (fun str => zcuts z l str) = some o from h)
    rcases List.mem_cons.mp hx with rfl | hx
    · exact ⟨str, s1, h1⟩
    · exact zcuts_mem l s1 o h2 x hx
/-- the whole check of a method: its start, then each cutpoint -/
noncomputable def zchk (g : qG) (cts : List qCt) (rI rJ : qRt) (rL : Nat → Option qRl) (code : qCd) (cuts : qCu) (C : qCt) (fuel : Nat) (str : List Nat) : Bool := qB (zwf C.2.1) (Option.rec false (fun s => znil s) (zseq (zblk g C.2.2.2 cts rI rJ rL code C (zrun g C.2.2.2 cts rI rJ rL code cuts C none fuel) 0 C.2.1 str) (fun str => zcuts (zfrom g C.2.2.2 cts rI rJ rL code cuts C fuel) cuts str))) false
section
variable {g : qG} {se : qSg} {cts : List qCt} {rI rJ : qRt} {rL : Nat → Option qRl} {code : qCd} {cuts : qCu} {C : qCt} {V : Nat → qP} {r0 : qW} {a0 : qX}
theorem Sat.gh {g : qG} {S : qS} {r : qW} {a : qX} {ls : qLS} {st : List qV} {s : qSg} (h : Sat gh0 g S r a ls st s) : Sat (S.2.2.2.1, r, S.2.2.2.2.2.2.1, a) g S r a ls st s := ⟨⟨Nat.le_refl _, Nat.le_refl _, fun _ _ => rfl, fun _ _ => rfl⟩, h.2⟩
theorem zcut_V (hg : gTags g) (hI : RtI rI) (hJ : RtJ rJ) (hL : ∀ n R, rL n = some R → RlOk R) (hV : VRule g cts code (fun res s' => CtEnd g C r0 a0 se res s') V) {fuel : Nat}
    (hz : ∀ x ∈ cuts, ∃ s1 o1, zfrom g C.2.2.2 cts rI rJ rL code cuts C fuel x s1 = some o1) :
    ∀ (n1 n2 n3 : Nat) (b : Nat) (T : qS × (qL × (qL × qL))), (b, T) ∈ cuts → ∀ r a ls st s, qJ g C.2.2.2 se s → Sat gh0 g T.1 r a ls st s → (∀ v, v < C.2.1.2.2.2.1 → r v = r0 v) → (∀ v, v < C.2.1.2.2.2.2.2.2.1 → a v = a0 v) →
      qe r T.2.1 = n1 → qe r T.2.2.1 = n2 → qe r T.2.2.2 = n3 → V b ls st s := by
  intro n1
  induction n1 using Nat.strongRecOn with
  | ind n1 ih1 =>
    intro n2
    induction n2 using Nat.strongRecOn with
    | ind n2 ih2 =>
      intro n3
      induction n3 using Nat.strongRecOn with
      | ind n3 ih3 =>
        intro b T hbT r a ls st s hT hS hr ha e1 e2 e3
        obtain ⟨s1, o1, h⟩ := hz (b, T) hbT
        obtain ⟨w0, h⟩ := qB_y h
        obtain ⟨w1, h⟩ := qB_y h
        obtain ⟨w2, h⟩ := qB_y h
        obtain ⟨w3, h⟩ := qB_y h
        obtain ⟨w4, h⟩ := qB_y h
        obtain ⟨w5, h⟩ := qB_y h
        have hm := Nat.ble_eq.mp w4
        have hmv := Nat.ble_eq.mp w5
        have hC : HCut g C.2.2.2 se cuts C V r0 a0 (some T.2) r := by
          intro b' T' hb' r' a' ls' st' s' hT' hS' hr' ha' q1 q2 q3 hl
          obtain ⟨m1, f1⟩ := Int.eq_ofNat_of_zero_le q1
          obtain ⟨m2, f2⟩ := Int.eq_ofNat_of_zero_le q2
          obtain ⟨m3, f3⟩ := Int.eq_ofNat_of_zero_le q3
          have hl2 := hl T.2 rfl
          rw [f1, f2, f3, e1, e2, e3] at hl2
          rcases hl2 with hl2 | ⟨hl3, hl2 | ⟨hl4, hl5⟩⟩
          · exact ih1 m1 (by omega) m2 m3 b' T' hb' r' a' ls' st' s' hT' hS' hr' ha' f1 f2 f3
          · rcases Nat.lt_or_ge m1 n1 with c | c
            · exact ih1 m1 c m2 m3 b' T' hb' r' a' ls' st' s' hT' hS' hr' ha' f1 f2 f3
            · have c1 : m1 = n1 := by omega
              subst c1
              exact ih2 m2 (by omega) m3 b' T' hb' r' a' ls' st' s' hT' hS' hr' ha' f1 f2 f3
          · rcases Nat.lt_or_ge m1 n1 with c | c
            · exact ih1 m1 c m2 m3 b' T' hb' r' a' ls' st' s' hT' hS' hr' ha' f1 f2 f3
            · have c1 : m1 = n1 := by omega
              subst c1
              rcases Nat.lt_or_ge m2 n2 with d | d
              · exact ih2 m2 d m3 b' T' hb' r' a' ls' st' s' hT' hS' hr' ha' f1 f2 f3
              · have d1 : m2 = n2 := by omega
                subst d1
                exact ih3 m3 (by omega) b' T' hb' r' a' ls' st' s' hT' hS' hr' ha' f1 f2 f3
        exact zblk_ok hg hI hJ hL hV (fun _ q => q) (γ := (T.1.2.2.2.1, r, T.1.2.2.2.2.2.2.1, a)) hm hmv hr ha h
          (fun b' S' str' o' h' r' a' ls' st' s' hT' hS' => zrun_ok hg hI hJ hL hV (fun _ q => q) (γ := (T.1.2.2.2.1, r, T.1.2.2.2.2.2.2.1, a)) hm hmv hr ha (fun m em => by cases em; exact ⟨w1, w2, w3⟩) hC fuel b' S' str' o' h' r' a' ls' st' s' hT' hS') r a ls st s hT hS.gh
/-- a method that is checked comes to an end that its contract tells -/
theorem zchk_ok (hg : gTags g) (hI : RtI rI) (hJ : RtJ rJ) (hL : ∀ n R, rL n = some R → RlOk R) {fuel : Nat} {str : List Nat} (h : zchk g cts rI rJ rL code cuts C fuel str = true) (hV : VRule g cts code (fun res s' => CtEnd g C r0 a0 se res s') V) {as : List qV} (hT : Typed g se) (hS : CtBeg g C as se r0 a0) : V 0 (lsArgs 0 as) [] se := by
  obtain ⟨w, h1⟩ := qB_and h
  cases e : zseq (zblk g C.2.2.2 cts rI rJ rL code C (zrun g C.2.2.2 cts rI rJ rL code cuts C none fuel) 0 C.2.1 str) (fun str => zcuts (zfrom g C.2.2.2 cts rI rJ rL code cuts C fuel) cuts str) with
  | none => rw [e] at h1; cases h1
  | some s9 =>
    obtain ⟨s1, h2, h3⟩ := zseq_some e
    have hz := zcuts_mem _ _ _ h3
    obtain ⟨-, ls, h4, h5⟩ := hS
    have hC : HCut g C.2.2.2 se cuts C V r0 a0 none r0 := by
      intro b' T' hb' r' a' ls' st' s' hT' hS' hr' ha' q1 q2 q3 _
      obtain ⟨m1, f1⟩ := Int.eq_ofNat_of_zero_le q1
      obtain ⟨m2, f2⟩ := Int.eq_ofNat_of_zero_le q2
      obtain ⟨m3, f3⟩ := Int.eq_ofNat_of_zero_le q3
      exact zcut_V hg hI hJ hL hV hz m1 m2 m3 b' T' hb' r' a' ls' st' s' hT' hS' hr' ha' f1 f2 f3
    refine hV.2 0 (lsArgs 0 as) ls [] se h4 ?_
    exact zblk_ok hg hI hJ hL hV (fun _ q => q) (γ := (C.2.1.2.2.2.1, r0, C.2.1.2.2.2.2.2.2.1, a0)) (Nat.le_refl _) (Nat.le_refl _) (fun _ _ => rfl) (fun _ _ => rfl) h2
      (fun b' S' str' o' h' r' a' ls' st' s' hT' hS' => zrun_ok hg hI hJ hL hV (fun _ q => q) (γ := (C.2.1.2.2.2.1, r0, C.2.1.2.2.2.2.2.2.1, a0)) (Nat.le_refl _) (Nat.le_refl _) (fun _ _ => rfl) (fun _ _ => rfl) (fun m em => by cases em) hC fuel b' S' str' o' h' r' a' ls' st' s' hT' hS') r0 a0 ls [] se ⟨hT, fun _ _ => rfl⟩ h5.gh
end
