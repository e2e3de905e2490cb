/-! STEPS THAT THE MACHINE DOESN'T SEE: a local's canonical number, fields that are thought of alone -/
section
variable {γ : qGh}
noncomputable def x40 (d : qD) : qS → List Nat → qKk → qR := fun S str k => zp str (fun c str => Nat.rec (motive := fun _ => qR) (k S str) (fun _ _ => Option.rec none (fun v => qB (Nat.beq v.1 0) (k ((d.2.1.toNat, (0, qV1 S.2.2.2.1, qC 0)) :: zfl d.2.1.toNat false S.1, S.2.1, S.2.2.1, kVar S.2.2.2 (-2147483648) 2147483647) str) none) (qFi (β := Int) S.1 d.2.1.toNat)) c)
theorem x40_ok {g : qG} {md : List Nat} {se : qSg} {b : Int × Int × Int} {S : qS} {str : List Nat} {k : qKk} {o : List Nat} {P : qP} (h : x40 (40, b) S str k = some o) (hk : ∀ (S' : qS) (str' o' : List Nat), k S' str' = some o' → ∀ r a ls st s, qJ g md se s → Sat γ g S' r a ls st s → P ls st s) :
    ∀ r a ls st s, qJ g md se s → Sat γ g S r a ls st s → P ls st s ∨ ∃ z : Int, (b.1.toNat, ((0, z) : qV)) ∈ ls ∧ P (lsSet b.1.toNat (0, (Int32.ofInt z).toInt) ls) st s := by
  intro r a ls st s hT hS
  obtain ⟨c, s1, h1⟩ := zp_some (s := str) h
  match c with
  | 0 => exact Or.inl (hk S s1 o h1 r a ls st s hT hS)
  | c + 1 =>
    obtain ⟨v, e, h2⟩ := opt_some (show Option.rec (motive := fun _ => qR) none (fun v : qSV => qB (Nat.beq v.1 0) (k ((b.1.toNat, (0, qV1 S.2.2.2.1, qC 0)) :: zfl b.1.toNat false S.1, S.2.1, S.2.2.1, kVar S.2.2.2 (-2147483648) 2147483647) s1) none) (qFi (β := Int) S.1 b.1.toNat) = some o from h1)
    obtain ⟨e0, h3⟩ := qB_y h2
    have e1 := Nat.eq_of_beq_eq_true e0
    have ed : ∀ r', qden r' v = (0, qe r' v.2.1) := fun r' => by unfold qden; rw [if_neg (by omega), e1]
    have hin := ofInt32_in (qe r v.2.1)
    have hV := hS.var (Int32.ofInt (qe r v.2.1)).toInt _ _ hin.1 hin.2
    refine Or.inr ⟨qe r v.2.1, ?_, hk _ _ _ h3 (wUp r S.2.2.2.1 (Int32.ofInt (qe r v.2.1)).toInt) a _ st s hT ⟨hV.1, ?_⟩⟩
    · rw [hS.now.1, ← ed r]
      exact List.mem_map.mpr ⟨_, qFi_mem _ e, rfl⟩
    · intro r' a' hg'
      have C := hV.2 r' a' hg'
      refine ⟨?_, C.2⟩
      unfold lsSet
      rw [List.map_cons, zfl_eq, ← C.1]
      show (b.1.toNat, ((0, (Int32.ofInt (qe r v.2.1)).toInt) : qV)) :: ls.filter (keepV b.1.toNat false) = (b.1.toNat, qden r' (0, qV1 S.2.2.2.1, qC 0)) :: _
      rw [den_i r' 0 _ _ (by omega), qV1_ev, hg'.1 _ (Nat.lt_succ_self _), wUp_same]
noncomputable def x39 (g : qG) (md : List Nat) (d : qD) : qS → List Nat → qKk → qR := fun S str k => Option.rec none (fun x => zlin str (fun z str => qB (zwl S.2.2.2.1 z) (qB (zmem d.2.1.toNat md) (Option.rec none (fun c =>
    zg S.2.2.2 (qA z (-1) (qC c.1)) str (fun str => zg S.2.2.2 (qA (qC c.2) (-1) z) str (fun str => k (S_mk S S.2.1 ((d.2.1.toNat, z) :: zdel d.2.1.toNat S.2.2.1.1, zdel d.2.1.toNat S.2.2.1.2) S.2.2.2) str))) (qNth x.2.2.2.2 0)) none) none)) (qNth g d.2.1.toNat)
theorem x39_ok {g : qG} {md : List Nat} {se : qSg} {b : Int × Int × Int} {S : qS} {str : List Nat} {k : qKk} {o : List Nat} {P : qP} (h : x39 g md (39, b) S str k = some o) (hk : ∀ (S' : qS) (str' o' : List Nat), k S' str' = some o' → ∀ r a ls st s, qJ g md se s → Sat γ g S' r a ls st s → P ls st s) :
    ∀ r a ls st s, qJ g md se s → Sat γ g S r a ls st s → ∃ z : Int, P ls st (qUp s b.1.toNat 0 z) := by
  intro r a ls st s hT hS
  obtain ⟨x, e, h1⟩ := opt_some h
  obtain ⟨z, s1, h2⟩ := zlin_some h1
  obtain ⟨w, h3⟩ := qB_y h2
  obtain ⟨hm, h4⟩ := qB_y h3
  obtain ⟨c, e3, h5⟩ := opt_some h4
  obtain ⟨⟨str1, h9⟩, p1⟩ := zg_some h5
  obtain ⟨⟨str2, h10⟩, p2⟩ := zg_some h9
  have q1 := p1 g r a hS.now.2.2.2.2
  have q2 := p2 g r a hS.now.2.2.2.2
  rw [qA_ev, qC_ev] at q1 q2
  have hx : g[b.1.toNat]? = some x := by rw [← qNth_get]; exact e
  have hin : inR c.1 c.2 (qe r z) := ⟨by omega, by omega⟩
  refine ⟨qe r z, hk _ _ _ h10 r a _ _ _ (hT.up hx (zmem_t _ hm) (colAt_0 e3) hin) ⟨hS.1, ?_⟩⟩
  intro r' a' hg
  have C := hS.2 r' a' hg
  refine ⟨C.1, C.2.1, ?_, ?_, C.2.2.2.2⟩
  · intro y hy
    rcases List.mem_cons.mp hy with rfl | hy
    · show qUp s b.1.toNat 0 (qe r z) b.1.toNat 0 = qe r' z
      unfold qUp
      rw [if_pos ⟨rfl, rfl⟩, zwl_ok hg.1 w]
    · obtain ⟨y1, y2⟩ := zdel_mem _ hy
      unfold qUp
      rw [if_neg (fun z => y2 z.1)]
      exact C.2.2.1 y y1
  · intro y hy i
    obtain ⟨y1, y2⟩ := zdel_mem _ hy
    unfold qUp
    rw [if_neg (fun z => y2 z.1)]
    exact C.2.2.2.1 y y1 i
end
