theorem eSpl_fun {F G F' G' : Int → Int} {n a o m r m' r' : Int} (h : eAeq F G n) (p : eSpl F F' n a o m r) (q : eSpl G G' n a o m' r') : r = r' ∧ m = m' ∧ eAeq F' G' m := by
  rcases p with ⟨o1, p1, p2, p3, p4, p5, p6⟩ | ⟨o1, p1, p3, p4, p5⟩ | ⟨o1, p1, p3, p4, p5⟩ | ⟨o1, k, k0, k1, k2, k3, p3, p4, p5⟩
  · rcases q with ⟨o2, q1, q2, q3, q4, q5, q6⟩ | ⟨o2, q1, q3, q4, q5⟩ | ⟨o2, q1, q3, q4, q5⟩ | ⟨o2, j, j0, j1, j2, j3, q3, q4, q5⟩
    · refine ⟨by omega, by omega, fun x x0 x1 => ?_⟩
      by_cases c : x = n
      · rw [c, p6, q6]
      · have x2 : x < n := by omega
        rw [← p5 x x0 x2, ← q5 x x0 x2]; exact h x x0 x2
    · rcases q1 with ⟨x, x0, x1, x2⟩ | q1
      · exact absurd ((h x x0 x1).trans x2) (p1 x x0 x1)
      · omega
    · omega
    · omega
  · rcases q with ⟨o2, q1, q2, q3, q4, q5, q6⟩ | ⟨o2, q1, q3, q4, q5⟩ | ⟨o2, q1, q3, q4, q5⟩ | ⟨o2, j, j0, j1, j2, j3, q3, q4, q5⟩
    · rcases p1 with ⟨x, x0, x1, x2⟩ | p1
      · exact absurd ((h x x0 x1).symm.trans x2) (q1 x x0 x1)
      · omega
    · refine ⟨by omega, by omega, fun x x0 x1 => ?_⟩
      have x2 : x < n := by omega
      rw [← p5 x x0 x2, ← q5 x x0 x2]; exact h x x0 x2
    · omega
    · omega
  · rcases q with ⟨o2, q1, q2, q3, q4, q5, q6⟩ | ⟨o2, q1, q3, q4, q5⟩ | ⟨o2, q1, q3, q4, q5⟩ | ⟨o2, j, j0, j1, j2, j3, q3, q4, q5⟩
    · omega
    · omega
    · refine ⟨by omega, by omega, fun x x0 x1 => ?_⟩
      have x2 : x < n := by omega
      rw [← p5 x x0 x2, ← q5 x x0 x2]; exact h x x0 x2
    · exact absurd ((h j j0 j1).trans j2) (p1 j j0 j1)
  · rcases q with ⟨o2, q1, q2, q3, q4, q5, q6⟩ | ⟨o2, q1, q3, q4, q5⟩ | ⟨o2, q1, q3, q4, q5⟩ | ⟨o2, j, j0, j1, j2, j3, q3, q4, q5⟩
    · omega
    · omega
    · exact absurd ((h k k0 k1).symm.trans k2) (q1 k k0 k1)
    · have e : k = j := by
        rcases Int.lt_trichotomy k j with c | c | c
        · exact absurd ((h k k0 k1).symm.trans k2) (j3 k k0 c)
        · exact c
        · exact absurd ((h j j0 j1).trans j2) (k3 j j0 c)
      subst e
      refine ⟨by omega, by omega, fun x x0 x1 => ?_⟩
      have x2 : x < n - 1 := by omega
      rw [p5 x x0 x2, q5 x x0 x2, h x x0 (by omega), h (n - 1) (by omega) (by omega)]
theorem M_isp0 {F0 : Int → Int} {N0 N1 N2 N3 N4 : Int} (H0 : ∀ x : Int, N3 ≤ x → x < N4 → ((0 ≤ -1+(-1)*N1+(1)*F0 (x)) ∨ (0 ≤ -1+(1)*N1+(-1)*F0 (x)))) (H1 : N3 ≤ 0) (H2 : N0 ≤ N4) (H3 : N2 ≤ 0) : eIsp (F0) (N0) (N1) (N2) := by
  exact Or.inr ⟨H3, fun x x0 x1 e => by rcases H0 x (by omega) (by omega) with c | c <;> omega⟩
theorem M_isp1 {F0 : Int → Int} {N0 N1 N2 N3 N4 : Int} (H0 : eEx (F0) (N3) (N4) (N1)) (H1 : 0 ≤ N3) (H2 : N4 ≤ N0) (H3 : 1 ≤ N2) : eIsp (F0) (N0) (N1) (N2) := by
  obtain ⟨x, x0, x1, x2⟩ := H0
  exact Or.inl ⟨H3, x, by omega, by omega, x2⟩
theorem M_fst0 {F0 : Int → Int} {N0 N1 N2 N3 : Int} (H0 : ∀ x : Int, N3 ≤ x → x < N2 → ((0 ≤ -1+(-1)*N1+(1)*F0 (x)) ∨ (0 ≤ -1+(1)*N1+(-1)*F0 (x)))) (H1 : N3 ≤ 0) (H2 : N2 = N0) (H3 : 0 ≤ N2) : eFst (F0) (N0) (N1) (N2) := by
  exact ⟨H3, fun x x0 x1 e => by rcases H0 x (by omega) (by omega) with c | c <;> omega, fun c => absurd c (by omega)⟩
theorem M_fst1 {F0 : Int → Int} {N0 N1 N2 N3 N4 : Int} (H0 : ∀ x : Int, N3 ≤ x → x < N2 → ((0 ≤ -1+(-1)*N1+(1)*F0 (x)) ∨ (0 ≤ -1+(1)*N1+(-1)*F0 (x)))) (H1 : N3 ≤ 0) (H2 : F0 N2 = N4) (H3 : N4 = N1) (H4 : 0 ≤ N2) (H5 : N2 + 1 ≤ N0) : eFst (F0) (N0) (N1) (N2) := by
  exact ⟨H4, fun x x0 x1 e => by rcases H0 x (by omega) (by omega) with c | c <;> omega, fun _ => H2.trans H3⟩
theorem M_aeqI {F0 : Int → Int} {N0 : Int}  : eAeq (F0) (F0) (N0) := by
  exact fun _ _ _ => rfl
theorem M_spl1 {F0 : Int → Int} {N0 N1 N2 N3 N4 N5 : Int} (H0 : eIsp (F0) (N0) (N1) (N5)) (H1 : 1 ≤ N5) (H2 : 1 ≤ N2) (H3 : N3 = N0) (H4 : N4 = 0) : eSpl (F0) (F0) (N0) (N1) (N2) (N3) (N4) := by
  rcases H0 with ⟨_, h⟩ | ⟨h, _⟩
  · exact Or.inr (Or.inl ⟨H2, Or.inl h, H4, H3, fun _ _ _ => rfl⟩)
  · omega
theorem M_spl2 {F0 : Int → Int} {N0 N1 N2 N3 N4 N5 : Int} (H0 : eIsp (F0) (N0) (N1) (N5)) (H1 : 16 ≤ N0) (H2 : 1 ≤ N2) (H3 : N3 = N0) (H4 : N4 = 0) : eSpl (F0) (F0) (N0) (N1) (N2) (N3) (N4) := by
  exact Or.inr (Or.inl ⟨H2, Or.inr H1, H4, H3, fun _ _ _ => rfl⟩)
theorem M_spl3 {F0 F1 : Int → Int} {N0 N1 N2 N3 N4 N5 N6 N7 : Int} (H0 : ∀ x : Int, F1 x = if x = N6 then N7 else F0 x) (H1 : eIsp (F0) (N0) (N1) (N5)) (H2 : N5 ≤ 0) (H3 : N0 ≤ 15) (H4 : N6 = N0) (H5 : N7 = N1) (H6 : 1 ≤ N2) (H7 : N3 = N0 + 1) (H8 : N4 = 1) : eSpl (F0) (F1) (N0) (N1) (N2) (N3) (N4) := by
  rcases H1 with ⟨h, _⟩ | ⟨_, h⟩
  · omega
  · refine Or.inl ⟨H6, h, H3, H8, H7, fun x x0 x1 => ?_, ?_⟩
    · rw [H0 x, if_neg (by omega)]
    · rw [H0 N0, if_pos H4.symm, H5]
theorem M_spl4 {F0 : Int → Int} {N0 N1 N2 N3 N4 N5 : Int} (H0 : eIsp (F0) (N0) (N1) (N5)) (H1 : N5 ≤ 0) (H2 : N2 ≤ 0) (H3 : N3 = N0) (H4 : N4 = 0) : eSpl (F0) (F0) (N0) (N1) (N2) (N3) (N4) := by
  rcases H0 with ⟨h, _⟩ | ⟨_, h⟩
  · omega
  · exact Or.inr (Or.inr (Or.inl ⟨H2, h, H4, H3, fun _ _ _ => rfl⟩))
theorem M_spl5 {F0 F1 : Int → Int} {N0 N1 N2 N3 N4 N5 N6 N7 N8 N9 : Int} (H0 : ∀ x : Int, F1 x = if x = N5 then N6 else F0 x) (H1 : eFst (F0) (N0) (N1) (N7)) (H2 : N7 = N5) (H3 : F0 N9 = N6) (H4 : N9 = N0 + -1) (H5 : 0 ≤ N5) (H6 : N5 + 1 ≤ N0) (H7 : N2 ≤ 0) (H8 : N3 = N0 + -1) (H9 : N4 = 1) : eSpl (F0) (F1) (N0) (N1) (N2) (N3) (N4) := by
  obtain ⟨f0, f1, f2⟩ := H1
  have f3 : F0 N5 = N1 := by rw [← H2]; exact f2 (by omega)
  have e : F0 (N0 - 1) = N6 := by rw [← H3]; congr 1; omega
  refine Or.inr (Or.inr (Or.inr ⟨H7, N5, H5, by omega, f3, fun x x0 x1 => f1 x x0 (by omega), H9, by omega, fun x x0 x1 => ?_⟩))
  rw [H0 x, e]
theorem M_spl6 {F0 F1 F2 : Int → Int} {N0 N1 N2 N3 N4 N5 N6 N7 N8 N9 N10 N11 : Int} (H0 : ∀ x : Int, F2 x = if x = N5 then N6 else F1 x) (H1 : eAeq (F0) (F1) (N11)) (H2 : N0 ≤ N11) (H3 : ∀ x : Int, N7 ≤ x → x < N10 → ((0 ≤ -1+(-1)*N1+(1)*F1 (x)) ∨ (0 ≤ -1+(1)*N1+(-1)*F1 (x)))) (H4 : N7 ≤ 0) (H5 : N10 = N5) (H6 : F1 N5 = N8) (H7 : N8 = N1) (H8 : F1 N9 = N6) (H9 : N9 = N0 + -1) (H10 : 0 ≤ N5) (H11 : N5 + 1 ≤ N0) (H12 : N2 ≤ 0) (H13 : N3 = N0 + -1) (H14 : N4 = 1) : eSpl (F0) (F2) (N0) (N1) (N2) (N3) (N4) := by
  have a : ∀ x : Int, 0 ≤ x → x < N0 → F0 x = F1 x := fun x x0 x1 => H1 x x0 (by omega)
  have e : F0 (N0 - 1) = N6 := by rw [a (N0 - 1) (by omega) (by omega), ← H8]; congr 1; omega
  refine Or.inr (Or.inr (Or.inr ⟨H12, N5, H10, by omega, (a N5 H10 (by omega)).trans (H6.trans H7), fun x x0 x1 q => ?_, H14, by omega, fun x x0 x1 => ?_⟩))
  · rw [a x x0 (by omega)] at q; rcases H3 x (by omega) (by omega) with c | c <;> omega
  · rw [H0 x, e, a x x0 (by omega)]
theorem M_spf1 {F0 : Int → Int} {N0 N1 N2 N3 N4 N5 : Int} (H0 : eFst (F0) (N0) (N1) (N5)) (H1 : N5 + 1 ≤ N0) (H2 : 1 ≤ N2) (H3 : N3 = N0) (H4 : N4 = 0) : eSpl (F0) (F0) (N0) (N1) (N2) (N3) (N4) := by
  obtain ⟨f0, f1, f2⟩ := H0
  exact Or.inr (Or.inl ⟨H2, Or.inl ⟨N5, f0, by omega, f2 (by omega)⟩, H4, H3, fun _ _ _ => rfl⟩)
theorem M_spf2 {F0 : Int → Int} {N0 N1 N2 N3 N4 N5 : Int} (H0 : eFst (F0) (N0) (N1) (N5)) (H1 : 16 ≤ N0) (H2 : 1 ≤ N2) (H3 : N3 = N0) (H4 : N4 = 0) : eSpl (F0) (F0) (N0) (N1) (N2) (N3) (N4) := by
  exact Or.inr (Or.inl ⟨H2, Or.inr H1, H4, H3, fun _ _ _ => rfl⟩)
theorem M_spf3 {F0 F1 : Int → Int} {N0 N1 N2 N3 N4 N5 N6 N7 : Int} (H0 : ∀ x : Int, F1 x = if x = N6 then N7 else F0 x) (H1 : eFst (F0) (N0) (N1) (N5)) (H2 : N0 ≤ N5) (H3 : N0 ≤ 15) (H4 : N6 = N0) (H5 : N7 = N1) (H6 : 1 ≤ N2) (H7 : N3 = N0 + 1) (H8 : N4 = 1) : eSpl (F0) (F1) (N0) (N1) (N2) (N3) (N4) := by
  obtain ⟨f0, f1, f2⟩ := H1
  refine Or.inl ⟨H6, fun x x0 x1 => f1 x x0 (by omega), H3, H8, H7, fun x x0 x1 => ?_, ?_⟩
  · rw [H0 x, if_neg (by omega)]
  · rw [H0 N0, if_pos H4.symm, H5]
theorem M_spf4 {F0 : Int → Int} {N0 N1 N2 N3 N4 N5 : Int} (H0 : eFst (F0) (N0) (N1) (N5)) (H1 : N0 ≤ N5) (H2 : N2 ≤ 0) (H3 : N3 = N0) (H4 : N4 = 0) : eSpl (F0) (F0) (N0) (N1) (N2) (N3) (N4) := by
  obtain ⟨f0, f1, f2⟩ := H0
  exact Or.inr (Or.inr (Or.inl ⟨H2, fun x x0 x1 => f1 x x0 (by omega), H4, H3, fun _ _ _ => rfl⟩))
theorem M_aeqR {F0 F1 F2 F3 : Int → Int} {N0 N1 N2 N3 N4 N5 N6 N7 N8 N9 : Int} (H0 : eAeq (F0) (F1) (N0)) (H1 : eSpl (F0) (F2) (N0) (N1) (N2) (N3) (N4)) (H2 : eSpl (F1) (F3) (N5) (N6) (N7) (N8) (N9)) (H3 : N5 = N0) (H4 : N6 = N1) (H5 : N7 = N2) : (N4 ≤ N9) ∧ (N9 ≤ N4) ∧ (N3 ≤ N8) ∧ (N8 ≤ N3) := by
  subst H3; subst H4; subst H5
  obtain ⟨a, b, -⟩ := eSpl_fun H0 H1 H2
  exact ⟨by omega, by omega, by omega, by omega⟩
theorem M_aeqS {F0 F1 F2 F3 : Int → Int} {N0 N1 N2 N3 N4 N5 N6 N7 N8 N9 : Int} (H0 : eAeq (F0) (F1) (N0)) (H1 : eSpl (F0) (F2) (N0) (N1) (N2) (N3) (N4)) (H2 : eSpl (F1) (F3) (N5) (N6) (N7) (N8) (N9)) (H3 : N5 = N0) (H4 : N6 = N1) (H5 : N7 = N2) : eAeq (F2) (F3) (N3) := by
  subst H3; subst H4; subst H5
  exact (eSpl_fun H0 H1 H2).2.2
theorem M_aeq0 {F0 F1 : Int → Int} {N0 : Int} (H0 : N0 ≤ 0) : eAeq (F0) (F1) (N0) := by
  exact fun x x0 x1 => absurd x1 (by omega)
/-! THE PLACES TO STOP AT: the rules (written by wip/p2/grp.py) -/
section
variable {fs : List (Int → Int)} {zs : List Int}
theorem s_isp {a0 i0 i1 i2 : Nat} : SnOk fs zs (1183, [1, a0, i0, i1, i2], []) ↔ eIsp (nthF fs a0) (nthZ zs i0) (nthZ zs i1) (nthZ zs i2) := Iff.rfl
theorem s_fst {a0 i0 i1 i2 : Nat} : SnOk fs zs (1184, [1, a0, i0, i1, i2], []) ↔ eFst (nthF fs a0) (nthZ zs i0) (nthZ zs i1) (nthZ zs i2) := Iff.rfl
theorem s_aeq {a0 a1 i0 : Nat} : SnOk fs zs (1185, [2, a0, a1, i0], []) ↔ eAeq (nthF fs a0) (nthF fs a1) (nthZ zs i0) := Iff.rfl
theorem s_spl {a0 a1 i0 i1 i2 i3 i4 : Nat} : SnOk fs zs (1186, [2, a0, a1, i0, i1, i2, i3, i4], []) ↔ eSpl (nthF fs a0) (nthF fs a1) (nthZ zs i0) (nthZ zs i1) (nthZ zs i2) (nthZ zs i3) (nthZ zs i4) := Iff.rfl
end
def q_isp0 : qRl := ([(25, [1, 0, 3, 4, 1], []), sp 0 [(3, (-1))], sp 0 [(4, 1), (0, (-1))], sp 0 [(2, (-1))]], [(1183, [1, 0, 0, 1, 2], [])])
theorem q_isp0_ok : RlOk q_isp0 := by
  intro fs zs h x hx
  obtain ⟨P0, h⟩ := snAll h
  replace P0 := s_nev.mp P0
  obtain ⟨P1, h⟩ := snAll h
  replace P1 := sp_1.mp P1
  obtain ⟨P2, h⟩ := snAll h
  replace P2 := sp_2.mp P2
  obtain ⟨P3, h⟩ := snAll h
  replace P3 := sp_1.mp P3
  have L : eIsp ((nthF fs 0)) ((nthZ zs 0)) ((nthZ zs 1)) ((nthZ zs 2)) := by
    apply M_isp0 (F0 := nthF fs 0) (N0 := nthZ zs 0) (N1 := nthZ zs 1) (N2 := nthZ zs 2) (N3 := nthZ zs 3) (N4 := nthZ zs 4) <;> first | assumption | omega
  rcases List.mem_cons.mp hx with hx | hx
  · rw [hx]; refine s_isp.mpr ?_; exact L
  · cases hx
def q_isp1 : qRl := ([(1019, [1, 0, 3, 4, 1], []), sp 0 [(3, 1)], sp 0 [(0, 1), (4, (-1))], sp (-1) [(2, 1)]], [(1183, [1, 0, 0, 1, 2], [])])
theorem q_isp1_ok : RlOk q_isp1 := by
  intro fs zs h x hx
  obtain ⟨P0, h⟩ := snAll h
  replace P0 := s_ex.mp P0
  obtain ⟨P1, h⟩ := snAll h
  replace P1 := sp_1.mp P1
  obtain ⟨P2, h⟩ := snAll h
  replace P2 := sp_2.mp P2
  obtain ⟨P3, h⟩ := snAll h
  replace P3 := sp_1.mp P3
  have L : eIsp ((nthF fs 0)) ((nthZ zs 0)) ((nthZ zs 1)) ((nthZ zs 2)) := by
    apply M_isp1 (F0 := nthF fs 0) (N0 := nthZ zs 0) (N1 := nthZ zs 1) (N2 := nthZ zs 2) (N3 := nthZ zs 3) (N4 := nthZ zs 4) <;> first | assumption | omega
  rcases List.mem_cons.mp hx with hx | hx
  · rw [hx]; refine s_isp.mpr ?_; exact L
  · cases hx
def q_fst0 : qRl := ([(25, [1, 0, 3, 2, 1], []), sp 0 [(3, (-1))], sp 0 [(2, 1), (0, (-1))], sp 0 [(0, 1), (2, (-1))], sp 0 [(2, 1)]], [(1184, [1, 0, 0, 1, 2], [])])
theorem q_fst0_ok : RlOk q_fst0 := by
  intro fs zs h x hx
  obtain ⟨P0, h⟩ := snAll h
  replace P0 := s_nev.mp P0
  obtain ⟨P1, h⟩ := snAll h
  replace P1 := sp_1.mp P1
  obtain ⟨P2, h⟩ := snAll h
  replace P2 := sp_2.mp P2
  obtain ⟨P3, h⟩ := snAll h
  replace P3 := sp_2.mp P3
  obtain ⟨P4, h⟩ := snAll h
  replace P4 := sp_1.mp P4
  have L : eFst ((nthF fs 0)) ((nthZ zs 0)) ((nthZ zs 1)) ((nthZ zs 2)) := by
    apply M_fst0 (F0 := nthF fs 0) (N0 := nthZ zs 0) (N1 := nthZ zs 1) (N2 := nthZ zs 2) (N3 := nthZ zs 3) <;> first | assumption | omega
  rcases List.mem_cons.mp hx with hx | hx
  · rw [hx]; refine s_fst.mpr ?_; exact L
  · cases hx
def q_fst1 : qRl := ([(25, [1, 0, 3, 2, 1], []), sp 0 [(3, (-1))], (1, [0, 2, 4], []), sp 0 [(4, 1), (1, (-1))], sp 0 [(1, 1), (4, (-1))], sp 0 [(2, 1)], sp (-1) [(0, 1), (2, (-1))]], [(1184, [1, 0, 0, 1, 2], [])])
theorem q_fst1_ok : RlOk q_fst1 := by
  intro fs zs h x hx
  obtain ⟨P0, h⟩ := snAll h
  replace P0 := s_nev.mp P0
  obtain ⟨P1, h⟩ := snAll h
  replace P1 := sp_1.mp P1
  obtain ⟨P2, h⟩ := snAll h
  replace P2 := s_rd.mp P2
  obtain ⟨P3, h⟩ := snAll h
  replace P3 := sp_2.mp P3
  obtain ⟨P4, h⟩ := snAll h
  replace P4 := sp_2.mp P4
  obtain ⟨P5, h⟩ := snAll h
  replace P5 := sp_1.mp P5
  obtain ⟨P6, h⟩ := snAll h
  replace P6 := sp_2.mp P6
  have L : eFst ((nthF fs 0)) ((nthZ zs 0)) ((nthZ zs 1)) ((nthZ zs 2)) := by
    apply M_fst1 (F0 := nthF fs 0) (N0 := nthZ zs 0) (N1 := nthZ zs 1) (N2 := nthZ zs 2) (N3 := nthZ zs 3) (N4 := nthZ zs 4) <;> first | assumption | omega
  rcases List.mem_cons.mp hx with hx | hx
  · rw [hx]; refine s_fst.mpr ?_; exact L
  · cases hx
def q_aeqI : qRl := ([sp 0 []], [(1185, [2, 0, 0, 0], [])])
theorem q_aeqI_ok : RlOk q_aeqI := by
  intro fs zs h x hx
  obtain ⟨P0, h⟩ := snAll h
  replace P0 := sp_0.mp P0
  have L : eAeq ((nthF fs 0)) ((nthF fs 0)) ((nthZ zs 0)) := by
    apply M_aeqI (F0 := nthF fs 0) (N0 := nthZ zs 0) <;> first | assumption | omega
  rcases List.mem_cons.mp hx with hx | hx
  · rw [hx]; refine s_aeq.mpr ?_; exact L
  · cases hx
def q_spl1 : qRl := ([(1183, [1, 0, 0, 1, 5], []), sp (-1) [(5, 1)], sp (-1) [(2, 1)], sp 0 [(3, 1), (0, (-1))], sp 0 [(0, 1), (3, (-1))], sp 0 [(4, (-1))], sp 0 [(4, 1)]], [(1186, [2, 0, 0, 0, 1, 2, 3, 4], [])])
theorem q_spl1_ok : RlOk q_spl1 := by
  intro fs zs h x hx
  obtain ⟨P0, h⟩ := snAll h
  replace P0 := s_isp.mp P0
  obtain ⟨P1, h⟩ := snAll h
  replace P1 := sp_1.mp P1
  obtain ⟨P2, h⟩ := snAll h
  replace P2 := sp_1.mp P2
  obtain ⟨P3, h⟩ := snAll h
  replace P3 := sp_2.mp P3
  obtain ⟨P4, h⟩ := snAll h
  replace P4 := sp_2.mp P4
  obtain ⟨P5, h⟩ := snAll h
  replace P5 := sp_1.mp P5
  obtain ⟨P6, h⟩ := snAll h
  replace P6 := sp_1.mp P6
  have L : eSpl ((nthF fs 0)) ((nthF fs 0)) ((nthZ zs 0)) ((nthZ zs 1)) ((nthZ zs 2)) ((nthZ zs 3)) ((nthZ zs 4)) := by
    apply M_spl1 (F0 := nthF fs 0) (N0 := nthZ zs 0) (N1 := nthZ zs 1) (N2 := nthZ zs 2) (N3 := nthZ zs 3) (N4 := nthZ zs 4) (N5 := nthZ zs 5) <;> first | assumption | omega
  rcases List.mem_cons.mp hx with hx | hx
  · rw [hx]; refine s_spl.mpr ?_; exact L
  · cases hx
def q_spl2 : qRl := ([(1183, [1, 0, 0, 1, 5], []), sp (-16) [(0, 1)], sp (-1) [(2, 1)], sp 0 [(3, 1), (0, (-1))], sp 0 [(0, 1), (3, (-1))], sp 0 [(4, (-1))], sp 0 [(4, 1)]], [(1186, [2, 0, 0, 0, 1, 2, 3, 4], [])])
theorem q_spl2_ok : RlOk q_spl2 := by
  intro fs zs h x hx
  obtain ⟨P0, h⟩ := snAll h
  replace P0 := s_isp.mp P0
  obtain ⟨P1, h⟩ := snAll h
  replace P1 := sp_1.mp P1
  obtain ⟨P2, h⟩ := snAll h
  replace P2 := sp_1.mp P2
  obtain ⟨P3, h⟩ := snAll h
  replace P3 := sp_2.mp P3
  obtain ⟨P4, h⟩ := snAll h
  replace P4 := sp_2.mp P4
  obtain ⟨P5, h⟩ := snAll h
  replace P5 := sp_1.mp P5
  obtain ⟨P6, h⟩ := snAll h
  replace P6 := sp_1.mp P6
  have L : eSpl ((nthF fs 0)) ((nthF fs 0)) ((nthZ zs 0)) ((nthZ zs 1)) ((nthZ zs 2)) ((nthZ zs 3)) ((nthZ zs 4)) := by
    apply M_spl2 (F0 := nthF fs 0) (N0 := nthZ zs 0) (N1 := nthZ zs 1) (N2 := nthZ zs 2) (N3 := nthZ zs 3) (N4 := nthZ zs 4) (N5 := nthZ zs 5) <;> first | assumption | omega
  rcases List.mem_cons.mp hx with hx | hx
  · rw [hx]; refine s_spl.mpr ?_; exact L
  · cases hx
def q_spl3 : qRl := ([(2, [1, 0, 6, 7], []), (1183, [1, 0, 0, 1, 5], []), sp 0 [(5, (-1))], sp 15 [(0, (-1))], sp 0 [(6, 1), (0, (-1))], sp 0 [(0, 1), (6, (-1))], sp 0 [(7, 1), (1, (-1))], sp 0 [(1, 1), (7, (-1))], sp (-1) [(2, 1)], sp (-1) [(3, 1), (0, (-1))], sp 1 [(0, 1), (3, (-1))], sp (-1) [(4, 1)], sp 1 [(4, (-1))]], [(1186, [2, 0, 1, 0, 1, 2, 3, 4], [])])
theorem q_spl3_ok : RlOk q_spl3 := by
  intro fs zs h x hx
  obtain ⟨P0, h⟩ := snAll h
  replace P0 := s_wr.mp P0
  obtain ⟨P1, h⟩ := snAll h
  replace P1 := s_isp.mp P1
  obtain ⟨P2, h⟩ := snAll h
  replace P2 := sp_1.mp P2
  obtain ⟨P3, h⟩ := snAll h
  replace P3 := sp_1.mp P3
  obtain ⟨P4, h⟩ := snAll h
  replace P4 := sp_2.mp P4
  obtain ⟨P5, h⟩ := snAll h
  replace P5 := sp_2.mp P5
  obtain ⟨P6, h⟩ := snAll h
  replace P6 := sp_2.mp P6
  obtain ⟨P7, h⟩ := snAll h
  replace P7 := sp_2.mp P7
  obtain ⟨P8, h⟩ := snAll h
  replace P8 := sp_1.mp P8
  obtain ⟨P9, h⟩ := snAll h
  replace P9 := sp_2.mp P9
  obtain ⟨P10, h⟩ := snAll h
  replace P10 := sp_2.mp P10
  obtain ⟨P11, h⟩ := snAll h
  replace P11 := sp_1.mp P11
  obtain ⟨P12, h⟩ := snAll h
  replace P12 := sp_1.mp P12
  have L : eSpl ((nthF fs 0)) ((nthF fs 1)) ((nthZ zs 0)) ((nthZ zs 1)) ((nthZ zs 2)) ((nthZ zs 3)) ((nthZ zs 4)) := by
    apply M_spl3 (F0 := nthF fs 0) (F1 := nthF fs 1) (N0 := nthZ zs 0) (N1 := nthZ zs 1) (N2 := nthZ zs 2) (N3 := nthZ zs 3) (N4 := nthZ zs 4) (N5 := nthZ zs 5) (N6 := nthZ zs 6) (N7 := nthZ zs 7) <;> first | assumption | omega
  rcases List.mem_cons.mp hx with hx | hx
  · rw [hx]; refine s_spl.mpr ?_; exact L
  · cases hx
def q_spl4 : qRl := ([(1183, [1, 0, 0, 1, 5], []), sp 0 [(5, (-1))], sp 0 [(2, (-1))], sp 0 [(3, 1), (0, (-1))], sp 0 [(0, 1), (3, (-1))], sp 0 [(4, (-1))], sp 0 [(4, 1)]], [(1186, [2, 0, 0, 0, 1, 2, 3, 4], [])])
theorem q_spl4_ok : RlOk q_spl4 := by
  intro fs zs h x hx
  obtain ⟨P0, h⟩ := snAll h
  replace P0 := s_isp.mp P0
  obtain ⟨P1, h⟩ := snAll h
  replace P1 := sp_1.mp P1
  obtain ⟨P2, h⟩ := snAll h
  replace P2 := sp_1.mp P2
  obtain ⟨P3, h⟩ := snAll h
  replace P3 := sp_2.mp P3
  obtain ⟨P4, h⟩ := snAll h
  replace P4 := sp_2.mp P4
  obtain ⟨P5, h⟩ := snAll h
  replace P5 := sp_1.mp P5
  obtain ⟨P6, h⟩ := snAll h
  replace P6 := sp_1.mp P6
  have L : eSpl ((nthF fs 0)) ((nthF fs 0)) ((nthZ zs 0)) ((nthZ zs 1)) ((nthZ zs 2)) ((nthZ zs 3)) ((nthZ zs 4)) := by
    apply M_spl4 (F0 := nthF fs 0) (N0 := nthZ zs 0) (N1 := nthZ zs 1) (N2 := nthZ zs 2) (N3 := nthZ zs 3) (N4 := nthZ zs 4) (N5 := nthZ zs 5) <;> first | assumption | omega
  rcases List.mem_cons.mp hx with hx | hx
  · rw [hx]; refine s_spl.mpr ?_; exact L
  · cases hx
def q_spl5 : qRl := ([(2, [1, 0, 5, 6], []), (1184, [1, 0, 0, 1, 7], []), sp 0 [(7, 1), (5, (-1))], sp 0 [(5, 1), (7, (-1))], (1, [0, 9, 6], []), sp 1 [(9, 1), (0, (-1))], sp (-1) [(0, 1), (9, (-1))], sp 0 [(5, 1)], sp (-1) [(0, 1), (5, (-1))], sp 0 [(2, (-1))], sp 1 [(3, 1), (0, (-1))], sp (-1) [(0, 1), (3, (-1))], sp (-1) [(4, 1)], sp 1 [(4, (-1))]], [(1186, [2, 0, 1, 0, 1, 2, 3, 4], [])])
theorem q_spl5_ok : RlOk q_spl5 := by
  intro fs zs h x hx
  obtain ⟨P0, h⟩ := snAll h
  replace P0 := s_wr.mp P0
  obtain ⟨P1, h⟩ := snAll h
  replace P1 := s_fst.mp P1
  obtain ⟨P2, h⟩ := snAll h
  replace P2 := sp_2.mp P2
  obtain ⟨P3, h⟩ := snAll h
  replace P3 := sp_2.mp P3
  obtain ⟨P4, h⟩ := snAll h
  replace P4 := s_rd.mp P4
  obtain ⟨P5, h⟩ := snAll h
  replace P5 := sp_2.mp P5
  obtain ⟨P6, h⟩ := snAll h
  replace P6 := sp_2.mp P6
  obtain ⟨P7, h⟩ := snAll h
  replace P7 := sp_1.mp P7
  obtain ⟨P8, h⟩ := snAll h
  replace P8 := sp_2.mp P8
  obtain ⟨P9, h⟩ := snAll h
  replace P9 := sp_1.mp P9
  obtain ⟨P10, h⟩ := snAll h
  replace P10 := sp_2.mp P10
  obtain ⟨P11, h⟩ := snAll h
  replace P11 := sp_2.mp P11
  obtain ⟨P12, h⟩ := snAll h
  replace P12 := sp_1.mp P12
  obtain ⟨P13, h⟩ := snAll h
  replace P13 := sp_1.mp P13
  have L : eSpl ((nthF fs 0)) ((nthF fs 1)) ((nthZ zs 0)) ((nthZ zs 1)) ((nthZ zs 2)) ((nthZ zs 3)) ((nthZ zs 4)) := by
    apply M_spl5 (F0 := nthF fs 0) (F1 := nthF fs 1) (N0 := nthZ zs 0) (N1 := nthZ zs 1) (N2 := nthZ zs 2) (N3 := nthZ zs 3) (N4 := nthZ zs 4) (N5 := nthZ zs 5) (N6 := nthZ zs 6) (N7 := nthZ zs 7) (N8 := nthZ zs 8) (N9 := nthZ zs 9) <;> first | assumption | omega
  rcases List.mem_cons.mp hx with hx | hx
  · rw [hx]; refine s_spl.mpr ?_; exact L
  · cases hx
def q_spl6 : qRl := ([(2, [2, 1, 5, 6], []), (1185, [2, 0, 1, 11], []), sp 0 [(11, 1), (0, (-1))], (25, [1, 1, 7, 10, 1], []), sp 0 [(7, (-1))], sp 0 [(10, 1), (5, (-1))], sp 0 [(5, 1), (10, (-1))], (1, [1, 5, 8], []), sp 0 [(8, 1), (1, (-1))], sp 0 [(1, 1), (8, (-1))], (1, [1, 9, 6], []), sp 1 [(9, 1), (0, (-1))], sp (-1) [(0, 1), (9, (-1))], sp 0 [(5, 1)], sp (-1) [(0, 1), (5, (-1))], sp 0 [(2, (-1))], sp 1 [(3, 1), (0, (-1))], sp (-1) [(0, 1), (3, (-1))], sp (-1) [(4, 1)], sp 1 [(4, (-1))]], [(1186, [2, 0, 2, 0, 1, 2, 3, 4], [])])
theorem q_spl6_ok : RlOk q_spl6 := by
  intro fs zs h x hx
  obtain ⟨P0, h⟩ := snAll h
  replace P0 := s_wr.mp P0
  obtain ⟨P1, h⟩ := snAll h
  replace P1 := s_aeq.mp P1
  obtain ⟨P2, h⟩ := snAll h
  replace P2 := sp_2.mp P2
  obtain ⟨P3, h⟩ := snAll h
  replace P3 := s_nev.mp P3
  obtain ⟨P4, h⟩ := snAll h
  replace P4 := sp_1.mp P4
  obtain ⟨P5, h⟩ := snAll h
  replace P5 := sp_2.mp P5
  obtain ⟨P6, h⟩ := snAll h
  replace P6 := sp_2.mp P6
  obtain ⟨P7, h⟩ := snAll h
  replace P7 := s_rd.mp P7
  obtain ⟨P8, h⟩ := snAll h
  replace P8 := sp_2.mp P8
  obtain ⟨P9, h⟩ := snAll h
  replace P9 := sp_2.mp P9
  obtain ⟨P10, h⟩ := snAll h
  replace P10 := s_rd.mp P10
  obtain ⟨P11, h⟩ := snAll h
  replace P11 := sp_2.mp P11
  obtain ⟨P12, h⟩ := snAll h
  replace P12 := sp_2.mp P12
  obtain ⟨P13, h⟩ := snAll h
  replace P13 := sp_1.mp P13
  obtain ⟨P14, h⟩ := snAll h
  replace P14 := sp_2.mp P14
  obtain ⟨P15, h⟩ := snAll h
  replace P15 := sp_1.mp P15
  obtain ⟨P16, h⟩ := snAll h
  replace P16 := sp_2.mp P16
  obtain ⟨P17, h⟩ := snAll h
  replace P17 := sp_2.mp P17
  obtain ⟨P18, h⟩ := snAll h
  replace P18 := sp_1.mp P18
  obtain ⟨P19, h⟩ := snAll h
  replace P19 := sp_1.mp P19
  have L : eSpl ((nthF fs 0)) ((nthF fs 2)) ((nthZ zs 0)) ((nthZ zs 1)) ((nthZ zs 2)) ((nthZ zs 3)) ((nthZ zs 4)) := by
    apply M_spl6 (F0 := nthF fs 0) (F1 := nthF fs 1) (F2 := nthF fs 2) (N0 := nthZ zs 0) (N1 := nthZ zs 1) (N2 := nthZ zs 2) (N3 := nthZ zs 3) (N4 := nthZ zs 4) (N5 := nthZ zs 5) (N6 := nthZ zs 6) (N7 := nthZ zs 7) (N8 := nthZ zs 8) (N9 := nthZ zs 9) (N10 := nthZ zs 10) (N11 := nthZ zs 11) <;> first | assumption | omega
  rcases List.mem_cons.mp hx with hx | hx
  · rw [hx]; refine s_spl.mpr ?_; exact L
  · cases hx
def q_spf1 : qRl := ([(1184, [1, 0, 0, 1, 5], []), sp (-1) [(0, 1), (5, (-1))], sp (-1) [(2, 1)], sp 0 [(3, 1), (0, (-1))], sp 0 [(0, 1), (3, (-1))], sp 0 [(4, (-1))], sp 0 [(4, 1)]], [(1186, [2, 0, 0, 0, 1, 2, 3, 4], [])])
theorem q_spf1_ok : RlOk q_spf1 := by
  intro fs zs h x hx
  obtain ⟨P0, h⟩ := snAll h
  replace P0 := s_fst.mp P0
  obtain ⟨P1, h⟩ := snAll h
  replace P1 := sp_2.mp P1
  obtain ⟨P2, h⟩ := snAll h
  replace P2 := sp_1.mp P2
  obtain ⟨P3, h⟩ := snAll h
  replace P3 := sp_2.mp P3
  obtain ⟨P4, h⟩ := snAll h
  replace P4 := sp_2.mp P4
  obtain ⟨P5, h⟩ := snAll h
  replace P5 := sp_1.mp P5
  obtain ⟨P6, h⟩ := snAll h
  replace P6 := sp_1.mp P6
  have L : eSpl ((nthF fs 0)) ((nthF fs 0)) ((nthZ zs 0)) ((nthZ zs 1)) ((nthZ zs 2)) ((nthZ zs 3)) ((nthZ zs 4)) := by
    apply M_spf1 (F0 := nthF fs 0) (N0 := nthZ zs 0) (N1 := nthZ zs 1) (N2 := nthZ zs 2) (N3 := nthZ zs 3) (N4 := nthZ zs 4) (N5 := nthZ zs 5) <;> first | assumption | omega
  rcases List.mem_cons.mp hx with hx | hx
  · rw [hx]; refine s_spl.mpr ?_; exact L
  · cases hx
def q_spf2 : qRl := ([(1184, [1, 0, 0, 1, 5], []), sp (-16) [(0, 1)], sp (-1) [(2, 1)], sp 0 [(3, 1), (0, (-1))], sp 0 [(0, 1), (3, (-1))], sp 0 [(4, (-1))], sp 0 [(4, 1)]], [(1186, [2, 0, 0, 0, 1, 2, 3, 4], [])])
theorem q_spf2_ok : RlOk q_spf2 := by
  intro fs zs h x hx
  obtain ⟨P0, h⟩ := snAll h
  replace P0 := s_fst.mp P0
  obtain ⟨P1, h⟩ := snAll h
  replace P1 := sp_1.mp P1
  obtain ⟨P2, h⟩ := snAll h
  replace P2 := sp_1.mp P2
  obtain ⟨P3, h⟩ := snAll h
  replace P3 := sp_2.mp P3
  obtain ⟨P4, h⟩ := snAll h
  replace P4 := sp_2.mp P4
  obtain ⟨P5, h⟩ := snAll h
  replace P5 := sp_1.mp P5
  obtain ⟨P6, h⟩ := snAll h
  replace P6 := sp_1.mp P6
  have L : eSpl ((nthF fs 0)) ((nthF fs 0)) ((nthZ zs 0)) ((nthZ zs 1)) ((nthZ zs 2)) ((nthZ zs 3)) ((nthZ zs 4)) := by
    apply M_spf2 (F0 := nthF fs 0) (N0 := nthZ zs 0) (N1 := nthZ zs 1) (N2 := nthZ zs 2) (N3 := nthZ zs 3) (N4 := nthZ zs 4) (N5 := nthZ zs 5) <;> first | assumption | omega
  rcases List.mem_cons.mp hx with hx | hx
  · rw [hx]; refine s_spl.mpr ?_; exact L
  · cases hx
def q_spf3 : qRl := ([(2, [1, 0, 6, 7], []), (1184, [1, 0, 0, 1, 5], []), sp 0 [(5, 1), (0, (-1))], sp 15 [(0, (-1))], sp 0 [(6, 1), (0, (-1))], sp 0 [(0, 1), (6, (-1))], sp 0 [(7, 1), (1, (-1))], sp 0 [(1, 1), (7, (-1))], sp (-1) [(2, 1)], sp (-1) [(3, 1), (0, (-1))], sp 1 [(0, 1), (3, (-1))], sp (-1) [(4, 1)], sp 1 [(4, (-1))]], [(1186, [2, 0, 1, 0, 1, 2, 3, 4], [])])
theorem q_spf3_ok : RlOk q_spf3 := by
  intro fs zs h x hx
  obtain ⟨P0, h⟩ := snAll h
  replace P0 := s_wr.mp P0
  obtain ⟨P1, h⟩ := snAll h
  replace P1 := s_fst.mp P1
  obtain ⟨P2, h⟩ := snAll h
  replace P2 := sp_2.mp P2
  obtain ⟨P3, h⟩ := snAll h
  replace P3 := sp_1.mp P3
  obtain ⟨P4, h⟩ := snAll h
  replace P4 := sp_2.mp P4
  obtain ⟨P5, h⟩ := snAll h
  replace P5 := sp_2.mp P5
  obtain ⟨P6, h⟩ := snAll h
  replace P6 := sp_2.mp P6
  obtain ⟨P7, h⟩ := snAll h
  replace P7 := sp_2.mp P7
  obtain ⟨P8, h⟩ := snAll h
  replace P8 := sp_1.mp P8
  obtain ⟨P9, h⟩ := snAll h
  replace P9 := sp_2.mp P9
  obtain ⟨P10, h⟩ := snAll h
  replace P10 := sp_2.mp P10
  obtain ⟨P11, h⟩ := snAll h
  replace P11 := sp_1.mp P11
  obtain ⟨P12, h⟩ := snAll h
  replace P12 := sp_1.mp P12
  have L : eSpl ((nthF fs 0)) ((nthF fs 1)) ((nthZ zs 0)) ((nthZ zs 1)) ((nthZ zs 2)) ((nthZ zs 3)) ((nthZ zs 4)) := by
    apply M_spf3 (F0 := nthF fs 0) (F1 := nthF fs 1) (N0 := nthZ zs 0) (N1 := nthZ zs 1) (N2 := nthZ zs 2) (N3 := nthZ zs 3) (N4 := nthZ zs 4) (N5 := nthZ zs 5) (N6 := nthZ zs 6) (N7 := nthZ zs 7) <;> first | assumption | omega
  rcases List.mem_cons.mp hx with hx | hx
  · rw [hx]; refine s_spl.mpr ?_; exact L
  · cases hx
def q_spf4 : qRl := ([(1184, [1, 0, 0, 1, 5], []), sp 0 [(5, 1), (0, (-1))], sp 0 [(2, (-1))], sp 0 [(3, 1), (0, (-1))], sp 0 [(0, 1), (3, (-1))], sp 0 [(4, (-1))], sp 0 [(4, 1)]], [(1186, [2, 0, 0, 0, 1, 2, 3, 4], [])])
theorem q_spf4_ok : RlOk q_spf4 := by
  intro fs zs h x hx
  obtain ⟨P0, h⟩ := snAll h
  replace P0 := s_fst.mp P0
  obtain ⟨P1, h⟩ := snAll h
  replace P1 := sp_2.mp P1
  obtain ⟨P2, h⟩ := snAll h
  replace P2 := sp_1.mp P2
  obtain ⟨P3, h⟩ := snAll h
  replace P3 := sp_2.mp P3
  obtain ⟨P4, h⟩ := snAll h
  replace P4 := sp_2.mp P4
  obtain ⟨P5, h⟩ := snAll h
  replace P5 := sp_1.mp P5
  obtain ⟨P6, h⟩ := snAll h
  replace P6 := sp_1.mp P6
  have L : eSpl ((nthF fs 0)) ((nthF fs 0)) ((nthZ zs 0)) ((nthZ zs 1)) ((nthZ zs 2)) ((nthZ zs 3)) ((nthZ zs 4)) := by
    apply M_spf4 (F0 := nthF fs 0) (N0 := nthZ zs 0) (N1 := nthZ zs 1) (N2 := nthZ zs 2) (N3 := nthZ zs 3) (N4 := nthZ zs 4) (N5 := nthZ zs 5) <;> first | assumption | omega
  rcases List.mem_cons.mp hx with hx | hx
  · rw [hx]; refine s_spl.mpr ?_; exact L
  · cases hx
def q_aeqR : qRl := ([(1185, [2, 0, 1, 0], []), (1186, [2, 0, 2, 0, 1, 2, 3, 4], []), (1186, [2, 1, 3, 5, 6, 7, 8, 9], []), sp 0 [(5, 1), (0, (-1))], sp 0 [(0, 1), (5, (-1))], sp 0 [(6, 1), (1, (-1))], sp 0 [(1, 1), (6, (-1))], sp 0 [(7, 1), (2, (-1))], sp 0 [(2, 1), (7, (-1))]], [sp 0 [(9, 1), (4, (-1))], sp 0 [(4, 1), (9, (-1))], sp 0 [(8, 1), (3, (-1))], sp 0 [(3, 1), (8, (-1))]])
theorem q_aeqR_ok : RlOk q_aeqR := by
  intro fs zs h x hx
  obtain ⟨P0, h⟩ := snAll h
  replace P0 := s_aeq.mp P0
  obtain ⟨P1, h⟩ := snAll h
  replace P1 := s_spl.mp P1
  obtain ⟨P2, h⟩ := snAll h
  replace P2 := s_spl.mp P2
  obtain ⟨P3, h⟩ := snAll h
  replace P3 := sp_2.mp P3
  obtain ⟨P4, h⟩ := snAll h
  replace P4 := sp_2.mp P4
  obtain ⟨P5, h⟩ := snAll h
  replace P5 := sp_2.mp P5
  obtain ⟨P6, h⟩ := snAll h
  replace P6 := sp_2.mp P6
  obtain ⟨P7, h⟩ := snAll h
  replace P7 := sp_2.mp P7
  obtain ⟨P8, h⟩ := snAll h
  replace P8 := sp_2.mp P8
  have L : ((nthZ zs 4) ≤ (nthZ zs 9)) ∧ ((nthZ zs 9) ≤ (nthZ zs 4)) ∧ ((nthZ zs 3) ≤ (nthZ zs 8)) ∧ ((nthZ zs 8) ≤ (nthZ zs 3)) := by
    apply M_aeqR (F0 := nthF fs 0) (F1 := nthF fs 1) (F2 := nthF fs 2) (F3 := nthF fs 3) (N0 := nthZ zs 0) (N1 := nthZ zs 1) (N2 := nthZ zs 2) (N3 := nthZ zs 3) (N4 := nthZ zs 4) (N5 := nthZ zs 5) (N6 := nthZ zs 6) (N7 := nthZ zs 7) (N8 := nthZ zs 8) (N9 := nthZ zs 9) <;> first | assumption | omega
  obtain ⟨L0, L1, L2, L3⟩ := L
  rcases List.mem_cons.mp hx with hx | hx
  · rw [hx]; refine sp_2.mpr ?_; omega
  rcases List.mem_cons.mp hx with hx | hx
  · rw [hx]; refine sp_2.mpr ?_; omega
  rcases List.mem_cons.mp hx with hx | hx
  · rw [hx]; refine sp_2.mpr ?_; omega
  rcases List.mem_cons.mp hx with hx | hx
  · rw [hx]; refine sp_2.mpr ?_; omega
  · cases hx
def q_aeqS : qRl := ([(1185, [2, 0, 1, 0], []), (1186, [2, 0, 2, 0, 1, 2, 3, 4], []), (1186, [2, 1, 3, 5, 6, 7, 8, 9], []), sp 0 [(5, 1), (0, (-1))], sp 0 [(0, 1), (5, (-1))], sp 0 [(6, 1), (1, (-1))], sp 0 [(1, 1), (6, (-1))], sp 0 [(7, 1), (2, (-1))], sp 0 [(2, 1), (7, (-1))]], [(1185, [2, 2, 3, 3], [])])
theorem q_aeqS_ok : RlOk q_aeqS := by
  intro fs zs h x hx
  obtain ⟨P0, h⟩ := snAll h
  replace P0 := s_aeq.mp P0
  obtain ⟨P1, h⟩ := snAll h
  replace P1 := s_spl.mp P1
  obtain ⟨P2, h⟩ := snAll h
  replace P2 := s_spl.mp P2
  obtain ⟨P3, h⟩ := snAll h
  replace P3 := sp_2.mp P3
  obtain ⟨P4, h⟩ := snAll h
  replace P4 := sp_2.mp P4
  obtain ⟨P5, h⟩ := snAll h
  replace P5 := sp_2.mp P5
  obtain ⟨P6, h⟩ := snAll h
  replace P6 := sp_2.mp P6
  obtain ⟨P7, h⟩ := snAll h
  replace P7 := sp_2.mp P7
  obtain ⟨P8, h⟩ := snAll h
  replace P8 := sp_2.mp P8
  have L : eAeq ((nthF fs 2)) ((nthF fs 3)) ((nthZ zs 3)) := by
    apply M_aeqS (F0 := nthF fs 0) (F1 := nthF fs 1) (F2 := nthF fs 2) (F3 := nthF fs 3) (N0 := nthZ zs 0) (N1 := nthZ zs 1) (N2 := nthZ zs 2) (N3 := nthZ zs 3) (N4 := nthZ zs 4) (N5 := nthZ zs 5) (N6 := nthZ zs 6) (N7 := nthZ zs 7) (N8 := nthZ zs 8) (N9 := nthZ zs 9) <;> first | assumption | omega
  rcases List.mem_cons.mp hx with hx | hx
  · rw [hx]; refine s_aeq.mpr ?_; exact L
  · cases hx
def q_aeq0 : qRl := ([sp 0 [(0, (-1))]], [(1185, [2, 0, 1, 0], [])])
theorem q_aeq0_ok : RlOk q_aeq0 := by
  intro fs zs h x hx
  obtain ⟨P0, h⟩ := snAll h
  replace P0 := sp_1.mp P0
  have L : eAeq ((nthF fs 0)) ((nthF fs 1)) ((nthZ zs 0)) := by
    apply M_aeq0 (F0 := nthF fs 0) (F1 := nthF fs 1) (N0 := nthZ zs 0) <;> first | assumption | omega
  rcases List.mem_cons.mp hx with hx | hx
  · rw [hx]; refine s_aeq.mpr ?_; exact L
  · cases hx
