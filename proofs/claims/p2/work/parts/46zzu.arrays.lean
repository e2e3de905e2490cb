
theorem M_awcI {F0 : Int → Int} {N0 N1 N2 N3 : Int} (H0 : ∀ x : Int, (N1) ≤ x → x < (N2) → (F0) x ∈ kvWc) (H1 : F0 N0 = N3) (H2 : N1 ≤ N0) (H3 : N0 + 1 ≤ N2) : (N3) ∈ kvWc := by
  rw [← H1]
  exact H0 N0 (by omega) (by omega)
theorem M_arcI {F0 : Int → Int} {N0 N1 N2 N3 : Int} (H0 : ∀ x : Int, (N1) ≤ x → x < (N2) → (F0) x ∈ kvRc) (H1 : F0 N0 = N3) (H2 : N1 ≤ N0) (H3 : N0 + 1 ≤ N2) : (N3) ∈ kvRc := by
  rw [← H1]
  exact H0 N0 (by omega) (by omega)
theorem M_am6I {F0 : Int → Int} {N0 N1 N2 N3 : Int} (H0 : ∀ x : Int, (N1) ≤ x → x < (N2) → cM6 ((F0) x)) (H1 : F0 N0 = N3) (H2 : N1 ≤ N0) (H3 : N0 + 1 ≤ N2) : cM6 (N3) := by
  rw [← H1]
  exact H0 N0 (by omega) (by omega)
theorem M_aknI {F0 : Int → Int} {N0 N1 N2 N3 : Int} (H0 : ∀ x : Int, (N1) ≤ x → x < (N2) → cKna x ((F0) x)) (H1 : F0 N0 = N3) (H2 : N1 ≤ N0) (H3 : N0 + 1 ≤ N2) : cKna (N0) (N3) := by
  rw [← H1]
  exact H0 N0 (by omega) (by omega)
theorem M_akwI {F0 : Int → Int} {N0 N1 N2 N3 : Int} (H0 : ∀ x : Int, (N1) ≤ x → x < (N2) → cKwi x ((F0) x)) (H1 : F0 N0 = N3) (H2 : N1 ≤ N0) (H3 : N0 + 1 ≤ N2) : cKwi (N0) (N3) := by
  rw [← H1]
  exact H0 N0 (by omega) (by omega)
/-! WHAT ARRAYS OF CONSTANTS HOLD: the rules (written by wip/p2/grp.py) -/
section
variable {fs : List (Int → Int)} {zs : List Int}
theorem s_awc {a0 i0 i1 : Nat} : SnOk fs zs (1175, [1, a0, i0, i1], []) ↔ ∀ x : Int, (nthZ zs i0) ≤ x → x < (nthZ zs i1) → (nthF fs a0) x ∈ kvWc := Iff.rfl
theorem s_arc {a0 i0 i1 : Nat} : SnOk fs zs (1176, [1, a0, i0, i1], []) ↔ ∀ x : Int, (nthZ zs i0) ≤ x → x < (nthZ zs i1) → (nthF fs a0) x ∈ kvRc := Iff.rfl
theorem s_am6 {a0 i0 i1 : Nat} : SnOk fs zs (1177, [1, a0, i0, i1], []) ↔ ∀ x : Int, (nthZ zs i0) ≤ x → x < (nthZ zs i1) → cM6 ((nthF fs a0) x) := Iff.rfl
theorem s_akn {a0 i0 i1 : Nat} : SnOk fs zs (1178, [1, a0, i0, i1], []) ↔ ∀ x : Int, (nthZ zs i0) ≤ x → x < (nthZ zs i1) → cKna x ((nthF fs a0) x) := Iff.rfl
theorem s_akw {a0 i0 i1 : Nat} : SnOk fs zs (1179, [1, a0, i0, i1], []) ↔ ∀ x : Int, (nthZ zs i0) ≤ x → x < (nthZ zs i1) → cKwi x ((nthF fs a0) x) := Iff.rfl
end
def q_awcI : qRl := ([(1175, [1, 0, 1, 2], []), (1, [0, 0, 3], []), sp 0 [(0, 1), (1, (-1))], sp (-1) [(2, 1), (0, (-1))]], [(1049, [0, 3], [])])
theorem q_awcI_ok : RlOk q_awcI := by
  intro fs zs h x hx
  obtain ⟨P0, h⟩ := snAll h
  replace P0 := s_awc.mp P0
  obtain ⟨P1, h⟩ := snAll h
  replace P1 := s_rd.mp P1
  obtain ⟨P2, h⟩ := snAll h
  replace P2 := sp_2.mp P2
  obtain ⟨P3, h⟩ := snAll h
  replace P3 := sp_2.mp P3
  have L : ((nthZ zs 3)) ∈ kvWc := by
    apply M_awcI (F0 := nthF fs 0) (N0 := nthZ zs 0) (N1 := nthZ zs 1) (N2 := nthZ zs 2) (N3 := nthZ zs 3) <;> first | assumption | omega
  rcases List.mem_cons.mp hx with hx | hx
  · rw [hx]; refine s_kv_m_wordCode.mpr ?_; exact L
  · cases hx
def q_arcI : qRl := ([(1176, [1, 0, 1, 2], []), (1, [0, 0, 3], []), sp 0 [(0, 1), (1, (-1))], sp (-1) [(2, 1), (0, (-1))]], [(1050, [0, 3], [])])
theorem q_arcI_ok : RlOk q_arcI := by
  intro fs zs h x hx
  obtain ⟨P0, h⟩ := snAll h
  replace P0 := s_arc.mp P0
  obtain ⟨P1, h⟩ := snAll h
  replace P1 := s_rd.mp P1
  obtain ⟨P2, h⟩ := snAll h
  replace P2 := sp_2.mp P2
  obtain ⟨P3, h⟩ := snAll h
  replace P3 := sp_2.mp P3
  have L : ((nthZ zs 3)) ∈ kvRc := by
    apply M_arcI (F0 := nthF fs 0) (N0 := nthZ zs 0) (N1 := nthZ zs 1) (N2 := nthZ zs 2) (N3 := nthZ zs 3) <;> first | assumption | omega
  rcases List.mem_cons.mp hx with hx | hx
  · rw [hx]; refine s_kv_m_registerCode.mpr ?_; exact L
  · cases hx
def q_am6I : qRl := ([(1177, [1, 0, 1, 2], []), (1, [0, 0, 3], []), sp 0 [(0, 1), (1, (-1))], sp (-1) [(2, 1), (0, (-1))]], [(1089, [0, 3], [])])
theorem q_am6I_ok : RlOk q_am6I := by
  intro fs zs h x hx
  obtain ⟨P0, h⟩ := snAll h
  replace P0 := s_am6.mp P0
  obtain ⟨P1, h⟩ := snAll h
  replace P1 := s_rd.mp P1
  obtain ⟨P2, h⟩ := snAll h
  replace P2 := sp_2.mp P2
  obtain ⟨P3, h⟩ := snAll h
  replace P3 := sp_2.mp P3
  have L : cM6 ((nthZ zs 3)) := by
    apply M_am6I (F0 := nthF fs 0) (N0 := nthZ zs 0) (N1 := nthZ zs 1) (N2 := nthZ zs 2) (N3 := nthZ zs 3) <;> first | assumption | omega
  rcases List.mem_cons.mp hx with hx | hx
  · rw [hx]; refine s_m6.mpr ?_; exact L
  · cases hx
def q_aknI : qRl := ([(1178, [1, 0, 1, 2], []), (1, [0, 0, 3], []), sp 0 [(0, 1), (1, (-1))], sp (-1) [(2, 1), (0, (-1))]], [(1112, [0, 0, 3], [])])
theorem q_aknI_ok : RlOk q_aknI := by
  intro fs zs h x hx
  obtain ⟨P0, h⟩ := snAll h
  replace P0 := s_akn.mp P0
  obtain ⟨P1, h⟩ := snAll h
  replace P1 := s_rd.mp P1
  obtain ⟨P2, h⟩ := snAll h
  replace P2 := sp_2.mp P2
  obtain ⟨P3, h⟩ := snAll h
  replace P3 := sp_2.mp P3
  have L : cKna ((nthZ zs 0)) ((nthZ zs 3)) := by
    apply M_aknI (F0 := nthF fs 0) (N0 := nthZ zs 0) (N1 := nthZ zs 1) (N2 := nthZ zs 2) (N3 := nthZ zs 3) <;> first | assumption | omega
  rcases List.mem_cons.mp hx with hx | hx
  · rw [hx]; refine s_kna.mpr ?_; exact L
  · cases hx
def q_akwI : qRl := ([(1179, [1, 0, 1, 2], []), (1, [0, 0, 3], []), sp 0 [(0, 1), (1, (-1))], sp (-1) [(2, 1), (0, (-1))]], [(1113, [0, 0, 3], [])])
theorem q_akwI_ok : RlOk q_akwI := by
  intro fs zs h x hx
  obtain ⟨P0, h⟩ := snAll h
  replace P0 := s_akw.mp P0
  obtain ⟨P1, h⟩ := snAll h
  replace P1 := s_rd.mp P1
  obtain ⟨P2, h⟩ := snAll h
  replace P2 := sp_2.mp P2
  obtain ⟨P3, h⟩ := snAll h
  replace P3 := sp_2.mp P3
  have L : cKwi ((nthZ zs 0)) ((nthZ zs 3)) := by
    apply M_akwI (F0 := nthF fs 0) (N0 := nthZ zs 0) (N1 := nthZ zs 1) (N2 := nthZ zs 2) (N3 := nthZ zs 3) <;> first | assumption | omega
  rcases List.mem_cons.mp hx with hx | hx
  · rw [hx]; refine s_kwi.mpr ?_; exact L
  · cases hx
