/-! RULES OF SPANS, OF SECTIONS PLACED (written by wip/p2/gen46y.py) -/
section
variable {fs : List (Int → Int)} {zs : List Int}
theorem s_spc {a0 a1 a2 a3 i0 i1 i2 i3 : Nat} : SnOk fs zs (1122, [4, a0, a1, a2, a3, i0, i1, i2, i3], []) ↔ eSpc (nthF fs a0) (nthF fs a1) (nthF fs a2) (nthF fs a3) (nthZ zs i0) (nthZ zs i1) (nthZ zs i2) (nthZ zs i3) := Iff.rfl
theorem s_plm {a0 a1 a2 i0 i1 i2 i3 : Nat} : SnOk fs zs (1144, [3, a0, a1, a2, i0, i1, i2, i3], []) ↔ ePlm (nthF fs a0) (nthF fs a1) (nthF fs a2) (nthZ zs i0) (nthZ zs i1) (nthZ zs i2) (nthZ zs i3) := Iff.rfl
theorem s_od {a0 a1 a2 i0 i1 i2 i3 : Nat} : SnOk fs zs (1145, [3, a0, a1, a2, i0, i1, i2, i3], []) ↔ eOd (nthF fs a0) (nthF fs a1) (nthF fs a2) (nthZ zs i0) (nthZ zs i1) (nthZ zs i2) (nthZ zs i3) := Iff.rfl
theorem s_odf {a0 a1 a2 i0 : Nat} : SnOk fs zs (1152, [3, a0, a1, a2, i0], []) ↔ eOdf (nthF fs a0) (nthF fs a1) (nthF fs a2) (nthZ zs i0) := Iff.rfl
end
def q_spI : qRl := ([sp 0 [(1, 1), (0, (-1))], sp 0 [(0, 1), (1, (-1))], sp 0 [], sp 0 []], [(1122, [4, 0, 1, 2, 3, 0, 1, 2, 3], [])])
theorem q_spI_ok : RlOk q_spI := by
  intro fs zs h x hx
  obtain ⟨P0, h⟩ := snAll h
  replace P0 := sp_2.mp P0
  obtain ⟨P1, h⟩ := snAll h
  replace P1 := sp_2.mp P1
  obtain ⟨P2, h⟩ := snAll h
  replace P2 := sp_0.mp P2
  obtain ⟨P3, h⟩ := snAll h
  replace P3 := sp_0.mp P3
  rcases List.mem_cons.mp hx with hx | hx
  · rw [hx]; refine s_spc.mpr ?_; apply L_spI (F0 := nthF fs 0) (F1 := nthF fs 1) (F2 := nthF fs 2) (F3 := nthF fs 3) (N0 := nthZ zs 0) (N1 := nthZ zs 1) (N2 := nthZ zs 2) (N3 := nthZ zs 3) <;> first | assumption | omega
  · cases hx
def q_spE : qRl := ([sp 0 [(3, 1)], sp 0 [], sp 0 [], sp 0 []], [(1122, [4, 0, 1, 2, 3, 0, 1, 2, 3], [])])
theorem q_spE_ok : RlOk q_spE := by
  intro fs zs h x hx
  obtain ⟨P0, h⟩ := snAll h
  replace P0 := sp_1.mp P0
  obtain ⟨P1, h⟩ := snAll h
  replace P1 := sp_0.mp P1
  obtain ⟨P2, h⟩ := snAll h
  replace P2 := sp_0.mp P2
  obtain ⟨P3, h⟩ := snAll h
  replace P3 := sp_0.mp P3
  rcases List.mem_cons.mp hx with hx | hx
  · rw [hx]; refine s_spc.mpr ?_; apply L_spE (F0 := nthF fs 0) (F1 := nthF fs 1) (F2 := nthF fs 2) (F3 := nthF fs 3) (N0 := nthZ zs 0) (N1 := nthZ zs 1) (N2 := nthZ zs 2) (N3 := nthZ zs 3) <;> first | assumption | omega
  · cases hx
def q_spW0 : qRl := ([(2, [4, 0, 4, 5], []), (1122, [4, 0, 1, 2, 3, 0, 1, 2, 3], []), sp 0 [(4, 1), (1, (-1))]], [(1122, [4, 4, 1, 2, 3, 0, 1, 2, 3], [])])
theorem q_spW0_ok : RlOk q_spW0 := by
  intro fs zs h x hx
  obtain ⟨P0, h⟩ := snAll h
  replace P0 := s_wr.mp P0
  obtain ⟨P1, h⟩ := snAll h
  replace P1 := s_spc.mp P1
  obtain ⟨P2, h⟩ := snAll h
  replace P2 := sp_2.mp P2
  rcases List.mem_cons.mp hx with hx | hx
  · rw [hx]; refine s_spc.mpr ?_; apply L_spW0 (F0 := nthF fs 0) (F1 := nthF fs 1) (F2 := nthF fs 2) (F3 := nthF fs 3) (F4 := nthF fs 4) (N0 := nthZ zs 0) (N1 := nthZ zs 1) (N2 := nthZ zs 2) (N3 := nthZ zs 3) (N4 := nthZ zs 4) (N5 := nthZ zs 5) <;> first | assumption | omega
  · cases hx
def q_spW1 : qRl := ([(2, [4, 1, 4, 5], []), (1122, [4, 0, 1, 2, 3, 0, 1, 2, 3], []), sp 0 [(4, 1), (1, (-1))]], [(1122, [4, 0, 4, 2, 3, 0, 1, 2, 3], [])])
theorem q_spW1_ok : RlOk q_spW1 := by
  intro fs zs h x hx
  obtain ⟨P0, h⟩ := snAll h
  replace P0 := s_wr.mp P0
  obtain ⟨P1, h⟩ := snAll h
  replace P1 := s_spc.mp P1
  obtain ⟨P2, h⟩ := snAll h
  replace P2 := sp_2.mp P2
  rcases List.mem_cons.mp hx with hx | hx
  · rw [hx]; refine s_spc.mpr ?_; apply L_spW1 (F0 := nthF fs 0) (F1 := nthF fs 1) (F2 := nthF fs 2) (F3 := nthF fs 3) (F4 := nthF fs 4) (N0 := nthZ zs 0) (N1 := nthZ zs 1) (N2 := nthZ zs 2) (N3 := nthZ zs 3) (N4 := nthZ zs 4) (N5 := nthZ zs 5) <;> first | assumption | omega
  · cases hx
def q_spW2 : qRl := ([(2, [4, 2, 4, 5], []), (1122, [4, 0, 1, 2, 3, 0, 1, 2, 3], []), sp 0 [(4, 1), (2, (-1))]], [(1122, [4, 0, 1, 4, 3, 0, 1, 2, 3], [])])
theorem q_spW2_ok : RlOk q_spW2 := by
  intro fs zs h x hx
  obtain ⟨P0, h⟩ := snAll h
  replace P0 := s_wr.mp P0
  obtain ⟨P1, h⟩ := snAll h
  replace P1 := s_spc.mp P1
  obtain ⟨P2, h⟩ := snAll h
  replace P2 := sp_2.mp P2
  rcases List.mem_cons.mp hx with hx | hx
  · rw [hx]; refine s_spc.mpr ?_; apply L_spW2 (F0 := nthF fs 0) (F1 := nthF fs 1) (F2 := nthF fs 2) (F3 := nthF fs 3) (F4 := nthF fs 4) (N0 := nthZ zs 0) (N1 := nthZ zs 1) (N2 := nthZ zs 2) (N3 := nthZ zs 3) (N4 := nthZ zs 4) (N5 := nthZ zs 5) <;> first | assumption | omega
  · cases hx
def q_spW3 : qRl := ([(2, [4, 3, 4, 5], []), (1122, [4, 0, 1, 2, 3, 0, 1, 2, 3], []), sp 0 [(4, 1), (2, (-1))]], [(1122, [4, 0, 1, 2, 4, 0, 1, 2, 3], [])])
theorem q_spW3_ok : RlOk q_spW3 := by
  intro fs zs h x hx
  obtain ⟨P0, h⟩ := snAll h
  replace P0 := s_wr.mp P0
  obtain ⟨P1, h⟩ := snAll h
  replace P1 := s_spc.mp P1
  obtain ⟨P2, h⟩ := snAll h
  replace P2 := sp_2.mp P2
  rcases List.mem_cons.mp hx with hx | hx
  · rw [hx]; refine s_spc.mpr ?_; apply L_spW3 (F0 := nthF fs 0) (F1 := nthF fs 1) (F2 := nthF fs 2) (F3 := nthF fs 3) (F4 := nthF fs 4) (N0 := nthZ zs 0) (N1 := nthZ zs 1) (N2 := nthZ zs 2) (N3 := nthZ zs 3) (N4 := nthZ zs 4) (N5 := nthZ zs 5) <;> first | assumption | omega
  · cases hx
def q_spZ : qRl := ([(1122, [4, 0, 1, 2, 3, 0, 1, 4, 5], []), sp 0 [(2, 1), (4, (-1))], sp 0 [(3, 1), (5, (-1))]], [(1122, [4, 0, 1, 2, 3, 0, 1, 2, 3], [])])
theorem q_spZ_ok : RlOk q_spZ := by
  intro fs zs h x hx
  obtain ⟨P0, h⟩ := snAll h
  replace P0 := s_spc.mp P0
  obtain ⟨P1, h⟩ := snAll h
  replace P1 := sp_2.mp P1
  obtain ⟨P2, h⟩ := snAll h
  replace P2 := sp_2.mp P2
  rcases List.mem_cons.mp hx with hx | hx
  · rw [hx]; refine s_spc.mpr ?_; apply L_spZ (F0 := nthF fs 0) (F1 := nthF fs 1) (F2 := nthF fs 2) (F3 := nthF fs 3) (N0 := nthZ zs 0) (N1 := nthZ zs 1) (N2 := nthZ zs 2) (N3 := nthZ zs 3) (N4 := nthZ zs 4) (N5 := nthZ zs 5) <;> first | assumption | omega
  · cases hx
def q_spX0 : qRl := ([(1122, [4, 0, 1, 2, 3, 0, 4, 11, 10], []), sp 0 [(2, 1), (11, (-1))], sp 0 [(3, 1), (10, (-1))], sp (-1) [(1, 1), (4, (-1))], sp 1 [(4, 1), (1, (-1))], (1, [1, 4, 5], []), sp 1 [(5, 1)], sp (-1) [(5, (-1))]], [(1122, [4, 0, 1, 2, 3, 0, 1, 2, 3], [])])
theorem q_spX0_ok : RlOk q_spX0 := by
  intro fs zs h x hx
  obtain ⟨P0, h⟩ := snAll h
  replace P0 := s_spc.mp P0
  obtain ⟨P1, h⟩ := snAll h
  replace P1 := sp_2.mp P1
  obtain ⟨P2, h⟩ := snAll h
  replace P2 := sp_2.mp P2
  obtain ⟨P3, h⟩ := snAll h
  replace P3 := sp_2.mp P3
  obtain ⟨P4, h⟩ := snAll h
  replace P4 := sp_2.mp P4
  obtain ⟨P5, h⟩ := snAll h
  replace P5 := s_rd.mp P5
  obtain ⟨P6, h⟩ := snAll h
  replace P6 := sp_1.mp P6
  obtain ⟨P7, h⟩ := snAll h
  replace P7 := sp_1.mp P7
  rcases List.mem_cons.mp hx with hx | hx
  · rw [hx]; refine s_spc.mpr ?_; apply L_spX0 (F0 := nthF fs 0) (F1 := nthF fs 1) (F2 := nthF fs 2) (F3 := nthF fs 3) (N0 := nthZ zs 0) (N1 := nthZ zs 1) (N2 := nthZ zs 2) (N3 := nthZ zs 3) (N4 := nthZ zs 4) (N10 := nthZ zs 10) (N11 := nthZ zs 11) <;> first | assumption | omega
  · cases hx
def q_spX1 : qRl := ([(1122, [4, 0, 1, 2, 3, 0, 4, 11, 10], []), sp 0 [(2, 1), (11, (-1))], sp 0 [(3, 1), (10, (-1))], sp (-1) [(1, 1), (4, (-1))], sp 1 [(4, 1), (1, (-1))], (1, [0, 4, 5], []), (1, [1, 4, 6], []), sp 1 [(7, 1), (2, (-1))], sp (-1) [(7, (-1)), (2, 1)], sp 0 [(7, 1)], (1, [2, 7, 8], []), (1, [3, 7, 9], []), sp 0 [(5, 1), (8, (-1))], sp 0 [(8, 1), (5, (-1))], sp 0 [(6, 1), (9, (-1))], sp 0 [(9, 1), (6, (-1))]], [(1122, [4, 0, 1, 2, 3, 0, 1, 2, 3], [])])
theorem q_spX1_ok : RlOk q_spX1 := by
  intro fs zs h x hx
  obtain ⟨P0, h⟩ := snAll h
  replace P0 := s_spc.mp P0
  obtain ⟨P1, h⟩ := snAll h
  replace P1 := sp_2.mp P1
  obtain ⟨P2, h⟩ := snAll h
  replace P2 := sp_2.mp P2
  obtain ⟨P3, h⟩ := snAll h
  replace P3 := sp_2.mp P3
  obtain ⟨P4, h⟩ := snAll h
  replace P4 := sp_2.mp P4
  obtain ⟨P5, h⟩ := snAll h
  replace P5 := s_rd.mp P5
  obtain ⟨P6, h⟩ := snAll h
  replace P6 := s_rd.mp P6
  obtain ⟨P7a, h⟩ := snAll h
  replace P7a := sp_2.mp P7a
  obtain ⟨P7b, h⟩ := snAll h
  replace P7b := sp_2.mp P7b
  obtain ⟨P8, h⟩ := snAll h
  replace P8 := sp_1.mp P8
  obtain ⟨P9, h⟩ := snAll h
  replace P9 := s_rd.mp P9
  obtain ⟨P10, h⟩ := snAll h
  replace P10 := s_rd.mp P10
  obtain ⟨P11, h⟩ := snAll h
  replace P11 := sp_2.mp P11
  obtain ⟨P12, h⟩ := snAll h
  replace P12 := sp_2.mp P12
  obtain ⟨P13, h⟩ := snAll h
  replace P13 := sp_2.mp P13
  obtain ⟨P14, h⟩ := snAll h
  replace P14 := sp_2.mp P14
  rcases List.mem_cons.mp hx with hx | hx
  · rw [hx]; refine s_spc.mpr ?_; apply L_spX1 (F0 := nthF fs 0) (F1 := nthF fs 1) (F2 := nthF fs 2) (F3 := nthF fs 3) (N0 := nthZ zs 0) (N1 := nthZ zs 1) (N2 := nthZ zs 2) (N3 := nthZ zs 3) (N4 := nthZ zs 4) (N7 := nthZ zs 7) (N10 := nthZ zs 10) (N11 := nthZ zs 11) <;> first | assumption | omega
  · cases hx
def q_pmE : qRl := ([sp 0 [(1, (-1))], sp 0 [(2, (-1))], sp 0 [], sp 0 []], [(1144, [3, 0, 1, 2, 0, 1, 2, 3], [])])
theorem q_pmE_ok : RlOk q_pmE := by
  intro fs zs h x hx
  obtain ⟨P0, h⟩ := snAll h
  replace P0 := sp_1.mp P0
  obtain ⟨P1, h⟩ := snAll h
  replace P1 := sp_1.mp P1
  obtain ⟨P2, h⟩ := snAll h
  replace P2 := sp_0.mp P2
  obtain ⟨P3, h⟩ := snAll h
  replace P3 := sp_0.mp P3
  rcases List.mem_cons.mp hx with hx | hx
  · rw [hx]; refine s_plm.mpr ?_; apply L_pmE (F0 := nthF fs 0) (F1 := nthF fs 1) (F2 := nthF fs 2) (N0 := nthZ zs 0) (N1 := nthZ zs 1) (N2 := nthZ zs 2) (N3 := nthZ zs 3) <;> first | assumption | omega
  · cases hx
def q_pmX0 : qRl := ([sp 1 [(4, 1), (2, (-1))], sp (-1) [(4, (-1)), (2, 1)], (1144, [3, 0, 1, 2, 0, 1, 4, 3], []), sp 4 [(5, 1), (2, (-4)), (1, (-1))], sp (-4) [(5, (-1)), (2, 4), (1, 1)], (1, [1, 5, 6], []), sp 0 [(6, (-1))]], [(1144, [3, 0, 1, 2, 0, 1, 2, 3], [])])
theorem q_pmX0_ok : RlOk q_pmX0 := by
  intro fs zs h x hx
  obtain ⟨P0a, h⟩ := snAll h
  replace P0a := sp_2.mp P0a
  obtain ⟨P0b, h⟩ := snAll h
  replace P0b := sp_2.mp P0b
  obtain ⟨P1, h⟩ := snAll h
  replace P1 := s_plm.mp P1
  obtain ⟨P2a, h⟩ := snAll h
  replace P2a := sp_3.mp P2a
  obtain ⟨P2b, h⟩ := snAll h
  replace P2b := sp_3.mp P2b
  obtain ⟨P3, h⟩ := snAll h
  replace P3 := s_rd.mp P3
  obtain ⟨P4, h⟩ := snAll h
  replace P4 := sp_1.mp P4
  rcases List.mem_cons.mp hx with hx | hx
  · rw [hx]; refine s_plm.mpr ?_; apply L_pmX0 (F0 := nthF fs 0) (F1 := nthF fs 1) (F2 := nthF fs 2) (N0 := nthZ zs 0) (N1 := nthZ zs 1) (N2 := nthZ zs 2) (N3 := nthZ zs 3) (N4 := nthZ zs 4) (N5 := nthZ zs 5) (N6 := nthZ zs 6) <;> first | assumption | omega
  · cases hx
def q_pmX1 : qRl := ([(2, [3, 0, 5, 6], []), sp 1 [(4, 1), (2, (-1))], sp (-1) [(4, (-1)), (2, 1)], (1144, [3, 0, 1, 2, 0, 1, 4, 7], []), sp 0 [(3, 1), (7, (-1))], sp 0 [(5, 1), (4, (-4)), (1, (-1))], sp 0 [(4, 4), (1, 1), (5, (-1))], sp 0 [(6, 1)], (1, [2, 5, 8], []), sp 0 [(3, 1), (6, (-1)), (8, (-1))], sp 0 [(1, 1)], sp 3 [(1, (-1))], sp 0 [(4, 1)], sp 0 [(0, 1), (2, (-1))]], [(1144, [3, 3, 1, 2, 0, 1, 2, 3], [])])
theorem q_pmX1_ok : RlOk q_pmX1 := by
  intro fs zs h x hx
  obtain ⟨P0, h⟩ := snAll h
  replace P0 := s_wr.mp P0
  obtain ⟨P1a, h⟩ := snAll h
  replace P1a := sp_2.mp P1a
  obtain ⟨P1b, h⟩ := snAll h
  replace P1b := sp_2.mp P1b
  obtain ⟨P2, h⟩ := snAll h
  replace P2 := s_plm.mp P2
  obtain ⟨P3, h⟩ := snAll h
  replace P3 := sp_2.mp P3
  obtain ⟨P4, h⟩ := snAll h
  replace P4 := sp_3.mp P4
  obtain ⟨P5, h⟩ := snAll h
  replace P5 := sp_3.mp P5
  obtain ⟨P6, h⟩ := snAll h
  replace P6 := sp_1.mp P6
  obtain ⟨P7, h⟩ := snAll h
  replace P7 := s_rd.mp P7
  obtain ⟨P8, h⟩ := snAll h
  replace P8 := sp_3.mp P8
  obtain ⟨P9, h⟩ := snAll h
  replace P9 := sp_1.mp P9
  obtain ⟨P10, h⟩ := snAll h
  replace P10 := sp_1.mp P10
  obtain ⟨P11, h⟩ := snAll h
  replace P11 := sp_1.mp P11
  obtain ⟨P12, h⟩ := snAll h
  replace P12 := sp_2.mp P12
  rcases List.mem_cons.mp hx with hx | hx
  · rw [hx]; refine s_plm.mpr ?_; apply L_pmX1 (F0 := nthF fs 0) (F1 := nthF fs 1) (F2 := nthF fs 2) (F3 := nthF fs 3) (N0 := nthZ zs 0) (N1 := nthZ zs 1) (N2 := nthZ zs 2) (N3 := nthZ zs 3) (N4 := nthZ zs 4) (N5 := nthZ zs 5) (N6 := nthZ zs 6) (N7 := nthZ zs 7) (N8 := nthZ zs 8) <;> first | assumption | omega
  · cases hx
def q_pmS : qRl := ([sp 1 [(4, 1), (1, (-1))], sp (-1) [(4, (-1)), (1, 1)], (1144, [3, 0, 1, 2, 0, 4, 5, 3], []), sp 0 [(5, 1), (0, (-1))], sp 0 [(2, (-1))]], [(1144, [3, 0, 1, 2, 0, 1, 2, 3], [])])
theorem q_pmS_ok : RlOk q_pmS := by
  intro fs zs h x hx
  obtain ⟨P0a, h⟩ := snAll h
  replace P0a := sp_2.mp P0a
  obtain ⟨P0b, h⟩ := snAll h
  replace P0b := sp_2.mp P0b
  obtain ⟨P1, h⟩ := snAll h
  replace P1 := s_plm.mp P1
  obtain ⟨P2, h⟩ := snAll h
  replace P2 := sp_2.mp P2
  obtain ⟨P3, h⟩ := snAll h
  replace P3 := sp_1.mp P3
  rcases List.mem_cons.mp hx with hx | hx
  · rw [hx]; refine s_plm.mpr ?_; apply L_pmS (F0 := nthF fs 0) (F1 := nthF fs 1) (F2 := nthF fs 2) (N0 := nthZ zs 0) (N1 := nthZ zs 1) (N2 := nthZ zs 2) (N3 := nthZ zs 3) (N4 := nthZ zs 4) (N5 := nthZ zs 5) <;> first | assumption | omega
  · cases hx
def q_pmZb : qRl := ([(1144, [3, 0, 1, 2, 0, 1, 2, 4], []), sp 0 [(3, 1), (4, (-1))]], [(1144, [3, 0, 1, 2, 0, 1, 2, 3], [])])
theorem q_pmZb_ok : RlOk q_pmZb := by
  intro fs zs h x hx
  obtain ⟨P0, h⟩ := snAll h
  replace P0 := s_plm.mp P0
  obtain ⟨P1, h⟩ := snAll h
  replace P1 := sp_2.mp P1
  rcases List.mem_cons.mp hx with hx | hx
  · rw [hx]; refine s_plm.mpr ?_; apply L_pmZb (F0 := nthF fs 0) (F1 := nthF fs 1) (F2 := nthF fs 2) (N0 := nthZ zs 0) (N1 := nthZ zs 1) (N2 := nthZ zs 2) (N3 := nthZ zs 3) (N4 := nthZ zs 4) <;> first | assumption | omega
  · cases hx
def q_odE : qRl := ([sp 0 [(1, (-1))], sp 0 [(2, (-1))], sp 0 [], sp 0 []], [(1145, [3, 0, 1, 2, 0, 1, 2, 3], [])])
theorem q_odE_ok : RlOk q_odE := by
  intro fs zs h x hx
  obtain ⟨P0, h⟩ := snAll h
  replace P0 := sp_1.mp P0
  obtain ⟨P1, h⟩ := snAll h
  replace P1 := sp_1.mp P1
  obtain ⟨P2, h⟩ := snAll h
  replace P2 := sp_0.mp P2
  obtain ⟨P3, h⟩ := snAll h
  replace P3 := sp_0.mp P3
  rcases List.mem_cons.mp hx with hx | hx
  · rw [hx]; refine s_od.mpr ?_; apply L_odE (F0 := nthF fs 0) (F1 := nthF fs 1) (F2 := nthF fs 2) (N0 := nthZ zs 0) (N1 := nthZ zs 1) (N2 := nthZ zs 2) (N3 := nthZ zs 3) <;> first | assumption | omega
  · cases hx
def q_odX0 : qRl := ([sp 0 [(1, (-1))], sp 1 [(4, 1), (2, (-1))], sp (-1) [(4, (-1)), (2, 1)], (1145, [3, 0, 1, 2, 0, 1, 4, 3], []), sp 4 [(5, 1), (2, (-4))], sp (-4) [(5, (-1)), (2, 4)], (1, [1, 5, 6], []), sp 0 [(6, (-1))]], [(1145, [3, 0, 1, 2, 0, 1, 2, 3], [])])
theorem q_odX0_ok : RlOk q_odX0 := by
  intro fs zs h x hx
  obtain ⟨P0, h⟩ := snAll h
  replace P0 := sp_1.mp P0
  obtain ⟨P1a, h⟩ := snAll h
  replace P1a := sp_2.mp P1a
  obtain ⟨P1b, h⟩ := snAll h
  replace P1b := sp_2.mp P1b
  obtain ⟨P2, h⟩ := snAll h
  replace P2 := s_od.mp P2
  obtain ⟨P3a, h⟩ := snAll h
  replace P3a := sp_2.mp P3a
  obtain ⟨P3b, h⟩ := snAll h
  replace P3b := sp_2.mp P3b
  obtain ⟨P4, h⟩ := snAll h
  replace P4 := s_rd.mp P4
  obtain ⟨P5, h⟩ := snAll h
  replace P5 := sp_1.mp P5
  rcases List.mem_cons.mp hx with hx | hx
  · rw [hx]; refine s_od.mpr ?_; apply L_odX0 (F0 := nthF fs 0) (F1 := nthF fs 1) (F2 := nthF fs 2) (N0 := nthZ zs 0) (N1 := nthZ zs 1) (N2 := nthZ zs 2) (N3 := nthZ zs 3) (N4 := nthZ zs 4) (N5 := nthZ zs 5) (N6 := nthZ zs 6) <;> first | assumption | omega
  · cases hx
def q_odX1 : qRl := ([(2, [3, 0, 5, 6], []), sp 0 [(1, (-1))], sp 1 [(4, 1), (2, (-1))], sp (-1) [(4, (-1)), (2, 1)], (1145, [3, 0, 1, 2, 0, 1, 4, 7], []), sp 0 [(6, 1), (7, (-1))], sp 0 [(5, 1), (4, (-4))], sp 0 [(4, 4), (5, (-1))], sp 0 [(4, 1)], (1, [2, 5, 8], []), sp 0 [(3, 1), (6, (-1)), (8, (-1))], sp 0 [(3, 1), (7, (-1))]], [(1145, [3, 3, 1, 2, 0, 1, 2, 3], [])])
theorem q_odX1_ok : RlOk q_odX1 := by
  intro fs zs h x hx
  obtain ⟨P0, h⟩ := snAll h
  replace P0 := s_wr.mp P0
  obtain ⟨P1, h⟩ := snAll h
  replace P1 := sp_1.mp P1
  obtain ⟨P2a, h⟩ := snAll h
  replace P2a := sp_2.mp P2a
  obtain ⟨P2b, h⟩ := snAll h
  replace P2b := sp_2.mp P2b
  obtain ⟨P3, h⟩ := snAll h
  replace P3 := s_od.mp P3
  obtain ⟨P4, h⟩ := snAll h
  replace P4 := sp_2.mp P4
  obtain ⟨P5, h⟩ := snAll h
  replace P5 := sp_2.mp P5
  obtain ⟨P6, h⟩ := snAll h
  replace P6 := sp_2.mp P6
  obtain ⟨P7, h⟩ := snAll h
  replace P7 := sp_1.mp P7
  obtain ⟨P8, h⟩ := snAll h
  replace P8 := s_rd.mp P8
  obtain ⟨P9, h⟩ := snAll h
  replace P9 := sp_3.mp P9
  obtain ⟨P10, h⟩ := snAll h
  replace P10 := sp_2.mp P10
  rcases List.mem_cons.mp hx with hx | hx
  · rw [hx]; refine s_od.mpr ?_; apply L_odX1 (F0 := nthF fs 0) (F1 := nthF fs 1) (F2 := nthF fs 2) (F3 := nthF fs 3) (N0 := nthZ zs 0) (N1 := nthZ zs 1) (N2 := nthZ zs 2) (N3 := nthZ zs 3) (N4 := nthZ zs 4) (N5 := nthZ zs 5) (N6 := nthZ zs 6) (N7 := nthZ zs 7) (N8 := nthZ zs 8) <;> first | assumption | omega
  · cases hx
def q_odS : qRl := ([sp (-1) [(1, 1)], sp 1 [(4, 1), (1, (-1))], sp (-1) [(4, (-1)), (1, 1)], (1145, [3, 0, 1, 2, 0, 4, 5, 6], []), sp 0 [(5, 1), (0, (-1))], sp 0 [], sp 0 []], [(1145, [3, 0, 1, 2, 0, 1, 2, 3], [])])
theorem q_odS_ok : RlOk q_odS := by
  intro fs zs h x hx
  obtain ⟨P0, h⟩ := snAll h
  replace P0 := sp_1.mp P0
  obtain ⟨P1a, h⟩ := snAll h
  replace P1a := sp_2.mp P1a
  obtain ⟨P1b, h⟩ := snAll h
  replace P1b := sp_2.mp P1b
  obtain ⟨P2, h⟩ := snAll h
  replace P2 := s_od.mp P2
  obtain ⟨P3, h⟩ := snAll h
  replace P3 := sp_2.mp P3
  obtain ⟨P4, h⟩ := snAll h
  replace P4 := sp_0.mp P4
  obtain ⟨P5, h⟩ := snAll h
  replace P5 := sp_0.mp P5
  rcases List.mem_cons.mp hx with hx | hx
  · rw [hx]; refine s_od.mpr ?_; apply L_odS (F0 := nthF fs 0) (F1 := nthF fs 1) (F2 := nthF fs 2) (N0 := nthZ zs 0) (N1 := nthZ zs 1) (N2 := nthZ zs 2) (N3 := nthZ zs 3) (N4 := nthZ zs 4) (N5 := nthZ zs 5) (N6 := nthZ zs 6) <;> first | assumption | omega
  · cases hx
def q_odT : qRl := ([sp (-1) [(1, 1)], (1145, [3, 0, 1, 2, 0, 4, 5, 6], []), sp (-1) [(4, 1)], sp 0 [], sp 0 []], [(1145, [3, 0, 1, 2, 0, 1, 2, 3], [])])
theorem q_odT_ok : RlOk q_odT := by
  intro fs zs h x hx
  obtain ⟨P0, h⟩ := snAll h
  replace P0 := sp_1.mp P0
  obtain ⟨P1, h⟩ := snAll h
  replace P1 := s_od.mp P1
  obtain ⟨P2, h⟩ := snAll h
  replace P2 := sp_1.mp P2
  obtain ⟨P3, h⟩ := snAll h
  replace P3 := sp_0.mp P3
  obtain ⟨P4, h⟩ := snAll h
  replace P4 := sp_0.mp P4
  rcases List.mem_cons.mp hx with hx | hx
  · rw [hx]; refine s_od.mpr ?_; apply L_odT (F0 := nthF fs 0) (F1 := nthF fs 1) (F2 := nthF fs 2) (N0 := nthZ zs 0) (N1 := nthZ zs 1) (N2 := nthZ zs 2) (N3 := nthZ zs 3) (N4 := nthZ zs 4) (N5 := nthZ zs 5) (N6 := nthZ zs 6) <;> first | assumption | omega
  · cases hx
def q_odW : qRl := ([(2, [3, 0, 4, 5], []), (1145, [3, 0, 1, 2, 0, 1, 2, 3], []), sp (-1) [(1, 1)], (1091, [0, 6, 7], []), sp (-1) [(4, 1), (6, (-4))], sp 3 [(6, 4), (4, (-1))]], [(1145, [3, 3, 1, 2, 0, 1, 2, 3], [])])
theorem q_odW_ok : RlOk q_odW := by
  intro fs zs h x hx
  obtain ⟨P0, h⟩ := snAll h
  replace P0 := s_wr.mp P0
  obtain ⟨P1, h⟩ := snAll h
  replace P1 := s_od.mp P1
  obtain ⟨P2, h⟩ := snAll h
  replace P2 := sp_1.mp P2
  obtain ⟨P3, h⟩ := snAll h
  replace P3 := s_us.mp P3
  obtain ⟨P4, h⟩ := snAll h
  replace P4 := sp_2.mp P4
  obtain ⟨P5, h⟩ := snAll h
  replace P5 := sp_2.mp P5
  rcases List.mem_cons.mp hx with hx | hx
  · rw [hx]; refine s_od.mpr ?_; apply L_odW (F0 := nthF fs 0) (F1 := nthF fs 1) (F2 := nthF fs 2) (F3 := nthF fs 3) (N0 := nthZ zs 0) (N1 := nthZ zs 1) (N2 := nthZ zs 2) (N3 := nthZ zs 3) (N4 := nthZ zs 4) (N5 := nthZ zs 5) (N6 := nthZ zs 6) <;> first | assumption | omega
  · cases hx
def q_odZ : qRl := ([(1145, [3, 0, 1, 2, 0, 1, 2, 4], []), sp 0 [(3, 1), (4, (-1))]], [(1145, [3, 0, 1, 2, 0, 1, 2, 3], [])])
theorem q_odZ_ok : RlOk q_odZ := by
  intro fs zs h x hx
  obtain ⟨P0, h⟩ := snAll h
  replace P0 := s_od.mp P0
  obtain ⟨P1, h⟩ := snAll h
  replace P1 := sp_2.mp P1
  rcases List.mem_cons.mp hx with hx | hx
  · rw [hx]; refine s_od.mpr ?_; apply L_odZ (F0 := nthF fs 0) (F1 := nthF fs 1) (F2 := nthF fs 2) (N0 := nthZ zs 0) (N1 := nthZ zs 1) (N2 := nthZ zs 2) (N3 := nthZ zs 3) (N4 := nthZ zs 4) <;> first | assumption | omega
  · cases hx
def q_odF : qRl := ([(1145, [3, 0, 1, 2, 1, 2, 3, 4], []), sp (-1) [(2, 1)], sp 0 [(1, 1), (0, (-1))]], [(1152, [3, 0, 1, 2, 0], [])])
theorem q_odF_ok : RlOk q_odF := by
  intro fs zs h x hx
  obtain ⟨P0, h⟩ := snAll h
  replace P0 := s_od.mp P0
  obtain ⟨P1, h⟩ := snAll h
  replace P1 := sp_1.mp P1
  obtain ⟨P2, h⟩ := snAll h
  replace P2 := sp_2.mp P2
  rcases List.mem_cons.mp hx with hx | hx
  · rw [hx]; refine s_odf.mpr ?_; apply L_odF (F0 := nthF fs 0) (F1 := nthF fs 1) (F2 := nthF fs 2) (N0 := nthZ zs 0) (N1 := nthZ zs 1) (N2 := nthZ zs 2) (N3 := nthZ zs 3) (N4 := nthZ zs 4) <;> first | assumption | omega
  · cases hx
