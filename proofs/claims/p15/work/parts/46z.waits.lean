/-! RULES OF THE ITEMS AND WAITS OF THE UNIT THAT IS READ, OF SHORT BRANCHES (written by wip/p2/gen46z.py) -/
section
variable {fs : List (Int → Int)} {zs : List Int}
theorem s_cur {a0 a1 a2 a3 a4 i0 i1 i2 i3 i4 i5 : Nat} : SnOk fs zs (1120, [5, a0, a1, a2, a3, a4, i0, i1, i2, i3, i4, i5], []) ↔ eCur (nthF fs a0) (nthF fs a1) (nthF fs a2) (nthF fs a3) (nthF fs a4) (nthZ zs i0) (nthZ zs i1) (nthZ zs i2) (nthZ zs i3) (nthZ zs i4) (nthZ zs i5) := Iff.rfl
theorem s_rdy {a0 a1 a2 i0 i1 i2 i3 i4 i5 i6 i7 i8 : Nat} : SnOk fs zs (1121, [3, a0, a1, a2, i0, i1, i2, i3, i4, i5, i6, i7, i8], []) ↔ eRdy (nthF fs a0) (nthF fs a1) (nthF fs a2) (nthZ zs i0) (nthZ zs i1) (nthZ zs i2) (nthZ zs i3) (nthZ zs i4) (nthZ zs i5) (nthZ zs i6) (nthZ zs i7) (nthZ zs i8) := Iff.rfl
theorem s_sh1 {a0 a1 a2 a3 a4 a5 a6 i0 i1 i2 i3 : Nat} : SnOk fs zs (1139, [7, a0, a1, a2, a3, a4, a5, a6, i0, i1, i2, i3], []) ↔ eSh1 (nthF fs a0) (nthF fs a1) (nthF fs a2) (nthF fs a3) (nthF fs a4) (nthF fs a5) (nthF fs a6) (nthZ zs i0) (nthZ zs i1) (nthZ zs i2) (nthZ zs i3) := Iff.rfl
theorem s_sh3 {a0 a1 a2 a3 a4 a5 a6 a7 i0 i1 i2 i3 i4 : Nat} : SnOk fs zs (1140, [8, a0, a1, a2, a3, a4, a5, a6, a7, i0, i1, i2, i3, i4], []) ↔ eSh3 (nthF fs a0) (nthF fs a1) (nthF fs a2) (nthF fs a3) (nthF fs a4) (nthF fs a5) (nthF fs a6) (nthF fs a7) (nthZ zs i0) (nthZ zs i1) (nthZ zs i2) (nthZ zs i3) (nthZ zs i4) := Iff.rfl
theorem s_fin {a0 a1 a2 a3 a4 a5 a6 a7 i0 i1 i2 i3 i4 : Nat} : SnOk fs zs (1141, [8, a0, a1, a2, a3, a4, a5, a6, a7, i0, i1, i2, i3, i4], []) ↔ eFin (nthF fs a0) (nthF fs a1) (nthF fs a2) (nthF fs a3) (nthF fs a4) (nthF fs a5) (nthF fs a6) (nthF fs a7) (nthZ zs i0) (nthZ zs i1) (nthZ zs i2) (nthZ zs i3) (nthZ zs i4) := Iff.rfl
end
def q_cuI : qRl := ([sp 0 [(2, 1), (0, (-1))], sp 0 [(0, 1), (2, (-1))], sp 0 [(3, 1), (1, (-1))], sp 0 [(1, 1), (3, (-1))], sp 0 [], sp 0 []], [(1120, [5, 0, 1, 2, 3, 4, 0, 1, 2, 3, 4, 5], [])])
theorem q_cuI_ok : RlOk q_cuI := by
  intro fs zs h x hx
  obtain ⟨P0, h⟩ := snAll h
  replace P0 := sp_2.mp P0
  obtain ⟨P1, h⟩ := snAll h
  replace P1 := sp_2.mp P1
  obtain ⟨P2, h⟩ := snAll h
  replace P2 := sp_2.mp P2
  obtain ⟨P3, h⟩ := snAll h
  replace P3 := sp_2.mp P3
  obtain ⟨P4, h⟩ := snAll h
  replace P4 := sp_0.mp P4
  obtain ⟨P5, h⟩ := snAll h
  replace P5 := sp_0.mp P5
  rcases List.mem_cons.mp hx with hx | hx
  · rw [hx]; refine s_cur.mpr ?_; apply L_cuI (F0 := nthF fs 0) (F1 := nthF fs 1) (F2 := nthF fs 2) (F3 := nthF fs 3) (F4 := nthF fs 4) (N0 := nthZ zs 0) (N1 := nthZ zs 1) (N2 := nthZ zs 2) (N3 := nthZ zs 3) (N4 := nthZ zs 4) (N5 := nthZ zs 5) <;> first | assumption | omega
  · cases hx
def q_cuE : qRl := ([sp 0 [(4, 1)], sp 0 [], sp 0 [], sp 0 [], sp 0 [], sp 0 []], [(1120, [5, 0, 1, 2, 3, 4, 0, 1, 2, 3, 4, 5], [])])
theorem q_cuE_ok : RlOk q_cuE := by
  intro fs zs h x hx
  obtain ⟨P0, h⟩ := snAll h
  replace P0 := sp_1.mp P0
  obtain ⟨P1, h⟩ := snAll h
  replace P1 := sp_0.mp P1
  obtain ⟨P2, h⟩ := snAll h
  replace P2 := sp_0.mp P2
  obtain ⟨P3, h⟩ := snAll h
  replace P3 := sp_0.mp P3
  obtain ⟨P4, h⟩ := snAll h
  replace P4 := sp_0.mp P4
  obtain ⟨P5, h⟩ := snAll h
  replace P5 := sp_0.mp P5
  rcases List.mem_cons.mp hx with hx | hx
  · rw [hx]; refine s_cur.mpr ?_; apply L_cuE (F0 := nthF fs 0) (F1 := nthF fs 1) (F2 := nthF fs 2) (F3 := nthF fs 3) (F4 := nthF fs 4) (N0 := nthZ zs 0) (N1 := nthZ zs 1) (N2 := nthZ zs 2) (N3 := nthZ zs 3) (N4 := nthZ zs 4) (N5 := nthZ zs 5) <;> first | assumption | omega
  · cases hx
def q_cuE2 : qRl := ([sp 0 [(5, 1)], sp 0 [], sp 0 [], sp 0 [], sp 0 [], sp 0 []], [(1120, [5, 0, 1, 2, 3, 4, 0, 1, 2, 3, 4, 5], [])])
theorem q_cuE2_ok : RlOk q_cuE2 := by
  intro fs zs h x hx
  obtain ⟨P0, h⟩ := snAll h
  replace P0 := sp_1.mp P0
  obtain ⟨P1, h⟩ := snAll h
  replace P1 := sp_0.mp P1
  obtain ⟨P2, h⟩ := snAll h
  replace P2 := sp_0.mp P2
  obtain ⟨P3, h⟩ := snAll h
  replace P3 := sp_0.mp P3
  obtain ⟨P4, h⟩ := snAll h
  replace P4 := sp_0.mp P4
  obtain ⟨P5, h⟩ := snAll h
  replace P5 := sp_0.mp P5
  rcases List.mem_cons.mp hx with hx | hx
  · rw [hx]; refine s_cur.mpr ?_; apply L_cuE2 (F0 := nthF fs 0) (F1 := nthF fs 1) (F2 := nthF fs 2) (F3 := nthF fs 3) (F4 := nthF fs 4) (N0 := nthZ zs 0) (N1 := nthZ zs 1) (N2 := nthZ zs 2) (N3 := nthZ zs 3) (N4 := nthZ zs 4) (N5 := nthZ zs 5) <;> first | assumption | omega
  · cases hx
def q_cuW0 : qRl := ([(2, [5, 0, 6, 7], []), (1120, [5, 0, 1, 2, 3, 4, 0, 1, 2, 3, 4, 5], []), sp 0 [(6, 1), (2, (-1))]], [(1120, [5, 5, 1, 2, 3, 4, 0, 1, 2, 3, 4, 5], [])])
theorem q_cuW0_ok : RlOk q_cuW0 := by
  intro fs zs h x hx
  obtain ⟨P0, h⟩ := snAll h
  replace P0 := s_wr.mp P0
  obtain ⟨P1, h⟩ := snAll h
  replace P1 := s_cur.mp P1
  obtain ⟨P2, h⟩ := snAll h
  replace P2 := sp_2.mp P2
  rcases List.mem_cons.mp hx with hx | hx
  · rw [hx]; refine s_cur.mpr ?_; apply L_cuW0 (F0 := nthF fs 0) (F1 := nthF fs 1) (F2 := nthF fs 2) (F3 := nthF fs 3) (F4 := nthF fs 4) (F5 := nthF fs 5) (N0 := nthZ zs 0) (N1 := nthZ zs 1) (N2 := nthZ zs 2) (N3 := nthZ zs 3) (N4 := nthZ zs 4) (N5 := nthZ zs 5) (N6 := nthZ zs 6) (N7 := nthZ zs 7) <;> first | assumption | omega
  · cases hx
def q_cuW1 : qRl := ([(2, [5, 1, 6, 7], []), (1120, [5, 0, 1, 2, 3, 4, 0, 1, 2, 3, 4, 5], []), sp 0 [(6, 1), (2, (-1))]], [(1120, [5, 0, 5, 2, 3, 4, 0, 1, 2, 3, 4, 5], [])])
theorem q_cuW1_ok : RlOk q_cuW1 := by
  intro fs zs h x hx
  obtain ⟨P0, h⟩ := snAll h
  replace P0 := s_wr.mp P0
  obtain ⟨P1, h⟩ := snAll h
  replace P1 := s_cur.mp P1
  obtain ⟨P2, h⟩ := snAll h
  replace P2 := sp_2.mp P2
  rcases List.mem_cons.mp hx with hx | hx
  · rw [hx]; refine s_cur.mpr ?_; apply L_cuW1 (F0 := nthF fs 0) (F1 := nthF fs 1) (F2 := nthF fs 2) (F3 := nthF fs 3) (F4 := nthF fs 4) (F5 := nthF fs 5) (N0 := nthZ zs 0) (N1 := nthZ zs 1) (N2 := nthZ zs 2) (N3 := nthZ zs 3) (N4 := nthZ zs 4) (N5 := nthZ zs 5) (N6 := nthZ zs 6) (N7 := nthZ zs 7) <;> first | assumption | omega
  · cases hx
def q_cuW2 : qRl := ([(2, [5, 2, 6, 7], []), (1120, [5, 0, 1, 2, 3, 4, 0, 1, 2, 3, 4, 5], []), sp 0 [(6, 1), (3, (-1))]], [(1120, [5, 0, 1, 5, 3, 4, 0, 1, 2, 3, 4, 5], [])])
theorem q_cuW2_ok : RlOk q_cuW2 := by
  intro fs zs h x hx
  obtain ⟨P0, h⟩ := snAll h
  replace P0 := s_wr.mp P0
  obtain ⟨P1, h⟩ := snAll h
  replace P1 := s_cur.mp P1
  obtain ⟨P2, h⟩ := snAll h
  replace P2 := sp_2.mp P2
  rcases List.mem_cons.mp hx with hx | hx
  · rw [hx]; refine s_cur.mpr ?_; apply L_cuW2 (F0 := nthF fs 0) (F1 := nthF fs 1) (F2 := nthF fs 2) (F3 := nthF fs 3) (F4 := nthF fs 4) (F5 := nthF fs 5) (N0 := nthZ zs 0) (N1 := nthZ zs 1) (N2 := nthZ zs 2) (N3 := nthZ zs 3) (N4 := nthZ zs 4) (N5 := nthZ zs 5) (N6 := nthZ zs 6) (N7 := nthZ zs 7) <;> first | assumption | omega
  · cases hx
def q_cuW3 : qRl := ([(2, [5, 3, 6, 7], []), (1120, [5, 0, 1, 2, 3, 4, 0, 1, 2, 3, 4, 5], []), sp 0 [(6, 1), (3, (-1))]], [(1120, [5, 0, 1, 2, 5, 4, 0, 1, 2, 3, 4, 5], [])])
theorem q_cuW3_ok : RlOk q_cuW3 := by
  intro fs zs h x hx
  obtain ⟨P0, h⟩ := snAll h
  replace P0 := s_wr.mp P0
  obtain ⟨P1, h⟩ := snAll h
  replace P1 := s_cur.mp P1
  obtain ⟨P2, h⟩ := snAll h
  replace P2 := sp_2.mp P2
  rcases List.mem_cons.mp hx with hx | hx
  · rw [hx]; refine s_cur.mpr ?_; apply L_cuW3 (F0 := nthF fs 0) (F1 := nthF fs 1) (F2 := nthF fs 2) (F3 := nthF fs 3) (F4 := nthF fs 4) (F5 := nthF fs 5) (N0 := nthZ zs 0) (N1 := nthZ zs 1) (N2 := nthZ zs 2) (N3 := nthZ zs 3) (N4 := nthZ zs 4) (N5 := nthZ zs 5) (N6 := nthZ zs 6) (N7 := nthZ zs 7) <;> first | assumption | omega
  · cases hx
def q_cuW4 : qRl := ([(2, [5, 4, 6, 7], []), (1120, [5, 0, 1, 2, 3, 4, 0, 1, 2, 3, 4, 5], []), sp 0 [(6, 1), (3, (-1))]], [(1120, [5, 0, 1, 2, 3, 5, 0, 1, 2, 3, 4, 5], [])])
theorem q_cuW4_ok : RlOk q_cuW4 := by
  intro fs zs h x hx
  obtain ⟨P0, h⟩ := snAll h
  replace P0 := s_wr.mp P0
  obtain ⟨P1, h⟩ := snAll h
  replace P1 := s_cur.mp P1
  obtain ⟨P2, h⟩ := snAll h
  replace P2 := sp_2.mp P2
  rcases List.mem_cons.mp hx with hx | hx
  · rw [hx]; refine s_cur.mpr ?_; apply L_cuW4 (F0 := nthF fs 0) (F1 := nthF fs 1) (F2 := nthF fs 2) (F3 := nthF fs 3) (F4 := nthF fs 4) (F5 := nthF fs 5) (N0 := nthZ zs 0) (N1 := nthZ zs 1) (N2 := nthZ zs 2) (N3 := nthZ zs 3) (N4 := nthZ zs 4) (N5 := nthZ zs 5) (N6 := nthZ zs 6) (N7 := nthZ zs 7) <;> first | assumption | omega
  · cases hx
def q_cuZ : qRl := ([(1120, [5, 0, 1, 2, 3, 4, 0, 1, 2, 3, 6, 7], []), sp 0 [(4, 1), (6, (-1))], sp 0 [(5, 1), (7, (-1))]], [(1120, [5, 0, 1, 2, 3, 4, 0, 1, 2, 3, 4, 5], [])])
theorem q_cuZ_ok : RlOk q_cuZ := by
  intro fs zs h x hx
  obtain ⟨P0, h⟩ := snAll h
  replace P0 := s_cur.mp P0
  obtain ⟨P1, h⟩ := snAll h
  replace P1 := sp_2.mp P1
  obtain ⟨P2, h⟩ := snAll h
  replace P2 := sp_2.mp P2
  rcases List.mem_cons.mp hx with hx | hx
  · rw [hx]; refine s_cur.mpr ?_; apply L_cuZ (F0 := nthF fs 0) (F1 := nthF fs 1) (F2 := nthF fs 2) (F3 := nthF fs 3) (F4 := nthF fs 4) (N0 := nthZ zs 0) (N1 := nthZ zs 1) (N2 := nthZ zs 2) (N3 := nthZ zs 3) (N4 := nthZ zs 4) (N5 := nthZ zs 5) (N6 := nthZ zs 6) (N7 := nthZ zs 7) <;> first | assumption | omega
  · cases hx
def q_rdE0 : qRl := ([sp 0 [(7, 1)], sp 0 [], sp 0 [], sp 0 [], sp 0 [], sp 0 [], sp 0 [], sp 0 [], sp 0 []], [(1121, [3, 0, 1, 2, 0, 1, 2, 3, 4, 5, 6, 7, 8], [])])
theorem q_rdE0_ok : RlOk q_rdE0 := by
  intro fs zs h x hx
  obtain ⟨P0, h⟩ := snAll h
  replace P0 := sp_1.mp P0
  obtain ⟨P1, h⟩ := snAll h
  replace P1 := sp_0.mp P1
  obtain ⟨P2, h⟩ := snAll h
  replace P2 := sp_0.mp P2
  obtain ⟨P3, h⟩ := snAll h
  replace P3 := sp_0.mp P3
  obtain ⟨P4, h⟩ := snAll h
  replace P4 := sp_0.mp P4
  obtain ⟨P5, h⟩ := snAll h
  replace P5 := sp_0.mp P5
  obtain ⟨P6, h⟩ := snAll h
  replace P6 := sp_0.mp P6
  obtain ⟨P7, h⟩ := snAll h
  replace P7 := sp_0.mp P7
  obtain ⟨P8, h⟩ := snAll h
  replace P8 := sp_0.mp P8
  rcases List.mem_cons.mp hx with hx | hx
  · rw [hx]; refine s_rdy.mpr ?_; apply L_rdE0 (F0 := nthF fs 0) (F1 := nthF fs 1) (F2 := nthF fs 2) (N0 := nthZ zs 0) (N1 := nthZ zs 1) (N2 := nthZ zs 2) (N3 := nthZ zs 3) (N4 := nthZ zs 4) (N5 := nthZ zs 5) (N6 := nthZ zs 6) (N7 := nthZ zs 7) (N8 := nthZ zs 8) <;> first | assumption | omega
  · cases hx
def q_rdE1 : qRl := ([sp 0 [(8, 1)], sp 0 [], sp 0 [], sp 0 [], sp 0 [], sp 0 [], sp 0 [], sp 0 [], sp 0 []], [(1121, [3, 0, 1, 2, 0, 1, 2, 3, 4, 5, 6, 7, 8], [])])
theorem q_rdE1_ok : RlOk q_rdE1 := by
  intro fs zs h x hx
  obtain ⟨P0, h⟩ := snAll h
  replace P0 := sp_1.mp P0
  obtain ⟨P1, h⟩ := snAll h
  replace P1 := sp_0.mp P1
  obtain ⟨P2, h⟩ := snAll h
  replace P2 := sp_0.mp P2
  obtain ⟨P3, h⟩ := snAll h
  replace P3 := sp_0.mp P3
  obtain ⟨P4, h⟩ := snAll h
  replace P4 := sp_0.mp P4
  obtain ⟨P5, h⟩ := snAll h
  replace P5 := sp_0.mp P5
  obtain ⟨P6, h⟩ := snAll h
  replace P6 := sp_0.mp P6
  obtain ⟨P7, h⟩ := snAll h
  replace P7 := sp_0.mp P7
  obtain ⟨P8, h⟩ := snAll h
  replace P8 := sp_0.mp P8
  rcases List.mem_cons.mp hx with hx | hx
  · rw [hx]; refine s_rdy.mpr ?_; apply L_rdE1 (F0 := nthF fs 0) (F1 := nthF fs 1) (F2 := nthF fs 2) (N0 := nthZ zs 0) (N1 := nthZ zs 1) (N2 := nthZ zs 2) (N3 := nthZ zs 3) (N4 := nthZ zs 4) (N5 := nthZ zs 5) (N6 := nthZ zs 6) (N7 := nthZ zs 7) (N8 := nthZ zs 8) <;> first | assumption | omega
  · cases hx
def q_cuY : qRl := ([(2, [5, 2, 6, 7], []), (2, [6, 3, 8, 9], []), (2, [7, 4, 10, 11], []), sp 1 [(12, 1), (3, (-1))], sp (-1) [(12, (-1)), (3, 1)], sp 0 [(6, 1), (12, (-1))], sp 0 [(12, 1), (6, (-1))], sp 0 [(8, 1), (12, (-1))], sp 0 [(12, 1), (8, (-1))], sp 0 [(10, 1), (12, (-1))], sp 0 [(12, 1), (10, (-1))], (1120, [5, 0, 1, 2, 3, 4, 0, 1, 2, 12, 19, 13], []), sp 0 [(5, 1), (13, (-1))], sp 0 [(4, 1), (19, (-1))], (1121, [3, 0, 1, 2, 0, 1, 2, 12, 16, 17, 18, 14, 15], []), sp 0 [(16, 1), (7, (-1))], sp 0 [(7, 1), (16, (-1))], sp 0 [(17, 1), (9, (-1))], sp 0 [(9, 1), (17, (-1))], sp 0 [(18, 1), (11, (-1))], sp 0 [(11, 1), (18, (-1))], sp 0 [(4, 1), (14, (-1))], sp 0 [(5, 1), (15, (-1))]], [(1120, [5, 0, 1, 5, 6, 7, 0, 1, 2, 3, 4, 5], [])])
theorem q_cuY_ok : RlOk q_cuY := by
  intro fs zs h x hx
  obtain ⟨P0, h⟩ := snAll h
  replace P0 := s_wr.mp P0
  obtain ⟨P1, h⟩ := snAll h
  replace P1 := s_wr.mp P1
  obtain ⟨P2, h⟩ := snAll h
  replace P2 := s_wr.mp P2
  obtain ⟨P3a, h⟩ := snAll h
  replace P3a := sp_2.mp P3a
  obtain ⟨P3b, h⟩ := snAll h
  replace P3b := sp_2.mp P3b
  obtain ⟨P4, h⟩ := snAll h
  replace P4 := sp_2.mp P4
  obtain ⟨P5, h⟩ := snAll h
  replace P5 := sp_2.mp P5
  obtain ⟨P6, h⟩ := snAll h
  replace P6 := sp_2.mp P6
  obtain ⟨P7, h⟩ := snAll h
  replace P7 := sp_2.mp P7
  obtain ⟨P8, h⟩ := snAll h
  replace P8 := sp_2.mp P8
  obtain ⟨P9, h⟩ := snAll h
  replace P9 := sp_2.mp P9
  obtain ⟨P10, h⟩ := snAll h
  replace P10 := s_cur.mp P10
  obtain ⟨P11, h⟩ := snAll h
  replace P11 := sp_2.mp P11
  obtain ⟨P12, h⟩ := snAll h
  replace P12 := sp_2.mp P12
  obtain ⟨P13, h⟩ := snAll h
  replace P13 := s_rdy.mp P13
  obtain ⟨P14, h⟩ := snAll h
  replace P14 := sp_2.mp P14
  obtain ⟨P15, h⟩ := snAll h
  replace P15 := sp_2.mp P15
  obtain ⟨P16, h⟩ := snAll h
  replace P16 := sp_2.mp P16
  obtain ⟨P17, h⟩ := snAll h
  replace P17 := sp_2.mp P17
  obtain ⟨P18, h⟩ := snAll h
  replace P18 := sp_2.mp P18
  obtain ⟨P19, h⟩ := snAll h
  replace P19 := sp_2.mp P19
  obtain ⟨P20, h⟩ := snAll h
  replace P20 := sp_2.mp P20
  obtain ⟨P21, h⟩ := snAll h
  replace P21 := sp_2.mp P21
  rcases List.mem_cons.mp hx with hx | hx
  · rw [hx]; refine s_cur.mpr ?_; apply L_cuY (F0 := nthF fs 0) (F1 := nthF fs 1) (F2 := nthF fs 2) (F3 := nthF fs 3) (F4 := nthF fs 4) (F5 := nthF fs 5) (F6 := nthF fs 6) (F7 := nthF fs 7) (N0 := nthZ zs 0) (N1 := nthZ zs 1) (N2 := nthZ zs 2) (N3 := nthZ zs 3) (N4 := nthZ zs 4) (N5 := nthZ zs 5) (N6 := nthZ zs 6) (N7 := nthZ zs 7) (N8 := nthZ zs 8) (N9 := nthZ zs 9) (N10 := nthZ zs 10) (N11 := nthZ zs 11) (N12 := nthZ zs 12) (N13 := nthZ zs 13) (N14 := nthZ zs 14) (N15 := nthZ zs 15) (N16 := nthZ zs 16) (N17 := nthZ zs 17) (N18 := nthZ zs 18) (N19 := nthZ zs 19) <;> first | assumption | omega
  · cases hx
def q_s1I : qRl := ([(1120, [5, 0, 1, 2, 3, 4, 0, 1, 2, 3, 4, 5], []), sp (-1) [(4, (-1))], sp (-1) [(5, (-1))]], [(1139, [7, 0, 1, 2, 3, 4, 5, 6, 0, 1, 2, 3], [])])
theorem q_s1I_ok : RlOk q_s1I := by
  intro fs zs h x hx
  obtain ⟨P0, h⟩ := snAll h
  replace P0 := s_cur.mp P0
  obtain ⟨P1, h⟩ := snAll h
  replace P1 := sp_1.mp P1
  obtain ⟨P2, h⟩ := snAll h
  replace P2 := sp_1.mp P2
  rcases List.mem_cons.mp hx with hx | hx
  · rw [hx]; refine s_sh1.mpr ?_; apply L_s1I (F0 := nthF fs 0) (F1 := nthF fs 1) (F2 := nthF fs 2) (F3 := nthF fs 3) (F4 := nthF fs 4) (F5 := nthF fs 5) (F6 := nthF fs 6) (N0 := nthZ zs 0) (N1 := nthZ zs 1) (N2 := nthZ zs 2) (N3 := nthZ zs 3) (N4 := nthZ zs 4) (N5 := nthZ zs 5) <;> first | assumption | omega
  · cases hx
def q_s1A : qRl := ([(2, [7, 1, 5, 6], []), sp (-2) [(6, 1)], sp 2 [(6, (-1))], (1139, [7, 0, 1, 2, 3, 4, 5, 6, 0, 1, 2, 3], []), (1137, [2, 5, 6, 4, 7], []), sp 0 [(7, (-1))], (1, [2, 4, 5], []), sp 0 [(4, 1), (1, (-1))], sp (-1) [(3, 1), (4, (-1))], (1, [0, 5, 8], []), sp (-4) [(8, 1)], sp 4 [(8, (-1))]], [(1139, [7, 0, 7, 2, 3, 4, 5, 6, 0, 1, 2, 3], [])])
theorem q_s1A_ok : RlOk q_s1A := by
  intro fs zs h x hx
  obtain ⟨P0, h⟩ := snAll h
  replace P0 := s_wr.mp P0
  obtain ⟨P1, h⟩ := snAll h
  replace P1 := sp_1.mp P1
  obtain ⟨P2, h⟩ := snAll h
  replace P2 := sp_1.mp P2
  obtain ⟨P3, h⟩ := snAll h
  replace P3 := s_sh1.mp P3
  obtain ⟨P4, h⟩ := snAll h
  replace P4 := s_nrw.mp P4
  obtain ⟨P5, h⟩ := snAll h
  replace P5 := sp_1.mp P5
  obtain ⟨P6, h⟩ := snAll h
  replace P6 := s_rd.mp P6
  obtain ⟨P7, h⟩ := snAll h
  replace P7 := sp_2.mp P7
  obtain ⟨P8, h⟩ := snAll h
  replace P8 := sp_2.mp P8
  obtain ⟨P9, h⟩ := snAll h
  replace P9 := s_rd.mp P9
  obtain ⟨P10, h⟩ := snAll h
  replace P10 := sp_1.mp P10
  obtain ⟨P11, h⟩ := snAll h
  replace P11 := sp_1.mp P11
  rcases List.mem_cons.mp hx with hx | hx
  · rw [hx]; refine s_sh1.mpr ?_; apply L_s1A (F0 := nthF fs 0) (F1 := nthF fs 1) (F2 := nthF fs 2) (F3 := nthF fs 3) (F4 := nthF fs 4) (F5 := nthF fs 5) (F6 := nthF fs 6) (F7 := nthF fs 7) (N0 := nthZ zs 0) (N1 := nthZ zs 1) (N2 := nthZ zs 2) (N3 := nthZ zs 3) (N4 := nthZ zs 4) (N5 := nthZ zs 5) (N6 := nthZ zs 6) (N7 := nthZ zs 7) <;> first | assumption | omega
  · cases hx
def q_s1B : qRl := ([(2, [7, 1, 5, 6], []), (1139, [7, 0, 1, 2, 3, 4, 5, 6, 0, 1, 2, 3], []), (1, [0, 5, 8], []), sp (-2) [(8, 1)], sp 2 [(8, (-1))]], [(1139, [7, 0, 7, 2, 3, 4, 5, 6, 0, 1, 2, 3], [])])
theorem q_s1B_ok : RlOk q_s1B := by
  intro fs zs h x hx
  obtain ⟨P0, h⟩ := snAll h
  replace P0 := s_wr.mp P0
  obtain ⟨P1, h⟩ := snAll h
  replace P1 := s_sh1.mp P1
  obtain ⟨P2, h⟩ := snAll h
  replace P2 := s_rd.mp P2
  obtain ⟨P3, h⟩ := snAll h
  replace P3 := sp_1.mp P3
  obtain ⟨P4, h⟩ := snAll h
  replace P4 := sp_1.mp P4
  rcases List.mem_cons.mp hx with hx | hx
  · rw [hx]; refine s_sh1.mpr ?_; apply L_s1B (F0 := nthF fs 0) (F1 := nthF fs 1) (F2 := nthF fs 2) (F3 := nthF fs 3) (F4 := nthF fs 4) (F5 := nthF fs 5) (F6 := nthF fs 6) (F7 := nthF fs 7) (N0 := nthZ zs 0) (N1 := nthZ zs 1) (N2 := nthZ zs 2) (N3 := nthZ zs 3) (N5 := nthZ zs 5) (N6 := nthZ zs 6) <;> first | assumption | omega
  · cases hx
def q_s1C : qRl := ([(2, [7, 3, 4, 6], []), (1139, [7, 0, 1, 2, 3, 4, 5, 6, 0, 1, 2, 3], []), (1, [2, 4, 5], []), sp 0 [(4, 1), (1, (-1))], sp (-1) [(3, 1), (4, (-1))], (1, [0, 5, 8], []), sp (-4) [(8, 1)], sp 4 [(8, (-1))], (1, [1, 5, 9], []), sp (-2) [(9, 1)], sp 2 [(9, (-1))]], [(1139, [7, 0, 1, 2, 7, 4, 5, 6, 0, 1, 2, 3], [])])
theorem q_s1C_ok : RlOk q_s1C := by
  intro fs zs h x hx
  obtain ⟨P0, h⟩ := snAll h
  replace P0 := s_wr.mp P0
  obtain ⟨P1, h⟩ := snAll h
  replace P1 := s_sh1.mp P1
  obtain ⟨P2, h⟩ := snAll h
  replace P2 := s_rd.mp P2
  obtain ⟨P3, h⟩ := snAll h
  replace P3 := sp_2.mp P3
  obtain ⟨P4, h⟩ := snAll h
  replace P4 := sp_2.mp P4
  obtain ⟨P5, h⟩ := snAll h
  replace P5 := s_rd.mp P5
  obtain ⟨P6, h⟩ := snAll h
  replace P6 := sp_1.mp P6
  obtain ⟨P7, h⟩ := snAll h
  replace P7 := sp_1.mp P7
  obtain ⟨P8, h⟩ := snAll h
  replace P8 := s_rd.mp P8
  obtain ⟨P9, h⟩ := snAll h
  replace P9 := sp_1.mp P9
  obtain ⟨P10, h⟩ := snAll h
  replace P10 := sp_1.mp P10
  rcases List.mem_cons.mp hx with hx | hx
  · rw [hx]; refine s_sh1.mpr ?_; apply L_s1C (F0 := nthF fs 0) (F1 := nthF fs 1) (F2 := nthF fs 2) (F3 := nthF fs 3) (F4 := nthF fs 4) (F5 := nthF fs 5) (F6 := nthF fs 6) (F7 := nthF fs 7) (N0 := nthZ zs 0) (N1 := nthZ zs 1) (N2 := nthZ zs 2) (N3 := nthZ zs 3) (N4 := nthZ zs 4) (N5 := nthZ zs 5) (N6 := nthZ zs 6) <;> first | assumption | omega
  · cases hx
def q_s1D : qRl := ([(2, [7, 1, 5, 6], []), (2, [8, 3, 4, 7], []), (1139, [7, 0, 1, 2, 3, 4, 5, 6, 0, 1, 2, 3], []), (1, [2, 4, 5], []), sp 0 [(4, 1), (1, (-1))], sp (-1) [(3, 1), (4, (-1))], (1, [0, 5, 8], []), sp (-4) [(8, 1)], sp 4 [(8, (-1))], (1, [1, 5, 9], []), sp (-2) [(9, 1)], sp 2 [(9, (-1))], sp (-5) [(6, 1)], sp 4 [(7, 1), (6, (-1))], sp (-4) [(6, 1), (7, (-1))]], [(1139, [7, 0, 7, 2, 8, 4, 5, 6, 0, 1, 2, 3], [])])
theorem q_s1D_ok : RlOk q_s1D := by
  intro fs zs h x hx
  obtain ⟨P0, h⟩ := snAll h
  replace P0 := s_wr.mp P0
  obtain ⟨P1, h⟩ := snAll h
  replace P1 := s_wr.mp P1
  obtain ⟨P2, h⟩ := snAll h
  replace P2 := s_sh1.mp P2
  obtain ⟨P3, h⟩ := snAll h
  replace P3 := s_rd.mp P3
  obtain ⟨P4, h⟩ := snAll h
  replace P4 := sp_2.mp P4
  obtain ⟨P5, h⟩ := snAll h
  replace P5 := sp_2.mp P5
  obtain ⟨P6, h⟩ := snAll h
  replace P6 := s_rd.mp P6
  obtain ⟨P7, h⟩ := snAll h
  replace P7 := sp_1.mp P7
  obtain ⟨P8, h⟩ := snAll h
  replace P8 := sp_1.mp P8
  obtain ⟨P9, h⟩ := snAll h
  replace P9 := s_rd.mp P9
  obtain ⟨P10, h⟩ := snAll h
  replace P10 := sp_1.mp P10
  obtain ⟨P11, h⟩ := snAll h
  replace P11 := sp_1.mp P11
  obtain ⟨P12, h⟩ := snAll h
  replace P12 := sp_1.mp P12
  obtain ⟨P13, h⟩ := snAll h
  replace P13 := sp_2.mp P13
  obtain ⟨P14, h⟩ := snAll h
  replace P14 := sp_2.mp P14
  rcases List.mem_cons.mp hx with hx | hx
  · rw [hx]; refine s_sh1.mpr ?_; apply L_s1D (F0 := nthF fs 0) (F1 := nthF fs 1) (F2 := nthF fs 2) (F3 := nthF fs 3) (F4 := nthF fs 4) (F5 := nthF fs 5) (F6 := nthF fs 6) (F7 := nthF fs 7) (F8 := nthF fs 8) (N0 := nthZ zs 0) (N1 := nthZ zs 1) (N2 := nthZ zs 2) (N3 := nthZ zs 3) (N4 := nthZ zs 4) (N5 := nthZ zs 5) (N6 := nthZ zs 6) (N7 := nthZ zs 7) <;> first | assumption | omega
  · cases hx
def q_s1U : qRl := ([(1139, [7, 0, 1, 2, 3, 4, 5, 6, 12, 13, 14, 15], []), (1, [2, 4, 5], []), sp 0 [(4, 1), (13, (-1))], sp (-1) [(15, 1), (4, (-1))], (1, [0, 5, 8], []), sp (-4) [(8, 1)], sp 4 [(8, (-1))], (1, [1, 5, 9], []), sp (-2) [(9, 1)], sp 2 [(9, (-1))], (1, [5, 4, 10], []), sp 0 [(10, 1), (0, (-1))], sp 0 [(0, 1), (10, (-1))], sp 0 []], [(1136, [1, 6, 0, 1], [])])
theorem q_s1U_ok : RlOk q_s1U := by
  intro fs zs h x hx
  obtain ⟨P0, h⟩ := snAll h
  replace P0 := s_sh1.mp P0
  obtain ⟨P1, h⟩ := snAll h
  replace P1 := s_rd.mp P1
  obtain ⟨P2, h⟩ := snAll h
  replace P2 := sp_2.mp P2
  obtain ⟨P3, h⟩ := snAll h
  replace P3 := sp_2.mp P3
  obtain ⟨P4, h⟩ := snAll h
  replace P4 := s_rd.mp P4
  obtain ⟨P5, h⟩ := snAll h
  replace P5 := sp_1.mp P5
  obtain ⟨P6, h⟩ := snAll h
  replace P6 := sp_1.mp P6
  obtain ⟨P7, h⟩ := snAll h
  replace P7 := s_rd.mp P7
  obtain ⟨P8, h⟩ := snAll h
  replace P8 := sp_1.mp P8
  obtain ⟨P9, h⟩ := snAll h
  replace P9 := sp_1.mp P9
  obtain ⟨P10, h⟩ := snAll h
  replace P10 := s_rd.mp P10
  obtain ⟨P11, h⟩ := snAll h
  replace P11 := sp_2.mp P11
  obtain ⟨P12, h⟩ := snAll h
  replace P12 := sp_2.mp P12
  obtain ⟨P13, h⟩ := snAll h
  replace P13 := sp_0.mp P13
  rcases List.mem_cons.mp hx with hx | hx
  · rw [hx]; refine s_okp.mpr ?_; apply L_s1U (F0 := nthF fs 0) (F1 := nthF fs 1) (F2 := nthF fs 2) (F3 := nthF fs 3) (F4 := nthF fs 4) (F5 := nthF fs 5) (F6 := nthF fs 6) (N0 := nthZ zs 0) (N1 := nthZ zs 1) (N4 := nthZ zs 4) (N5 := nthZ zs 5) (N12 := nthZ zs 12) (N13 := nthZ zs 13) (N14 := nthZ zs 14) (N15 := nthZ zs 15) <;> first | assumption | omega
  · cases hx
def q_s3I : qRl := ([(1139, [7, 0, 1, 2, 3, 4, 6, 7, 0, 1, 2, 3], []), sp 0 [(1, 1), (4, (-1))]], [(1140, [8, 0, 1, 2, 3, 4, 5, 6, 7, 0, 1, 2, 3, 4], [])])
theorem q_s3I_ok : RlOk q_s3I := by
  intro fs zs h x hx
  obtain ⟨P0, h⟩ := snAll h
  replace P0 := s_sh1.mp P0
  obtain ⟨P1, h⟩ := snAll h
  replace P1 := sp_2.mp P1
  rcases List.mem_cons.mp hx with hx | hx
  · rw [hx]; refine s_sh3.mpr ?_; apply L_s3I (F0 := nthF fs 0) (F1 := nthF fs 1) (F2 := nthF fs 2) (F3 := nthF fs 3) (F4 := nthF fs 4) (F5 := nthF fs 5) (F6 := nthF fs 6) (F7 := nthF fs 7) (N0 := nthZ zs 0) (N1 := nthZ zs 1) (N2 := nthZ zs 2) (N3 := nthZ zs 3) (N4 := nthZ zs 4) <;> first | assumption | omega
  · cases hx
def q_s3A0 : qRl := ([sp 1 [(5, 1), (4, (-1))], sp (-1) [(5, (-1)), (4, 1)], (1140, [8, 0, 1, 2, 3, 4, 5, 6, 7, 0, 1, 2, 3, 5], []), sp 0 [(5, 1), (1, (-1))], sp (-1) [(3, 1), (5, (-1))], (1, [2, 5, 6], []), (1, [0, 6, 7], []), sp 3 [(7, (-1))]], [(1140, [8, 0, 1, 2, 3, 4, 5, 6, 7, 0, 1, 2, 3, 4], [])])
theorem q_s3A0_ok : RlOk q_s3A0 := by
  intro fs zs h x hx
  obtain ⟨P0a, h⟩ := snAll h
  replace P0a := sp_2.mp P0a
  obtain ⟨P0b, h⟩ := snAll h
  replace P0b := sp_2.mp P0b
  obtain ⟨P1, h⟩ := snAll h
  replace P1 := s_sh3.mp P1
  obtain ⟨P2, h⟩ := snAll h
  replace P2 := sp_2.mp P2
  obtain ⟨P3, h⟩ := snAll h
  replace P3 := sp_2.mp P3
  obtain ⟨P4, h⟩ := snAll h
  replace P4 := s_rd.mp P4
  obtain ⟨P5, h⟩ := snAll h
  replace P5 := s_rd.mp P5
  obtain ⟨P6, h⟩ := snAll h
  replace P6 := sp_1.mp P6
  rcases List.mem_cons.mp hx with hx | hx
  · rw [hx]; refine s_sh3.mpr ?_; apply L_s3A (F0 := nthF fs 0) (F1 := nthF fs 1) (F2 := nthF fs 2) (F3 := nthF fs 3) (F4 := nthF fs 4) (F5 := nthF fs 5) (F6 := nthF fs 6) (F7 := nthF fs 7) (N0 := nthZ zs 0) (N1 := nthZ zs 1) (N2 := nthZ zs 2) (N3 := nthZ zs 3) (N4 := nthZ zs 4) (N5 := nthZ zs 5) (N6 := nthZ zs 6) <;> first | assumption | omega
  · cases hx
def q_s3A1 : qRl := ([sp 1 [(5, 1), (4, (-1))], sp (-1) [(5, (-1)), (4, 1)], (1140, [8, 0, 1, 2, 3, 4, 5, 6, 7, 0, 1, 2, 3, 5], []), sp 0 [(5, 1), (1, (-1))], sp (-1) [(3, 1), (5, (-1))], (1, [2, 5, 6], []), (1, [0, 6, 7], []), sp (-5) [(7, 1)]], [(1140, [8, 0, 1, 2, 3, 4, 5, 6, 7, 0, 1, 2, 3, 4], [])])
theorem q_s3A1_ok : RlOk q_s3A1 := by
  intro fs zs h x hx
  obtain ⟨P0a, h⟩ := snAll h
  replace P0a := sp_2.mp P0a
  obtain ⟨P0b, h⟩ := snAll h
  replace P0b := sp_2.mp P0b
  obtain ⟨P1, h⟩ := snAll h
  replace P1 := s_sh3.mp P1
  obtain ⟨P2, h⟩ := snAll h
  replace P2 := sp_2.mp P2
  obtain ⟨P3, h⟩ := snAll h
  replace P3 := sp_2.mp P3
  obtain ⟨P4, h⟩ := snAll h
  replace P4 := s_rd.mp P4
  obtain ⟨P5, h⟩ := snAll h
  replace P5 := s_rd.mp P5
  obtain ⟨P6, h⟩ := snAll h
  replace P6 := sp_1.mp P6
  rcases List.mem_cons.mp hx with hx | hx
  · rw [hx]; refine s_sh3.mpr ?_; apply L_s3A (F0 := nthF fs 0) (F1 := nthF fs 1) (F2 := nthF fs 2) (F3 := nthF fs 3) (F4 := nthF fs 4) (F5 := nthF fs 5) (F6 := nthF fs 6) (F7 := nthF fs 7) (N0 := nthZ zs 0) (N1 := nthZ zs 1) (N2 := nthZ zs 2) (N3 := nthZ zs 3) (N4 := nthZ zs 4) (N5 := nthZ zs 5) (N6 := nthZ zs 6) <;> first | assumption | omega
  · cases hx
def q_s3B : qRl := ([(2, [8, 4, 5, 8], []), sp (-1) [(8, 1)], sp 1 [(8, (-1))], (2, [9, 5, 6, 10], []), sp 1 [(5, 1), (4, (-1))], sp (-1) [(5, (-1)), (4, 1)], (1140, [8, 0, 1, 2, 3, 4, 5, 6, 7, 0, 1, 2, 3, 5], []), sp 0 [(5, 1), (1, (-1))], sp (-1) [(3, 1), (5, (-1))], (1, [2, 5, 6], []), (1, [0, 6, 7], []), sp 0 [(10, 1), (5, (-1))], sp 0 [(5, 1), (10, (-1))], sp (-4) [(7, 1)], sp 4 [(7, (-1))], (1, [1, 6, 9], []), sp (-2) [(9, 1)], sp 2 [(9, (-1))]], [(1140, [8, 0, 1, 2, 3, 8, 9, 6, 7, 0, 1, 2, 3, 4], [])])
theorem q_s3B_ok : RlOk q_s3B := by
  intro fs zs h x hx
  obtain ⟨P0, h⟩ := snAll h
  replace P0 := s_wr.mp P0
  obtain ⟨P1, h⟩ := snAll h
  replace P1 := sp_1.mp P1
  obtain ⟨P2, h⟩ := snAll h
  replace P2 := sp_1.mp P2
  obtain ⟨P3, h⟩ := snAll h
  replace P3 := s_wr.mp P3
  obtain ⟨P4a, h⟩ := snAll h
  replace P4a := sp_2.mp P4a
  obtain ⟨P4b, h⟩ := snAll h
  replace P4b := sp_2.mp P4b
  obtain ⟨P5, h⟩ := snAll h
  replace P5 := s_sh3.mp P5
  obtain ⟨P6, h⟩ := snAll h
  replace P6 := sp_2.mp P6
  obtain ⟨P7, h⟩ := snAll h
  replace P7 := sp_2.mp P7
  obtain ⟨P8, h⟩ := snAll h
  replace P8 := s_rd.mp P8
  obtain ⟨P9, h⟩ := snAll h
  replace P9 := s_rd.mp P9
  obtain ⟨P10, h⟩ := snAll h
  replace P10 := sp_2.mp P10
  obtain ⟨P11, h⟩ := snAll h
  replace P11 := sp_2.mp P11
  obtain ⟨P12, h⟩ := snAll h
  replace P12 := sp_1.mp P12
  obtain ⟨P13, h⟩ := snAll h
  replace P13 := sp_1.mp P13
  obtain ⟨P14, h⟩ := snAll h
  replace P14 := s_rd.mp P14
  obtain ⟨P15, h⟩ := snAll h
  replace P15 := sp_1.mp P15
  obtain ⟨P16, h⟩ := snAll h
  replace P16 := sp_1.mp P16
  rcases List.mem_cons.mp hx with hx | hx
  · rw [hx]; refine s_sh3.mpr ?_; apply L_s3B (F0 := nthF fs 0) (F1 := nthF fs 1) (F2 := nthF fs 2) (F3 := nthF fs 3) (F4 := nthF fs 4) (F5 := nthF fs 5) (F6 := nthF fs 6) (F7 := nthF fs 7) (F8 := nthF fs 8) (F9 := nthF fs 9) (N0 := nthZ zs 0) (N1 := nthZ zs 1) (N2 := nthZ zs 2) (N3 := nthZ zs 3) (N4 := nthZ zs 4) (N5 := nthZ zs 5) (N6 := nthZ zs 6) (N8 := nthZ zs 8) (N10 := nthZ zs 10) <;> first | assumption | omega
  · cases hx
def q_s3C0 : qRl := ([(2, [9, 5, 6, 10], []), sp 1 [(5, 1), (4, (-1))], sp (-1) [(5, (-1)), (4, 1)], (1140, [8, 0, 1, 2, 3, 4, 5, 6, 7, 0, 1, 2, 3, 5], []), sp 0 [(5, 1), (1, (-1))], sp (-1) [(3, 1), (5, (-1))], (1, [2, 5, 6], []), (1, [0, 6, 7], []), sp 0 [(10, 1), (5, (-1))], sp 0 [(5, 1), (10, (-1))], sp (-4) [(7, 1)], sp 4 [(7, (-1))], (1, [1, 6, 9], []), sp 1 [(9, (-1))]], [(1140, [8, 0, 1, 2, 3, 4, 9, 6, 7, 0, 1, 2, 3, 4], [])])
theorem q_s3C0_ok : RlOk q_s3C0 := by
  intro fs zs h x hx
  obtain ⟨P0, h⟩ := snAll h
  replace P0 := s_wr.mp P0
  obtain ⟨P1a, h⟩ := snAll h
  replace P1a := sp_2.mp P1a
  obtain ⟨P1b, h⟩ := snAll h
  replace P1b := sp_2.mp P1b
  obtain ⟨P2, h⟩ := snAll h
  replace P2 := s_sh3.mp P2
  obtain ⟨P3, h⟩ := snAll h
  replace P3 := sp_2.mp P3
  obtain ⟨P4, h⟩ := snAll h
  replace P4 := sp_2.mp P4
  obtain ⟨P5, h⟩ := snAll h
  replace P5 := s_rd.mp P5
  obtain ⟨P6, h⟩ := snAll h
  replace P6 := s_rd.mp P6
  obtain ⟨P7, h⟩ := snAll h
  replace P7 := sp_2.mp P7
  obtain ⟨P8, h⟩ := snAll h
  replace P8 := sp_2.mp P8
  obtain ⟨P9, h⟩ := snAll h
  replace P9 := sp_1.mp P9
  obtain ⟨P10, h⟩ := snAll h
  replace P10 := sp_1.mp P10
  obtain ⟨P11, h⟩ := snAll h
  replace P11 := s_rd.mp P11
  obtain ⟨P12, h⟩ := snAll h
  replace P12 := sp_1.mp P12
  rcases List.mem_cons.mp hx with hx | hx
  · rw [hx]; refine s_sh3.mpr ?_; apply L_s3C (F0 := nthF fs 0) (F1 := nthF fs 1) (F2 := nthF fs 2) (F3 := nthF fs 3) (F4 := nthF fs 4) (F5 := nthF fs 5) (F6 := nthF fs 6) (F7 := nthF fs 7) (F9 := nthF fs 9) (N0 := nthZ zs 0) (N1 := nthZ zs 1) (N2 := nthZ zs 2) (N3 := nthZ zs 3) (N4 := nthZ zs 4) (N5 := nthZ zs 5) (N6 := nthZ zs 6) (N10 := nthZ zs 10) <;> first | assumption | omega
  · cases hx
def q_s3C1 : qRl := ([(2, [9, 5, 6, 10], []), sp 1 [(5, 1), (4, (-1))], sp (-1) [(5, (-1)), (4, 1)], (1140, [8, 0, 1, 2, 3, 4, 5, 6, 7, 0, 1, 2, 3, 5], []), sp 0 [(5, 1), (1, (-1))], sp (-1) [(3, 1), (5, (-1))], (1, [2, 5, 6], []), (1, [0, 6, 7], []), sp 0 [(10, 1), (5, (-1))], sp 0 [(5, 1), (10, (-1))], sp (-4) [(7, 1)], sp 4 [(7, (-1))], (1, [1, 6, 9], []), sp (-3) [(9, 1)]], [(1140, [8, 0, 1, 2, 3, 4, 9, 6, 7, 0, 1, 2, 3, 4], [])])
theorem q_s3C1_ok : RlOk q_s3C1 := by
  intro fs zs h x hx
  obtain ⟨P0, h⟩ := snAll h
  replace P0 := s_wr.mp P0
  obtain ⟨P1a, h⟩ := snAll h
  replace P1a := sp_2.mp P1a
  obtain ⟨P1b, h⟩ := snAll h
  replace P1b := sp_2.mp P1b
  obtain ⟨P2, h⟩ := snAll h
  replace P2 := s_sh3.mp P2
  obtain ⟨P3, h⟩ := snAll h
  replace P3 := sp_2.mp P3
  obtain ⟨P4, h⟩ := snAll h
  replace P4 := sp_2.mp P4
  obtain ⟨P5, h⟩ := snAll h
  replace P5 := s_rd.mp P5
  obtain ⟨P6, h⟩ := snAll h
  replace P6 := s_rd.mp P6
  obtain ⟨P7, h⟩ := snAll h
  replace P7 := sp_2.mp P7
  obtain ⟨P8, h⟩ := snAll h
  replace P8 := sp_2.mp P8
  obtain ⟨P9, h⟩ := snAll h
  replace P9 := sp_1.mp P9
  obtain ⟨P10, h⟩ := snAll h
  replace P10 := sp_1.mp P10
  obtain ⟨P11, h⟩ := snAll h
  replace P11 := s_rd.mp P11
  obtain ⟨P12, h⟩ := snAll h
  replace P12 := sp_1.mp P12
  rcases List.mem_cons.mp hx with hx | hx
  · rw [hx]; refine s_sh3.mpr ?_; apply L_s3C (F0 := nthF fs 0) (F1 := nthF fs 1) (F2 := nthF fs 2) (F3 := nthF fs 3) (F4 := nthF fs 4) (F5 := nthF fs 5) (F6 := nthF fs 6) (F7 := nthF fs 7) (F9 := nthF fs 9) (N0 := nthZ zs 0) (N1 := nthZ zs 1) (N2 := nthZ zs 2) (N3 := nthZ zs 3) (N4 := nthZ zs 4) (N5 := nthZ zs 5) (N6 := nthZ zs 6) (N10 := nthZ zs 10) <;> first | assumption | omega
  · cases hx
def q_fnE : qRl := ([sp (-1) [(4, 1)], sp 0 [], sp 0 [], sp 0 [], sp 0 []], [(1141, [8, 0, 1, 2, 3, 4, 5, 6, 7, 0, 1, 2, 3, 4], [])])
theorem q_fnE_ok : RlOk q_fnE := by
  intro fs zs h x hx
  obtain ⟨P0, h⟩ := snAll h
  replace P0 := sp_1.mp P0
  obtain ⟨P1, h⟩ := snAll h
  replace P1 := sp_0.mp P1
  obtain ⟨P2, h⟩ := snAll h
  replace P2 := sp_0.mp P2
  obtain ⟨P3, h⟩ := snAll h
  replace P3 := sp_0.mp P3
  obtain ⟨P4, h⟩ := snAll h
  replace P4 := sp_0.mp P4
  rcases List.mem_cons.mp hx with hx | hx
  · rw [hx]; refine s_fin.mpr ?_; apply L_fnE (F0 := nthF fs 0) (F1 := nthF fs 1) (F2 := nthF fs 2) (F3 := nthF fs 3) (F4 := nthF fs 4) (F5 := nthF fs 5) (F6 := nthF fs 6) (F7 := nthF fs 7) (N0 := nthZ zs 0) (N1 := nthZ zs 1) (N2 := nthZ zs 2) (N3 := nthZ zs 3) (N4 := nthZ zs 4) <;> first | assumption | omega
  · cases hx
def q_fnI : qRl := ([(1140, [8, 0, 1, 2, 3, 4, 5, 6, 7, 0, 1, 2, 3, 5], []), sp 0 [(5, 1), (3, (-1))], sp 0 []], [(1141, [8, 0, 1, 2, 3, 4, 5, 6, 7, 0, 1, 2, 3, 4], [])])
theorem q_fnI_ok : RlOk q_fnI := by
  intro fs zs h x hx
  obtain ⟨P0, h⟩ := snAll h
  replace P0 := s_sh3.mp P0
  obtain ⟨P1, h⟩ := snAll h
  replace P1 := sp_2.mp P1
  obtain ⟨P2, h⟩ := snAll h
  replace P2 := sp_0.mp P2
  rcases List.mem_cons.mp hx with hx | hx
  · rw [hx]; refine s_fin.mpr ?_; apply L_fnI (F0 := nthF fs 0) (F1 := nthF fs 1) (F2 := nthF fs 2) (F3 := nthF fs 3) (F4 := nthF fs 4) (F5 := nthF fs 5) (F6 := nthF fs 6) (F7 := nthF fs 7) (N0 := nthZ zs 0) (N1 := nthZ zs 1) (N2 := nthZ zs 2) (N3 := nthZ zs 3) (N4 := nthZ zs 4) (N5 := nthZ zs 5) <;> first | assumption | omega
  · cases hx
def q_s1W : qRl := ([(1139, [7, 0, 1, 2, 3, 4, 5, 6, 0, 1, 2, 3], []), (1, [2, 4, 5], []), sp 0 [(4, 1), (1, (-1))], sp (-1) [(3, 1), (4, (-1))]], [sp 0 [(5, 1), (0, (-1))], sp (-1) [(2, 1), (5, (-1))]])
theorem q_s1W_ok : RlOk q_s1W := by
  intro fs zs h x hx
  obtain ⟨P0, h⟩ := snAll h
  replace P0 := s_sh1.mp P0
  obtain ⟨P1, h⟩ := snAll h
  replace P1 := s_rd.mp P1
  obtain ⟨P2, h⟩ := snAll h
  replace P2 := sp_2.mp P2
  obtain ⟨P3, h⟩ := snAll h
  replace P3 := sp_2.mp P3
  have L := L_s1W P0 P1 (by omega) (by omega)
  rcases List.mem_cons.mp hx with hx | hx
  · rw [hx]; refine sp_2.mpr ?_; omega
  rcases List.mem_cons.mp hx with hx | hx
  · rw [hx]; refine sp_2.mpr ?_; omega
  · cases hx
def q_s3W : qRl := ([(1140, [8, 0, 1, 2, 3, 4, 5, 6, 7, 0, 1, 2, 3, 4], []), (1, [2, 5, 6], []), sp 0 [(5, 1), (1, (-1))], sp (-1) [(3, 1), (5, (-1))]], [sp 0 [(6, 1), (0, (-1))], sp (-1) [(2, 1), (6, (-1))]])
theorem q_s3W_ok : RlOk q_s3W := by
  intro fs zs h x hx
  obtain ⟨P0, h⟩ := snAll h
  replace P0 := s_sh3.mp P0
  obtain ⟨P1, h⟩ := snAll h
  replace P1 := s_rd.mp P1
  obtain ⟨P2, h⟩ := snAll h
  replace P2 := sp_2.mp P2
  obtain ⟨P3, h⟩ := snAll h
  replace P3 := sp_2.mp P3
  have L := L_s3W P0 P1 (by omega) (by omega)
  rcases List.mem_cons.mp hx with hx | hx
  · rw [hx]; refine sp_2.mpr ?_; omega
  rcases List.mem_cons.mp hx with hx | hx
  · rw [hx]; refine sp_2.mpr ?_; omega
  · cases hx
