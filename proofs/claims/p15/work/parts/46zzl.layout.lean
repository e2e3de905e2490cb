/-! RULES OF SECTIONS LAID OUT (written by wip/p2/gen46zzl.py) -/
section
variable {fs : List (Int → Int)} {zs : List Int}
theorem s_layp {a0 a1 a2 a3 i0 i1 i2 i3 i4 i5 : Nat} : SnOk fs zs (1142, [4, a0, a1, a2, a3, i0, i1, i2, i3, i4, i5], []) ↔ eLayp (nthF fs a0) (nthF fs a1) (nthF fs a2) (nthF fs a3) (nthZ zs i0) (nthZ zs i1) (nthZ zs i2) (nthZ zs i3) (nthZ zs i4) (nthZ zs i5) := Iff.rfl
theorem s_lay {a0 a1 a2 a3 a4 i0 i1 i2 i3 : Nat} : SnOk fs zs (1143, [5, a0, a1, a2, a3, a4, i0, i1, i2, i3], []) ↔ eLay (nthF fs a0) (nthF fs a1) (nthF fs a2) (nthF fs a3) (nthF fs a4) (nthZ zs i0) (nthZ zs i1) (nthZ zs i2) (nthZ zs i3) := Iff.rfl
end
def q_lpI : qRl := ([sp 0 [(1, 1), (0, (-1))], sp 0 [(0, 1), (1, (-1))], sp 0 [(2, 1)], sp 0 [(2, (-1))], sp 0 [(3, 1)], sp 0 [(3, (-1))], sp 0 [(4, 1)], sp 0 [(4, (-1))], sp 0 [(5, 1)], sp 0 [(5, (-1))]], [(1142, [4, 0, 1, 2, 3, 0, 1, 2, 3, 4, 5], [])])
theorem q_lpI_ok : RlOk q_lpI := by
  intro fs zs h x hx
  obtain ⟨P0, h⟩ := snAll h
  replace P0 := sp_2.mp P0
  obtain ⟨P1, h⟩ := snAll h
  replace P1 := sp_2.mp P1
  obtain ⟨P2, h⟩ := snAll h
  replace P2 := sp_1.mp P2
  obtain ⟨P3, h⟩ := snAll h
  replace P3 := sp_1.mp P3
  obtain ⟨P4, h⟩ := snAll h
  replace P4 := sp_1.mp P4
  obtain ⟨P5, h⟩ := snAll h
  replace P5 := sp_1.mp P5
  obtain ⟨P6, h⟩ := snAll h
  replace P6 := sp_1.mp P6
  obtain ⟨P7, h⟩ := snAll h
  replace P7 := sp_1.mp P7
  obtain ⟨P8, h⟩ := snAll h
  replace P8 := sp_1.mp P8
  obtain ⟨P9, h⟩ := snAll h
  replace P9 := sp_1.mp P9
  rcases List.mem_cons.mp hx with hx | hx
  · rw [hx]; refine s_layp.mpr ?_; apply L_lpI (F0 := nthF fs 0) (F1 := nthF fs 1) (F2 := nthF fs 2) (F3 := nthF fs 3) (N0 := nthZ zs 0) (N1 := nthZ zs 1) (N2 := nthZ zs 2) (N3 := nthZ zs 3) (N4 := nthZ zs 4) (N5 := nthZ zs 5) <;> first | assumption | omega
  · cases hx
def q_lpO : qRl := ([(2, [4, 3, 6, 7], []), (1142, [4, 0, 1, 2, 3, 0, 1, 2, 3, 4, 5], []), sp 0 [(6, 1), (1, (-1))]], [(1142, [4, 0, 1, 2, 4, 0, 1, 2, 3, 4, 5], [])])
theorem q_lpO_ok : RlOk q_lpO := by
  intro fs zs h x hx
  obtain ⟨P0, h⟩ := snAll h
  replace P0 := s_wr.mp P0
  obtain ⟨P1, h⟩ := snAll h
  replace P1 := s_layp.mp P1
  obtain ⟨P2, h⟩ := snAll h
  replace P2 := sp_2.mp P2
  rcases List.mem_cons.mp hx with hx | hx
  · rw [hx]; refine s_layp.mpr ?_; apply L_lpO (F0 := nthF fs 0) (F1 := nthF fs 1) (F2 := nthF fs 2) (F3 := nthF fs 3) (F4 := nthF fs 4) (N0 := nthZ zs 0) (N1 := nthZ zs 1) (N2 := nthZ zs 2) (N3 := nthZ zs 3) (N4 := nthZ zs 4) (N5 := nthZ zs 5) (N6 := nthZ zs 6) (N7 := nthZ zs 7) <;> first | assumption | omega
  · cases hx
def q_lpW : qRl := ([(2, [4, 2, 6, 7], []), (1142, [4, 0, 1, 2, 3, 0, 1, 2, 3, 4, 5], []), sp 0 [(6, 1), (1, (-1))]], [(1142, [4, 0, 1, 4, 3, 0, 1, 2, 3, 4, 5], [])])
theorem q_lpW_ok : RlOk q_lpW := by
  intro fs zs h x hx
  obtain ⟨P0, h⟩ := snAll h
  replace P0 := s_wr.mp P0
  obtain ⟨P1, h⟩ := snAll h
  replace P1 := s_layp.mp P1
  obtain ⟨P2, h⟩ := snAll h
  replace P2 := sp_2.mp P2
  rcases List.mem_cons.mp hx with hx | hx
  · rw [hx]; refine s_layp.mpr ?_; apply L_lpW (F0 := nthF fs 0) (F1 := nthF fs 1) (F2 := nthF fs 2) (F3 := nthF fs 3) (F4 := nthF fs 4) (N0 := nthZ zs 0) (N1 := nthZ zs 1) (N2 := nthZ zs 2) (N3 := nthZ zs 3) (N4 := nthZ zs 4) (N5 := nthZ zs 5) (N6 := nthZ zs 6) (N7 := nthZ zs 7) <;> first | assumption | omega
  · cases hx
def q_lyE : qRl := ([sp (-1) [(3, 1)], sp 0 [], sp 0 [], sp 0 []], [(1143, [5, 0, 1, 2, 3, 4, 0, 1, 2, 3], [])])
theorem q_lyE_ok : RlOk q_lyE := by
  intro fs zs h x hx
  obtain ⟨P0, h⟩ := snAll h
  replace P0 := sp_1.mp P0
  obtain ⟨P1, h⟩ := snAll h
  replace P1 := sp_0.mp P1
  obtain ⟨P2, h⟩ := snAll h
  replace P2 := sp_0.mp P2
  obtain ⟨P3, h⟩ := snAll h
  replace P3 := sp_0.mp P3
  rcases List.mem_cons.mp hx with hx | hx
  · rw [hx]; refine s_lay.mpr ?_; apply L_lyE (F0 := nthF fs 0) (F1 := nthF fs 1) (F2 := nthF fs 2) (F3 := nthF fs 3) (F4 := nthF fs 4) (N0 := nthZ zs 0) (N1 := nthZ zs 1) (N2 := nthZ zs 2) (N3 := nthZ zs 3) <;> first | assumption | omega
  · cases hx
def q_lyI : qRl := ([(2, [5, 8, 4, 5], []), (2, [8, 7, 6, 7], []), (2, [7, 6, 8, 9], []), (2, [6, 4, 10, 11], []), sp 0 [(10, 1), (2, (-4))], sp 0 [(2, 4), (10, (-1))], sp (-1) [(8, 1), (2, (-4))], sp 1 [(2, 4), (8, (-1))], sp (-2) [(6, 1), (2, (-4))], sp 2 [(2, 4), (6, (-1))], sp (-3) [(4, 1), (2, (-4))], sp 3 [(2, 4), (4, (-1))], (1142, [4, 0, 1, 2, 3, 0, 12, 11, 9, 7, 5], []), sp 0 [(12, 1), (1, (-1))], sp 0 [(1, 1), (12, (-1))], sp 0 []], [(1143, [5, 0, 1, 2, 3, 5, 0, 1, 2, 3], [])])
theorem q_lyI_ok : RlOk q_lyI := by
  intro fs zs h x hx
  obtain ⟨P0, h⟩ := snAll h
  replace P0 := s_wr.mp P0
  obtain ⟨P1, h⟩ := snAll h
  replace P1 := s_wr.mp P1
  obtain ⟨P2, h⟩ := snAll h
  replace P2 := s_wr.mp P2
  obtain ⟨P3, h⟩ := snAll h
  replace P3 := s_wr.mp P3
  obtain ⟨P4, h⟩ := snAll h
  replace P4 := sp_2.mp P4
  obtain ⟨P5, h⟩ := snAll h
  replace P5 := sp_2.mp P5
  obtain ⟨P6, h⟩ := snAll h
  replace P6 := sp_2.mp P6
  obtain ⟨P7, h⟩ := snAll h
  replace P7 := sp_2.mp P7
  obtain ⟨P8, h⟩ := snAll h
  replace P8 := sp_2.mp P8
  obtain ⟨P9, h⟩ := snAll h
  replace P9 := sp_2.mp P9
  obtain ⟨P10, h⟩ := snAll h
  replace P10 := sp_2.mp P10
  obtain ⟨P11, h⟩ := snAll h
  replace P11 := sp_2.mp P11
  obtain ⟨P12, h⟩ := snAll h
  replace P12 := s_layp.mp P12
  obtain ⟨P13, h⟩ := snAll h
  replace P13 := sp_2.mp P13
  obtain ⟨P14, h⟩ := snAll h
  replace P14 := sp_2.mp P14
  obtain ⟨P15, h⟩ := snAll h
  replace P15 := sp_0.mp P15
  rcases List.mem_cons.mp hx with hx | hx
  · rw [hx]; refine s_lay.mpr ?_; apply L_lyI (F0 := nthF fs 0) (F1 := nthF fs 1) (F2 := nthF fs 2) (F3 := nthF fs 3) (F4 := nthF fs 4) (F5 := nthF fs 5) (F6 := nthF fs 6) (F7 := nthF fs 7) (F8 := nthF fs 8) (N0 := nthZ zs 0) (N1 := nthZ zs 1) (N2 := nthZ zs 2) (N3 := nthZ zs 3) (N4 := nthZ zs 4) (N5 := nthZ zs 5) (N6 := nthZ zs 6) (N7 := nthZ zs 7) (N8 := nthZ zs 8) (N9 := nthZ zs 9) (N10 := nthZ zs 10) (N11 := nthZ zs 11) (N12 := nthZ zs 12) <;> first | assumption | omega
  · cases hx
def q_lyZ : qRl := ([(1143, [5, 0, 1, 2, 3, 4, 0, 1, 2, 4], []), sp 0 [(3, 1), (4, (-1))]], [(1143, [5, 0, 1, 2, 3, 4, 0, 1, 2, 3], [])])
theorem q_lyZ_ok : RlOk q_lyZ := by
  intro fs zs h x hx
  obtain ⟨P0, h⟩ := snAll h
  replace P0 := s_lay.mp P0
  obtain ⟨P1, h⟩ := snAll h
  replace P1 := sp_2.mp P1
  rcases List.mem_cons.mp hx with hx | hx
  · rw [hx]; refine s_lay.mpr ?_; apply L_lyZ (F0 := nthF fs 0) (F1 := nthF fs 1) (F2 := nthF fs 2) (F3 := nthF fs 3) (F4 := nthF fs 4) (N0 := nthZ zs 0) (N1 := nthZ zs 1) (N2 := nthZ zs 2) (N3 := nthZ zs 3) (N4 := nthZ zs 4) <;> first | assumption | omega
  · cases hx
