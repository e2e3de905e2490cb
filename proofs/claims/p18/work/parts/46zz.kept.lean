/-! RULES OF WHAT IS KEPT OF THE UNITS THAT ARE DONE (written by wip/p2/gen46zz.py) -/
section
variable {fs : List (Int → Int)} {zs : List Int}
theorem s_cmt {a0 a1 a2 a3 a4 a5 a6 a7 a8 a9 a10 a11 a12 a13 i0 i1 i2 i3 : Nat} : SnOk fs zs (1119, [14, a0, a1, a2, a3, a4, a5, a6, a7, a8, a9, a10, a11, a12, a13, i0, i1, i2, i3], []) ↔ eCmt (nthF fs a0) (nthF fs a1) (nthF fs a2) (nthF fs a3) (nthF fs a4) (nthF fs a5) (nthF fs a6) (nthF fs a7) (nthF fs a8) (nthF fs a9) (nthF fs a10) (nthF fs a11) (nthF fs a12) (nthF fs a13) (nthZ zs i0) (nthZ zs i1) (nthZ zs i2) (nthZ zs i3) := Iff.rfl
end
def q_cm0 : qRl := ([(2, [14, 0, 4, 5], []), (1119, [14, 0, 1, 2, 3, 4, 5, 6, 7, 8, 9, 10, 11, 12, 13, 0, 1, 2, 3], []), sp 0 [(4, 1), (0, (-1))]], [(1119, [14, 14, 1, 2, 3, 4, 5, 6, 7, 8, 9, 10, 11, 12, 13, 0, 1, 2, 3], [])])
theorem q_cm0_ok : RlOk q_cm0 := by
  intro fs zs h x hx
  obtain ⟨P0, h⟩ := snAll h
  replace P0 := s_wr.mp P0
  obtain ⟨P1, h⟩ := snAll h
  replace P1 := s_cmt.mp P1
  obtain ⟨P2, h⟩ := snAll h
  replace P2 := sp_2.mp P2
  rcases List.mem_cons.mp hx with hx | hx
  · rw [hx]; refine s_cmt.mpr ?_; apply L_cm0 (F0 := nthF fs 0) (F1 := nthF fs 1) (F2 := nthF fs 2) (F3 := nthF fs 3) (F4 := nthF fs 4) (F5 := nthF fs 5) (F6 := nthF fs 6) (F7 := nthF fs 7) (F8 := nthF fs 8) (F9 := nthF fs 9) (F10 := nthF fs 10) (F11 := nthF fs 11) (F12 := nthF fs 12) (F13 := nthF fs 13) (F14 := nthF fs 14) (N0 := nthZ zs 0) (N1 := nthZ zs 1) (N2 := nthZ zs 2) (N3 := nthZ zs 3) (N4 := nthZ zs 4) (N5 := nthZ zs 5) <;> first | assumption | omega
  · cases hx
def q_cm1 : qRl := ([(2, [14, 1, 4, 5], []), (1119, [14, 0, 1, 2, 3, 4, 5, 6, 7, 8, 9, 10, 11, 12, 13, 0, 1, 2, 3], []), sp 0 [(4, 1), (0, (-1))]], [(1119, [14, 0, 14, 2, 3, 4, 5, 6, 7, 8, 9, 10, 11, 12, 13, 0, 1, 2, 3], [])])
theorem q_cm1_ok : RlOk q_cm1 := by
  intro fs zs h x hx
  obtain ⟨P0, h⟩ := snAll h
  replace P0 := s_wr.mp P0
  obtain ⟨P1, h⟩ := snAll h
  replace P1 := s_cmt.mp P1
  obtain ⟨P2, h⟩ := snAll h
  replace P2 := sp_2.mp P2
  rcases List.mem_cons.mp hx with hx | hx
  · rw [hx]; refine s_cmt.mpr ?_; apply L_cm1 (F0 := nthF fs 0) (F1 := nthF fs 1) (F2 := nthF fs 2) (F3 := nthF fs 3) (F4 := nthF fs 4) (F5 := nthF fs 5) (F6 := nthF fs 6) (F7 := nthF fs 7) (F8 := nthF fs 8) (F9 := nthF fs 9) (F10 := nthF fs 10) (F11 := nthF fs 11) (F12 := nthF fs 12) (F13 := nthF fs 13) (F14 := nthF fs 14) (N0 := nthZ zs 0) (N1 := nthZ zs 1) (N2 := nthZ zs 2) (N3 := nthZ zs 3) (N4 := nthZ zs 4) (N5 := nthZ zs 5) <;> first | assumption | omega
  · cases hx
def q_cm2 : qRl := ([(2, [14, 2, 4, 5], []), (1119, [14, 0, 1, 2, 3, 4, 5, 6, 7, 8, 9, 10, 11, 12, 13, 0, 1, 2, 3], []), sp 0 [(4, 1), (0, (-1))]], [(1119, [14, 0, 1, 14, 3, 4, 5, 6, 7, 8, 9, 10, 11, 12, 13, 0, 1, 2, 3], [])])
theorem q_cm2_ok : RlOk q_cm2 := by
  intro fs zs h x hx
  obtain ⟨P0, h⟩ := snAll h
  replace P0 := s_wr.mp P0
  obtain ⟨P1, h⟩ := snAll h
  replace P1 := s_cmt.mp P1
  obtain ⟨P2, h⟩ := snAll h
  replace P2 := sp_2.mp P2
  rcases List.mem_cons.mp hx with hx | hx
  · rw [hx]; refine s_cmt.mpr ?_; apply L_cm2 (F0 := nthF fs 0) (F1 := nthF fs 1) (F2 := nthF fs 2) (F3 := nthF fs 3) (F4 := nthF fs 4) (F5 := nthF fs 5) (F6 := nthF fs 6) (F7 := nthF fs 7) (F8 := nthF fs 8) (F9 := nthF fs 9) (F10 := nthF fs 10) (F11 := nthF fs 11) (F12 := nthF fs 12) (F13 := nthF fs 13) (F14 := nthF fs 14) (N0 := nthZ zs 0) (N1 := nthZ zs 1) (N2 := nthZ zs 2) (N3 := nthZ zs 3) (N4 := nthZ zs 4) (N5 := nthZ zs 5) <;> first | assumption | omega
  · cases hx
def q_cm3 : qRl := ([(2, [14, 3, 4, 5], []), (1119, [14, 0, 1, 2, 3, 4, 5, 6, 7, 8, 9, 10, 11, 12, 13, 0, 1, 2, 3], []), sp 0 [(4, 1), (0, (-1))]], [(1119, [14, 0, 1, 2, 14, 4, 5, 6, 7, 8, 9, 10, 11, 12, 13, 0, 1, 2, 3], [])])
theorem q_cm3_ok : RlOk q_cm3 := by
  intro fs zs h x hx
  obtain ⟨P0, h⟩ := snAll h
  replace P0 := s_wr.mp P0
  obtain ⟨P1, h⟩ := snAll h
  replace P1 := s_cmt.mp P1
  obtain ⟨P2, h⟩ := snAll h
  replace P2 := sp_2.mp P2
  rcases List.mem_cons.mp hx with hx | hx
  · rw [hx]; refine s_cmt.mpr ?_; apply L_cm3 (F0 := nthF fs 0) (F1 := nthF fs 1) (F2 := nthF fs 2) (F3 := nthF fs 3) (F4 := nthF fs 4) (F5 := nthF fs 5) (F6 := nthF fs 6) (F7 := nthF fs 7) (F8 := nthF fs 8) (F9 := nthF fs 9) (F10 := nthF fs 10) (F11 := nthF fs 11) (F12 := nthF fs 12) (F13 := nthF fs 13) (F14 := nthF fs 14) (N0 := nthZ zs 0) (N1 := nthZ zs 1) (N2 := nthZ zs 2) (N3 := nthZ zs 3) (N4 := nthZ zs 4) (N5 := nthZ zs 5) <;> first | assumption | omega
  · cases hx
def q_cm4 : qRl := ([(2, [14, 4, 4, 5], []), (1119, [14, 0, 1, 2, 3, 4, 5, 6, 7, 8, 9, 10, 11, 12, 13, 0, 1, 2, 3], []), sp 0 [(4, 1), (0, (-1))]], [(1119, [14, 0, 1, 2, 3, 14, 5, 6, 7, 8, 9, 10, 11, 12, 13, 0, 1, 2, 3], [])])
theorem q_cm4_ok : RlOk q_cm4 := by
  intro fs zs h x hx
  obtain ⟨P0, h⟩ := snAll h
  replace P0 := s_wr.mp P0
  obtain ⟨P1, h⟩ := snAll h
  replace P1 := s_cmt.mp P1
  obtain ⟨P2, h⟩ := snAll h
  replace P2 := sp_2.mp P2
  rcases List.mem_cons.mp hx with hx | hx
  · rw [hx]; refine s_cmt.mpr ?_; apply L_cm4 (F0 := nthF fs 0) (F1 := nthF fs 1) (F2 := nthF fs 2) (F3 := nthF fs 3) (F4 := nthF fs 4) (F5 := nthF fs 5) (F6 := nthF fs 6) (F7 := nthF fs 7) (F8 := nthF fs 8) (F9 := nthF fs 9) (F10 := nthF fs 10) (F11 := nthF fs 11) (F12 := nthF fs 12) (F13 := nthF fs 13) (F14 := nthF fs 14) (N0 := nthZ zs 0) (N1 := nthZ zs 1) (N2 := nthZ zs 2) (N3 := nthZ zs 3) (N4 := nthZ zs 4) (N5 := nthZ zs 5) <;> first | assumption | omega
  · cases hx
def q_cm5 : qRl := ([(2, [14, 5, 4, 5], []), (1119, [14, 0, 1, 2, 3, 4, 5, 6, 7, 8, 9, 10, 11, 12, 13, 0, 1, 2, 3], []), sp 0 [(4, 1), (1, (-1))]], [(1119, [14, 0, 1, 2, 3, 4, 14, 6, 7, 8, 9, 10, 11, 12, 13, 0, 1, 2, 3], [])])
theorem q_cm5_ok : RlOk q_cm5 := by
  intro fs zs h x hx
  obtain ⟨P0, h⟩ := snAll h
  replace P0 := s_wr.mp P0
  obtain ⟨P1, h⟩ := snAll h
  replace P1 := s_cmt.mp P1
  obtain ⟨P2, h⟩ := snAll h
  replace P2 := sp_2.mp P2
  rcases List.mem_cons.mp hx with hx | hx
  · rw [hx]; refine s_cmt.mpr ?_; apply L_cm5 (F0 := nthF fs 0) (F1 := nthF fs 1) (F2 := nthF fs 2) (F3 := nthF fs 3) (F4 := nthF fs 4) (F5 := nthF fs 5) (F6 := nthF fs 6) (F7 := nthF fs 7) (F8 := nthF fs 8) (F9 := nthF fs 9) (F10 := nthF fs 10) (F11 := nthF fs 11) (F12 := nthF fs 12) (F13 := nthF fs 13) (F14 := nthF fs 14) (N0 := nthZ zs 0) (N1 := nthZ zs 1) (N2 := nthZ zs 2) (N3 := nthZ zs 3) (N4 := nthZ zs 4) (N5 := nthZ zs 5) <;> first | assumption | omega
  · cases hx
def q_cm6 : qRl := ([(2, [14, 6, 4, 5], []), (1119, [14, 0, 1, 2, 3, 4, 5, 6, 7, 8, 9, 10, 11, 12, 13, 0, 1, 2, 3], []), sp 0 [(4, 1), (1, (-1))]], [(1119, [14, 0, 1, 2, 3, 4, 5, 14, 7, 8, 9, 10, 11, 12, 13, 0, 1, 2, 3], [])])
theorem q_cm6_ok : RlOk q_cm6 := by
  intro fs zs h x hx
  obtain ⟨P0, h⟩ := snAll h
  replace P0 := s_wr.mp P0
  obtain ⟨P1, h⟩ := snAll h
  replace P1 := s_cmt.mp P1
  obtain ⟨P2, h⟩ := snAll h
  replace P2 := sp_2.mp P2
  rcases List.mem_cons.mp hx with hx | hx
  · rw [hx]; refine s_cmt.mpr ?_; apply L_cm6 (F0 := nthF fs 0) (F1 := nthF fs 1) (F2 := nthF fs 2) (F3 := nthF fs 3) (F4 := nthF fs 4) (F5 := nthF fs 5) (F6 := nthF fs 6) (F7 := nthF fs 7) (F8 := nthF fs 8) (F9 := nthF fs 9) (F10 := nthF fs 10) (F11 := nthF fs 11) (F12 := nthF fs 12) (F13 := nthF fs 13) (F14 := nthF fs 14) (N0 := nthZ zs 0) (N1 := nthZ zs 1) (N2 := nthZ zs 2) (N3 := nthZ zs 3) (N4 := nthZ zs 4) (N5 := nthZ zs 5) <;> first | assumption | omega
  · cases hx
def q_cm7 : qRl := ([(2, [14, 7, 4, 5], []), (1119, [14, 0, 1, 2, 3, 4, 5, 6, 7, 8, 9, 10, 11, 12, 13, 0, 1, 2, 3], []), sp 0 [(4, 1), (1, (-1))]], [(1119, [14, 0, 1, 2, 3, 4, 5, 6, 14, 8, 9, 10, 11, 12, 13, 0, 1, 2, 3], [])])
theorem q_cm7_ok : RlOk q_cm7 := by
  intro fs zs h x hx
  obtain ⟨P0, h⟩ := snAll h
  replace P0 := s_wr.mp P0
  obtain ⟨P1, h⟩ := snAll h
  replace P1 := s_cmt.mp P1
  obtain ⟨P2, h⟩ := snAll h
  replace P2 := sp_2.mp P2
  rcases List.mem_cons.mp hx with hx | hx
  · rw [hx]; refine s_cmt.mpr ?_; apply L_cm7 (F0 := nthF fs 0) (F1 := nthF fs 1) (F2 := nthF fs 2) (F3 := nthF fs 3) (F4 := nthF fs 4) (F5 := nthF fs 5) (F6 := nthF fs 6) (F7 := nthF fs 7) (F8 := nthF fs 8) (F9 := nthF fs 9) (F10 := nthF fs 10) (F11 := nthF fs 11) (F12 := nthF fs 12) (F13 := nthF fs 13) (F14 := nthF fs 14) (N0 := nthZ zs 0) (N1 := nthZ zs 1) (N2 := nthZ zs 2) (N3 := nthZ zs 3) (N4 := nthZ zs 4) (N5 := nthZ zs 5) <;> first | assumption | omega
  · cases hx
def q_cm8 : qRl := ([(2, [14, 8, 4, 5], []), (1119, [14, 0, 1, 2, 3, 4, 5, 6, 7, 8, 9, 10, 11, 12, 13, 0, 1, 2, 3], []), sp 0 [(4, 1), (1, (-1))]], [(1119, [14, 0, 1, 2, 3, 4, 5, 6, 7, 14, 9, 10, 11, 12, 13, 0, 1, 2, 3], [])])
theorem q_cm8_ok : RlOk q_cm8 := by
  intro fs zs h x hx
  obtain ⟨P0, h⟩ := snAll h
  replace P0 := s_wr.mp P0
  obtain ⟨P1, h⟩ := snAll h
  replace P1 := s_cmt.mp P1
  obtain ⟨P2, h⟩ := snAll h
  replace P2 := sp_2.mp P2
  rcases List.mem_cons.mp hx with hx | hx
  · rw [hx]; refine s_cmt.mpr ?_; apply L_cm8 (F0 := nthF fs 0) (F1 := nthF fs 1) (F2 := nthF fs 2) (F3 := nthF fs 3) (F4 := nthF fs 4) (F5 := nthF fs 5) (F6 := nthF fs 6) (F7 := nthF fs 7) (F8 := nthF fs 8) (F9 := nthF fs 9) (F10 := nthF fs 10) (F11 := nthF fs 11) (F12 := nthF fs 12) (F13 := nthF fs 13) (F14 := nthF fs 14) (N0 := nthZ zs 0) (N1 := nthZ zs 1) (N2 := nthZ zs 2) (N3 := nthZ zs 3) (N4 := nthZ zs 4) (N5 := nthZ zs 5) <;> first | assumption | omega
  · cases hx
def q_cm9 : qRl := ([(2, [14, 9, 4, 5], []), (1119, [14, 0, 1, 2, 3, 4, 5, 6, 7, 8, 9, 10, 11, 12, 13, 0, 1, 2, 3], []), sp 0 [(4, 1), (1, (-1))]], [(1119, [14, 0, 1, 2, 3, 4, 5, 6, 7, 8, 14, 10, 11, 12, 13, 0, 1, 2, 3], [])])
theorem q_cm9_ok : RlOk q_cm9 := by
  intro fs zs h x hx
  obtain ⟨P0, h⟩ := snAll h
  replace P0 := s_wr.mp P0
  obtain ⟨P1, h⟩ := snAll h
  replace P1 := s_cmt.mp P1
  obtain ⟨P2, h⟩ := snAll h
  replace P2 := sp_2.mp P2
  rcases List.mem_cons.mp hx with hx | hx
  · rw [hx]; refine s_cmt.mpr ?_; apply L_cm9 (F0 := nthF fs 0) (F1 := nthF fs 1) (F2 := nthF fs 2) (F3 := nthF fs 3) (F4 := nthF fs 4) (F5 := nthF fs 5) (F6 := nthF fs 6) (F7 := nthF fs 7) (F8 := nthF fs 8) (F9 := nthF fs 9) (F10 := nthF fs 10) (F11 := nthF fs 11) (F12 := nthF fs 12) (F13 := nthF fs 13) (F14 := nthF fs 14) (N0 := nthZ zs 0) (N1 := nthZ zs 1) (N2 := nthZ zs 2) (N3 := nthZ zs 3) (N4 := nthZ zs 4) (N5 := nthZ zs 5) <;> first | assumption | omega
  · cases hx
def q_cmLa : qRl := ([(2, [14, 10, 4, 5], []), (1119, [14, 0, 1, 2, 3, 4, 5, 6, 7, 8, 9, 10, 11, 12, 13, 0, 1, 2, 3], []), sp 0 [(5, 1)]], [(1119, [14, 0, 1, 2, 3, 4, 5, 6, 7, 8, 9, 14, 11, 12, 13, 0, 1, 2, 3], [])])
theorem q_cmLa_ok : RlOk q_cmLa := by
  intro fs zs h x hx
  obtain ⟨P0, h⟩ := snAll h
  replace P0 := s_wr.mp P0
  obtain ⟨P1, h⟩ := snAll h
  replace P1 := s_cmt.mp P1
  obtain ⟨P2, h⟩ := snAll h
  replace P2 := sp_1.mp P2
  rcases List.mem_cons.mp hx with hx | hx
  · rw [hx]; refine s_cmt.mpr ?_; apply L_cmLa (F0 := nthF fs 0) (F1 := nthF fs 1) (F2 := nthF fs 2) (F3 := nthF fs 3) (F4 := nthF fs 4) (F5 := nthF fs 5) (F6 := nthF fs 6) (F7 := nthF fs 7) (F8 := nthF fs 8) (F9 := nthF fs 9) (F10 := nthF fs 10) (F11 := nthF fs 11) (F12 := nthF fs 12) (F13 := nthF fs 13) (F14 := nthF fs 14) (N0 := nthZ zs 0) (N1 := nthZ zs 1) (N2 := nthZ zs 2) (N3 := nthZ zs 3) (N4 := nthZ zs 4) (N5 := nthZ zs 5) <;> first | assumption | omega
  · cases hx
def q_cmLb : qRl := ([(2, [14, 10, 4, 5], []), (1119, [14, 0, 1, 2, 3, 4, 5, 6, 7, 8, 9, 10, 11, 12, 13, 0, 1, 2, 3], []), sp 0 [(4, 1), (2, (-1))]], [(1119, [14, 0, 1, 2, 3, 4, 5, 6, 7, 8, 9, 14, 11, 12, 13, 0, 1, 2, 3], [])])
theorem q_cmLb_ok : RlOk q_cmLb := by
  intro fs zs h x hx
  obtain ⟨P0, h⟩ := snAll h
  replace P0 := s_wr.mp P0
  obtain ⟨P1, h⟩ := snAll h
  replace P1 := s_cmt.mp P1
  obtain ⟨P2, h⟩ := snAll h
  replace P2 := sp_2.mp P2
  rcases List.mem_cons.mp hx with hx | hx
  · rw [hx]; refine s_cmt.mpr ?_; apply L_cmLb (F0 := nthF fs 0) (F1 := nthF fs 1) (F2 := nthF fs 2) (F3 := nthF fs 3) (F4 := nthF fs 4) (F5 := nthF fs 5) (F6 := nthF fs 6) (F7 := nthF fs 7) (F8 := nthF fs 8) (F9 := nthF fs 9) (F10 := nthF fs 10) (F11 := nthF fs 11) (F12 := nthF fs 12) (F13 := nthF fs 13) (F14 := nthF fs 14) (N0 := nthZ zs 0) (N1 := nthZ zs 1) (N2 := nthZ zs 2) (N3 := nthZ zs 3) (N4 := nthZ zs 4) (N5 := nthZ zs 5) <;> first | assumption | omega
  · cases hx
def q_cmF11a : qRl := ([(2, [14, 11, 4, 5], []), (1119, [14, 0, 1, 2, 3, 4, 5, 6, 7, 8, 9, 10, 11, 12, 13, 0, 1, 2, 3], []), sp (-1) [(4, 1), (3, (-1))]], [(1119, [14, 0, 1, 2, 3, 4, 5, 6, 7, 8, 9, 10, 14, 12, 13, 0, 1, 2, 3], [])])
theorem q_cmF11a_ok : RlOk q_cmF11a := by
  intro fs zs h x hx
  obtain ⟨P0, h⟩ := snAll h
  replace P0 := s_wr.mp P0
  obtain ⟨P1, h⟩ := snAll h
  replace P1 := s_cmt.mp P1
  obtain ⟨P2, h⟩ := snAll h
  replace P2 := sp_2.mp P2
  rcases List.mem_cons.mp hx with hx | hx
  · rw [hx]; refine s_cmt.mpr ?_; apply L_cmF11a (F0 := nthF fs 0) (F1 := nthF fs 1) (F2 := nthF fs 2) (F3 := nthF fs 3) (F4 := nthF fs 4) (F5 := nthF fs 5) (F6 := nthF fs 6) (F7 := nthF fs 7) (F8 := nthF fs 8) (F9 := nthF fs 9) (F10 := nthF fs 10) (F11 := nthF fs 11) (F12 := nthF fs 12) (F13 := nthF fs 13) (F14 := nthF fs 14) (N0 := nthZ zs 0) (N1 := nthZ zs 1) (N2 := nthZ zs 2) (N3 := nthZ zs 3) (N4 := nthZ zs 4) (N5 := nthZ zs 5) <;> first | assumption | omega
  · cases hx
def q_cmF11b : qRl := ([(2, [14, 11, 4, 5], []), (1119, [14, 0, 1, 2, 3, 4, 5, 6, 7, 8, 9, 10, 11, 12, 13, 0, 1, 2, 3], []), sp 0 [(4, 1), (3, (-1))], sp 0 [(3, 1), (4, (-1))], sp 0 [(5, 1), (0, (-1))], sp 0 [(0, 1), (5, (-1))]], [(1119, [14, 0, 1, 2, 3, 4, 5, 6, 7, 8, 9, 10, 14, 12, 13, 0, 1, 2, 3], [])])
theorem q_cmF11b_ok : RlOk q_cmF11b := by
  intro fs zs h x hx
  obtain ⟨P0, h⟩ := snAll h
  replace P0 := s_wr.mp P0
  obtain ⟨P1, h⟩ := snAll h
  replace P1 := s_cmt.mp P1
  obtain ⟨P2, h⟩ := snAll h
  replace P2 := sp_2.mp P2
  obtain ⟨P3, h⟩ := snAll h
  replace P3 := sp_2.mp P3
  obtain ⟨P4, h⟩ := snAll h
  replace P4 := sp_2.mp P4
  obtain ⟨P5, h⟩ := snAll h
  replace P5 := sp_2.mp P5
  rcases List.mem_cons.mp hx with hx | hx
  · rw [hx]; refine s_cmt.mpr ?_; apply L_cmF11b (F0 := nthF fs 0) (F1 := nthF fs 1) (F2 := nthF fs 2) (F3 := nthF fs 3) (F4 := nthF fs 4) (F5 := nthF fs 5) (F6 := nthF fs 6) (F7 := nthF fs 7) (F8 := nthF fs 8) (F9 := nthF fs 9) (F10 := nthF fs 10) (F11 := nthF fs 11) (F12 := nthF fs 12) (F13 := nthF fs 13) (F14 := nthF fs 14) (N0 := nthZ zs 0) (N1 := nthZ zs 1) (N2 := nthZ zs 2) (N3 := nthZ zs 3) (N4 := nthZ zs 4) (N5 := nthZ zs 5) <;> first | assumption | omega
  · cases hx
def q_cmF12a : qRl := ([(2, [14, 12, 4, 5], []), (1119, [14, 0, 1, 2, 3, 4, 5, 6, 7, 8, 9, 10, 11, 12, 13, 0, 1, 2, 3], []), sp (-1) [(4, 1), (3, (-1))]], [(1119, [14, 0, 1, 2, 3, 4, 5, 6, 7, 8, 9, 10, 11, 14, 13, 0, 1, 2, 3], [])])
theorem q_cmF12a_ok : RlOk q_cmF12a := by
  intro fs zs h x hx
  obtain ⟨P0, h⟩ := snAll h
  replace P0 := s_wr.mp P0
  obtain ⟨P1, h⟩ := snAll h
  replace P1 := s_cmt.mp P1
  obtain ⟨P2, h⟩ := snAll h
  replace P2 := sp_2.mp P2
  rcases List.mem_cons.mp hx with hx | hx
  · rw [hx]; refine s_cmt.mpr ?_; apply L_cmF12a (F0 := nthF fs 0) (F1 := nthF fs 1) (F2 := nthF fs 2) (F3 := nthF fs 3) (F4 := nthF fs 4) (F5 := nthF fs 5) (F6 := nthF fs 6) (F7 := nthF fs 7) (F8 := nthF fs 8) (F9 := nthF fs 9) (F10 := nthF fs 10) (F11 := nthF fs 11) (F12 := nthF fs 12) (F13 := nthF fs 13) (F14 := nthF fs 14) (N0 := nthZ zs 0) (N1 := nthZ zs 1) (N2 := nthZ zs 2) (N3 := nthZ zs 3) (N4 := nthZ zs 4) (N5 := nthZ zs 5) <;> first | assumption | omega
  · cases hx
def q_cmF12b : qRl := ([(2, [14, 12, 4, 5], []), (1119, [14, 0, 1, 2, 3, 4, 5, 6, 7, 8, 9, 10, 11, 12, 13, 0, 1, 2, 3], []), sp 0 [(4, 1), (3, (-1))], sp 0 [(3, 1), (4, (-1))], sp 0 [(5, 1), (1, (-1))], sp 0 [(1, 1), (5, (-1))]], [(1119, [14, 0, 1, 2, 3, 4, 5, 6, 7, 8, 9, 10, 11, 14, 13, 0, 1, 2, 3], [])])
theorem q_cmF12b_ok : RlOk q_cmF12b := by
  intro fs zs h x hx
  obtain ⟨P0, h⟩ := snAll h
  replace P0 := s_wr.mp P0
  obtain ⟨P1, h⟩ := snAll h
  replace P1 := s_cmt.mp P1
  obtain ⟨P2, h⟩ := snAll h
  replace P2 := sp_2.mp P2
  obtain ⟨P3, h⟩ := snAll h
  replace P3 := sp_2.mp P3
  obtain ⟨P4, h⟩ := snAll h
  replace P4 := sp_2.mp P4
  obtain ⟨P5, h⟩ := snAll h
  replace P5 := sp_2.mp P5
  rcases List.mem_cons.mp hx with hx | hx
  · rw [hx]; refine s_cmt.mpr ?_; apply L_cmF12b (F0 := nthF fs 0) (F1 := nthF fs 1) (F2 := nthF fs 2) (F3 := nthF fs 3) (F4 := nthF fs 4) (F5 := nthF fs 5) (F6 := nthF fs 6) (F7 := nthF fs 7) (F8 := nthF fs 8) (F9 := nthF fs 9) (F10 := nthF fs 10) (F11 := nthF fs 11) (F12 := nthF fs 12) (F13 := nthF fs 13) (F14 := nthF fs 14) (N0 := nthZ zs 0) (N1 := nthZ zs 1) (N2 := nthZ zs 2) (N3 := nthZ zs 3) (N4 := nthZ zs 4) (N5 := nthZ zs 5) <;> first | assumption | omega
  · cases hx
def q_cmS : qRl := ([(2, [14, 13, 4, 5], []), (1119, [14, 0, 1, 2, 3, 4, 5, 6, 7, 8, 9, 10, 11, 12, 13, 0, 1, 2, 3], []), sp 0 [(4, 1), (3, (-4))]], [(1119, [14, 0, 1, 2, 3, 4, 5, 6, 7, 8, 9, 10, 11, 12, 14, 0, 1, 2, 3], [])])
theorem q_cmS_ok : RlOk q_cmS := by
  intro fs zs h x hx
  obtain ⟨P0, h⟩ := snAll h
  replace P0 := s_wr.mp P0
  obtain ⟨P1, h⟩ := snAll h
  replace P1 := s_cmt.mp P1
  obtain ⟨P2, h⟩ := snAll h
  replace P2 := sp_2.mp P2
  rcases List.mem_cons.mp hx with hx | hx
  · rw [hx]; refine s_cmt.mpr ?_; apply L_cmS (F0 := nthF fs 0) (F1 := nthF fs 1) (F2 := nthF fs 2) (F3 := nthF fs 3) (F4 := nthF fs 4) (F5 := nthF fs 5) (F6 := nthF fs 6) (F7 := nthF fs 7) (F8 := nthF fs 8) (F9 := nthF fs 9) (F10 := nthF fs 10) (F11 := nthF fs 11) (F12 := nthF fs 12) (F13 := nthF fs 13) (F14 := nthF fs 14) (N0 := nthZ zs 0) (N1 := nthZ zs 1) (N2 := nthZ zs 2) (N3 := nthZ zs 3) (N4 := nthZ zs 4) (N5 := nthZ zs 5) <;> first | assumption | omega
  · cases hx
def q_cm00 : qRl := ([sp 0 [(0, (-1))], sp 0 [(0, 1)], sp 0 [(1, (-1))], sp 0 [(1, 1)], sp 0 [(3, (-1))], sp 0 [(3, 1)], sp 0 []], [(1119, [14, 0, 1, 2, 3, 4, 5, 6, 7, 8, 9, 10, 11, 12, 13, 0, 1, 2, 3], [])])
theorem q_cm00_ok : RlOk q_cm00 := by
  intro fs zs h x hx
  obtain ⟨P0, h⟩ := snAll h
  replace P0 := sp_1.mp P0
  obtain ⟨P1, h⟩ := snAll h
  replace P1 := sp_1.mp P1
  obtain ⟨P2, h⟩ := snAll h
  replace P2 := sp_1.mp P2
  obtain ⟨P3, h⟩ := snAll h
  replace P3 := sp_1.mp P3
  obtain ⟨P4, h⟩ := snAll h
  replace P4 := sp_1.mp P4
  obtain ⟨P5, h⟩ := snAll h
  replace P5 := sp_1.mp P5
  obtain ⟨P6, h⟩ := snAll h
  replace P6 := sp_0.mp P6
  rcases List.mem_cons.mp hx with hx | hx
  · rw [hx]; refine s_cmt.mpr ?_; apply L_cm00 (F0 := nthF fs 0) (F1 := nthF fs 1) (F2 := nthF fs 2) (F3 := nthF fs 3) (F4 := nthF fs 4) (F5 := nthF fs 5) (F6 := nthF fs 6) (F7 := nthF fs 7) (F8 := nthF fs 8) (F9 := nthF fs 9) (F10 := nthF fs 10) (F11 := nthF fs 11) (F12 := nthF fs 12) (F13 := nthF fs 13) (N0 := nthZ zs 0) (N1 := nthZ zs 1) (N2 := nthZ zs 2) (N3 := nthZ zs 3) <;> first | assumption | omega
  · cases hx
def q_cuA : qRl := ([(1119, [14, 0, 1, 2, 3, 4, 5, 6, 7, 8, 9, 10, 11, 12, 13, 10, 11, 12, 3], []), (1, [4, 4, 7], []), sp 0 [(4, 1)], sp (-1) [(10, 1), (4, (-1))], (1, [0, 4, 5], []), sp (-4) [(5, 1)], sp 4 [(5, (-1))], (1, [2, 4, 6], []), sp (-2) [(6, 1)], sp 2 [(6, (-1))], (1, [8, 7, 8], []), sp 0 [(8, 1), (0, (-1))], sp 0 [(0, 1), (8, (-1))], sp 0 []], [(1136, [1, 10, 0, 1], [])])
theorem q_cuA_ok : RlOk q_cuA := by
  intro fs zs h x hx
  obtain ⟨P0, h⟩ := snAll h
  replace P0 := s_cmt.mp P0
  obtain ⟨P1, h⟩ := snAll h
  replace P1 := s_rd.mp P1
  obtain ⟨P2, h⟩ := snAll h
  replace P2 := sp_1.mp P2
  obtain ⟨P3, h⟩ := snAll h
  replace P3 := sp_2.mp P3
  obtain ⟨P4, h⟩ := snAll h
  replace P4 := s_rd.mp P4
  obtain ⟨P5, h⟩ := snAll h
  replace P5 := sp_1.mp P5
  obtain ⟨P6, h⟩ := snAll h
  replace P6 := sp_1.mp P6
  obtain ⟨P7, h⟩ := snAll h
  replace P7 := s_rd.mp P7
  obtain ⟨P8, h⟩ := snAll h
  replace P8 := sp_1.mp P8
  obtain ⟨P9, h⟩ := snAll h
  replace P9 := sp_1.mp P9
  obtain ⟨P10, h⟩ := snAll h
  replace P10 := s_rd.mp P10
  obtain ⟨P11, h⟩ := snAll h
  replace P11 := sp_2.mp P11
  obtain ⟨P12, h⟩ := snAll h
  replace P12 := sp_2.mp P12
  obtain ⟨P13, h⟩ := snAll h
  replace P13 := sp_0.mp P13
  rcases List.mem_cons.mp hx with hx | hx
  · rw [hx]; refine s_okp.mpr ?_; apply L_cuA (F0 := nthF fs 0) (F1 := nthF fs 1) (F2 := nthF fs 2) (F3 := nthF fs 3) (F4 := nthF fs 4) (F5 := nthF fs 5) (F6 := nthF fs 6) (F7 := nthF fs 7) (F8 := nthF fs 8) (F9 := nthF fs 9) (F10 := nthF fs 10) (F11 := nthF fs 11) (F12 := nthF fs 12) (F13 := nthF fs 13) (N0 := nthZ zs 0) (N1 := nthZ zs 1) (N3 := nthZ zs 3) (N4 := nthZ zs 4) (N5 := nthZ zs 5) (N6 := nthZ zs 6) (N7 := nthZ zs 7) (N8 := nthZ zs 8) (N10 := nthZ zs 10) (N11 := nthZ zs 11) (N12 := nthZ zs 12) <;> first | assumption | omega
  · cases hx
def q_cuB : qRl := ([(1119, [14, 0, 1, 2, 3, 4, 5, 6, 7, 8, 9, 10, 11, 12, 13, 0, 1, 2, 3], []), (1, [0, 4, 5], []), sp 0 [(4, 1)], sp (-1) [(0, 1), (4, (-1))], sp (-4) [(5, 1)], sp 4 [(5, (-1))], (1, [2, 4, 6], []), sp (-2) [(6, 1)], sp 2 [(6, (-1))], (1, [4, 4, 7], [])], [sp 0 [(7, 1)], sp (-1) [(1, 1), (7, (-1))]])
theorem q_cuB_ok : RlOk q_cuB := by
  intro fs zs h x hx
  obtain ⟨P0, h⟩ := snAll h
  replace P0 := s_cmt.mp P0
  obtain ⟨P1, h⟩ := snAll h
  replace P1 := s_rd.mp P1
  obtain ⟨P2, h⟩ := snAll h
  replace P2 := sp_1.mp P2
  obtain ⟨P3, h⟩ := snAll h
  replace P3 := sp_2.mp P3
  obtain ⟨P4, h⟩ := snAll h
  replace P4 := sp_1.mp P4
  obtain ⟨P5, h⟩ := snAll h
  replace P5 := sp_1.mp P5
  obtain ⟨P6, h⟩ := snAll h
  replace P6 := s_rd.mp P6
  obtain ⟨P7, h⟩ := snAll h
  replace P7 := sp_1.mp P7
  obtain ⟨P8, h⟩ := snAll h
  replace P8 := sp_1.mp P8
  obtain ⟨P9, h⟩ := snAll h
  replace P9 := s_rd.mp P9
  have L := L_cuB P0 P1 (by omega) (by omega) (by omega) P6 (by omega) P9
  rcases List.mem_cons.mp hx with hx | hx
  · rw [hx]; refine sp_1.mpr ?_; omega
  rcases List.mem_cons.mp hx with hx | hx
  · rw [hx]; refine sp_2.mpr ?_; omega
  · cases hx
def q_cuG : qRl := ([(1119, [14, 0, 1, 2, 3, 4, 5, 6, 7, 8, 9, 10, 11, 12, 13, 0, 1, 2, 3], []), (1, [11, 5, 6], []), sp 1 [(4, 1), (5, (-1))], sp (-1) [(4, (-1)), (5, 1)], sp 0 [(4, 1)], sp (-1) [(3, 1), (4, (-1))]], [sp 0 [(6, 1)], sp 0 [(0, 1), (6, (-1))]])
theorem q_cuG_ok : RlOk q_cuG := by
  intro fs zs h x hx
  obtain ⟨P0, h⟩ := snAll h
  replace P0 := s_cmt.mp P0
  obtain ⟨P1, h⟩ := snAll h
  replace P1 := s_rd.mp P1
  obtain ⟨P2a, h⟩ := snAll h
  replace P2a := sp_2.mp P2a
  obtain ⟨P2b, h⟩ := snAll h
  replace P2b := sp_2.mp P2b
  obtain ⟨P3, h⟩ := snAll h
  replace P3 := sp_1.mp P3
  obtain ⟨P4, h⟩ := snAll h
  replace P4 := sp_2.mp P4
  have L := (L_cuI3 (N4 := nthZ zs 5) P0 (by omega) (by omega) (by omega)).1
  rcases List.mem_cons.mp hx with hx | hx
  · rw [hx]; refine sp_1.mpr ?_; omega
  rcases List.mem_cons.mp hx with hx | hx
  · rw [hx]; refine sp_2.mpr ?_; omega
  · cases hx
def q_cuH : qRl := ([(1119, [14, 0, 1, 2, 3, 4, 5, 6, 7, 8, 9, 10, 11, 12, 13, 0, 1, 2, 3], []), (1, [11, 4, 6], []), sp 0 [(4, 1)], sp (-1) [(3, 1), (4, (-1))]], [sp 0 [(6, 1)], sp 0 [(0, 1), (6, (-1))]])
theorem q_cuH_ok : RlOk q_cuH := by
  intro fs zs h x hx
  obtain ⟨P0, h⟩ := snAll h
  replace P0 := s_cmt.mp P0
  obtain ⟨P1, h⟩ := snAll h
  replace P1 := s_rd.mp P1
  obtain ⟨P2, h⟩ := snAll h
  replace P2 := sp_1.mp P2
  obtain ⟨P3, h⟩ := snAll h
  replace P3 := sp_2.mp P3
  have L := (L_cuI3 (N4 := nthZ zs 4) P0 (by omega) (by omega) (by omega)).1
  rcases List.mem_cons.mp hx with hx | hx
  · rw [hx]; refine sp_1.mpr ?_; omega
  rcases List.mem_cons.mp hx with hx | hx
  · rw [hx]; refine sp_2.mpr ?_; omega
  · cases hx
def q_cuK : qRl := ([(1119, [14, 0, 1, 2, 3, 4, 5, 6, 7, 8, 9, 10, 11, 12, 13, 0, 1, 2, 3], []), (1, [12, 5, 6], []), sp 1 [(4, 1), (5, (-1))], sp (-1) [(4, (-1)), (5, 1)], sp 0 [(4, 1)], sp (-1) [(3, 1), (4, (-1))]], [sp 0 [(6, 1)], sp 0 [(1, 1), (6, (-1))]])
theorem q_cuK_ok : RlOk q_cuK := by
  intro fs zs h x hx
  obtain ⟨P0, h⟩ := snAll h
  replace P0 := s_cmt.mp P0
  obtain ⟨P1, h⟩ := snAll h
  replace P1 := s_rd.mp P1
  obtain ⟨P2a, h⟩ := snAll h
  replace P2a := sp_2.mp P2a
  obtain ⟨P2b, h⟩ := snAll h
  replace P2b := sp_2.mp P2b
  obtain ⟨P3, h⟩ := snAll h
  replace P3 := sp_1.mp P3
  obtain ⟨P4, h⟩ := snAll h
  replace P4 := sp_2.mp P4
  have L := (L_cuI3 (N4 := nthZ zs 5) P0 (by omega) (by omega) (by omega)).2
  rcases List.mem_cons.mp hx with hx | hx
  · rw [hx]; refine sp_1.mpr ?_; omega
  rcases List.mem_cons.mp hx with hx | hx
  · rw [hx]; refine sp_2.mpr ?_; omega
  · cases hx
def q_cuN : qRl := ([(1119, [14, 0, 1, 2, 3, 4, 5, 6, 7, 8, 9, 10, 11, 12, 13, 0, 1, 2, 3], []), (1, [5, 4, 5], []), sp 0 [(4, 1)], sp (-1) [(1, 1), (4, (-1))]], [sp 0 [(5, 1)], sp (-1) [(0, 1), (5, (-1))]])
theorem q_cuN_ok : RlOk q_cuN := by
  intro fs zs h x hx
  obtain ⟨P0, h⟩ := snAll h
  replace P0 := s_cmt.mp P0
  obtain ⟨P1, h⟩ := snAll h
  replace P1 := s_rd.mp P1
  obtain ⟨P2, h⟩ := snAll h
  replace P2 := sp_1.mp P2
  obtain ⟨P3, h⟩ := snAll h
  replace P3 := sp_2.mp P3
  have L := L_cuN P0 P1 (by omega) (by omega)
  rcases List.mem_cons.mp hx with hx | hx
  · rw [hx]; refine sp_1.mpr ?_; omega
  rcases List.mem_cons.mp hx with hx | hx
  · rw [hx]; refine sp_2.mpr ?_; omega
  · cases hx
def q_ssI : qRl := ([(1091, [0, 4, 6], []), (1119, [14, 0, 1, 2, 3, 4, 5, 6, 7, 8, 9, 10, 11, 12, 13, 0, 1, 2, 3], []), sp 0 [(4, 1)], sp (-1) [(3, 1), (4, (-1))], sp 0 [(6, 1)], sp 3 [(6, (-1))], sp 0 [(7, 1), (4, (-4)), (6, (-1))], sp 0 [(7, (-1)), (4, 4), (6, 1)], (1, [13, 7, 5], [])], [sp 0 [(5, 1)], sp 65536 [(5, (-1))]])
theorem q_ssI_ok : RlOk q_ssI := by
  intro fs zs h x hx
  obtain ⟨P0, h⟩ := snAll h
  replace P0 := s_us.mp P0
  obtain ⟨P1, h⟩ := snAll h
  replace P1 := s_cmt.mp P1
  obtain ⟨P2, h⟩ := snAll h
  replace P2 := sp_1.mp P2
  obtain ⟨P3, h⟩ := snAll h
  replace P3 := sp_2.mp P3
  obtain ⟨P4, h⟩ := snAll h
  replace P4 := sp_1.mp P4
  obtain ⟨P5, h⟩ := snAll h
  replace P5 := sp_1.mp P5
  obtain ⟨P6a, h⟩ := snAll h
  replace P6a := sp_3.mp P6a
  obtain ⟨P6b, h⟩ := snAll h
  replace P6b := sp_3.mp P6b
  obtain ⟨P7, h⟩ := snAll h
  replace P7 := s_rd.mp P7
  have L := L_ssI (N4 := nthZ zs 4) (N6 := nthZ zs 6) P1 (by omega) (by omega) (by omega) (by omega) (by omega) P7
  rcases List.mem_cons.mp hx with hx | hx
  · rw [hx]; refine sp_1.mpr ?_; omega
  rcases List.mem_cons.mp hx with hx | hx
  · rw [hx]; refine sp_1.mpr ?_; omega
  · cases hx
def q_cuC0 : qRl := ([(1119, [14, 0, 1, 2, 3, 4, 5, 6, 7, 8, 9, 10, 11, 12, 13, 10, 11, 12, 3], []), (1, [8, 4, 5], []), sp 0 [(4, 1)], sp (-1) [(11, 1), (4, (-1))], sp 0 [(5, 1)], (1, [9, 4, 6], []), sp 0 [(6, 1)], sp 0 [(0, 1), (5, (-1))], sp 0 [(5, 1), (0, (-1))], sp 0 []], [(1136, [1, 10, 0, 1], [])])
theorem q_cuC0_ok : RlOk q_cuC0 := by
  intro fs zs h x hx
  obtain ⟨P0, h⟩ := snAll h
  replace P0 := s_cmt.mp P0
  obtain ⟨P1, h⟩ := snAll h
  replace P1 := s_rd.mp P1
  obtain ⟨P2, h⟩ := snAll h
  replace P2 := sp_1.mp P2
  obtain ⟨P3, h⟩ := snAll h
  replace P3 := sp_2.mp P3
  obtain ⟨P4, h⟩ := snAll h
  replace P4 := sp_1.mp P4
  obtain ⟨P5, h⟩ := snAll h
  replace P5 := s_rd.mp P5
  obtain ⟨P6, h⟩ := snAll h
  replace P6 := sp_1.mp P6
  obtain ⟨P7, h⟩ := snAll h
  replace P7 := sp_2.mp P7
  obtain ⟨P8, h⟩ := snAll h
  replace P8 := sp_2.mp P8
  obtain ⟨P9, h⟩ := snAll h
  replace P9 := sp_0.mp P9
  have L := L_cuC (N4 := nthZ zs 4) P0 (by omega) (by omega) (by omega) (by omega)
  have e : nthF fs 8 (nthZ zs 4) = nthZ zs 0 := by omega
  rw [e] at L
  rcases List.mem_cons.mp hx with hx | hx
  · rw [hx]; refine s_okp.mpr ?_; exact Or.inr L.1
  · cases hx
def q_cuC1 : qRl := ([(1119, [14, 0, 1, 2, 3, 4, 5, 6, 7, 8, 9, 10, 11, 12, 13, 10, 11, 12, 3], []), (1, [8, 4, 5], []), sp 0 [(4, 1)], sp (-1) [(11, 1), (4, (-1))], sp 0 [(5, 1)], (1, [9, 4, 6], []), sp 0 [(6, 1)], sp 0 [(0, 1), (6, (-1))], sp 0 [(6, 1), (0, (-1))], sp 0 []], [(1136, [1, 10, 0, 1], [])])
theorem q_cuC1_ok : RlOk q_cuC1 := by
  intro fs zs h x hx
  obtain ⟨P0, h⟩ := snAll h
  replace P0 := s_cmt.mp P0
  obtain ⟨P1, h⟩ := snAll h
  replace P1 := s_rd.mp P1
  obtain ⟨P2, h⟩ := snAll h
  replace P2 := sp_1.mp P2
  obtain ⟨P3, h⟩ := snAll h
  replace P3 := sp_2.mp P3
  obtain ⟨P4, h⟩ := snAll h
  replace P4 := sp_1.mp P4
  obtain ⟨P5, h⟩ := snAll h
  replace P5 := s_rd.mp P5
  obtain ⟨P6, h⟩ := snAll h
  replace P6 := sp_1.mp P6
  obtain ⟨P7, h⟩ := snAll h
  replace P7 := sp_2.mp P7
  obtain ⟨P8, h⟩ := snAll h
  replace P8 := sp_2.mp P8
  obtain ⟨P9, h⟩ := snAll h
  replace P9 := sp_0.mp P9
  have L := L_cuC (N4 := nthZ zs 4) P0 (by omega) (by omega) (by omega) (by omega)
  have e : nthF fs 9 (nthZ zs 4) = nthZ zs 0 := by omega
  rw [e] at L
  rcases List.mem_cons.mp hx with hx | hx
  · rw [hx]; refine s_okp.mpr ?_; exact Or.inr L.2
  · cases hx
