/-! RULES OF NAMES, OF LABELS AND STATEMENTS COUNTED (written by wip/p2/gen46x.py) -/
section
variable {fs : List (Int → Int)} {zs : List Int}
theorem s_plx {a0 a1 a2 i0 i1 : Nat} : SnOk fs zs (1127, [3, a0, a1, a2, i0, i1], []) ↔ ePlx (nthF fs a0) (nthF fs a1) (nthF fs a2) (nthZ zs i0) (nthZ zs i1) := Iff.rfl
theorem s_tkp {a0 a1 a2 a3 a4 a5 a6 i0 i1 i2 i3 : Nat} : SnOk fs zs (1126, [7, a0, a1, a2, a3, a4, a5, a6, i0, i1, i2, i3], []) ↔ eTkp (nthF fs a0) (nthF fs a1) (nthF fs a2) (nthF fs a3) (nthF fs a4) (nthF fs a5) (nthF fs a6) (nthZ zs i0) (nthZ zs i1) (nthZ zs i2) (nthZ zs i3) := Iff.rfl
theorem s_tkn {a0 a1 a2 a3 a4 a5 a6 i0 i1 i2 i3 : Nat} : SnOk fs zs (1125, [7, a0, a1, a2, a3, a4, a5, a6, i0, i1, i2, i3], []) ↔ eTkn (nthF fs a0) (nthF fs a1) (nthF fs a2) (nthF fs a3) (nthF fs a4) (nthF fs a5) (nthF fs a6) (nthZ zs i0) (nthZ zs i1) (nthZ zs i2) (nthZ zs i3) := Iff.rfl
theorem s_cap {a0 a1 a2 a3 i0 i1 i2 i3 : Nat} : SnOk fs zs (1129, [4, a0, a1, a2, a3, i0, i1, i2, i3], []) ↔ eCap (nthF fs a0) (nthF fs a1) (nthF fs a2) (nthF fs a3) (nthZ zs i0) (nthZ zs i1) (nthZ zs i2) (nthZ zs i3) := Iff.rfl
theorem s_cal {a0 a1 a2 a3 i0 i1 i2 : Nat} : SnOk fs zs (1128, [4, a0, a1, a2, a3, i0, i1, i2], []) ↔ eCal (nthF fs a0) (nthF fs a1) (nthF fs a2) (nthF fs a3) (nthZ zs i0) (nthZ zs i1) (nthZ zs i2) := Iff.rfl
theorem s_snp {a0 a1 a2 a3 a4 i0 i1 i2 : Nat} : SnOk fs zs (1131, [5, a0, a1, a2, a3, a4, i0, i1, i2], []) ↔ eSnp (nthF fs a0) (nthF fs a1) (nthF fs a2) (nthF fs a3) (nthF fs a4) (nthZ zs i0) (nthZ zs i1) (nthZ zs i2) := Iff.rfl
theorem s_sn {a0 a1 a2 a3 a4 i0 i1 i2 i3 : Nat} : SnOk fs zs (1130, [5, a0, a1, a2, a3, a4, i0, i1, i2, i3], []) ↔ eSn (nthF fs a0) (nthF fs a1) (nthF fs a2) (nthF fs a3) (nthF fs a4) (nthZ zs i0) (nthZ zs i1) (nthZ zs i2) (nthZ zs i3) := Iff.rfl
theorem s_fre {a0 a1 a2 a3 a4 a5 i0 i1 i2 i3 : Nat} : SnOk fs zs (1132, [6, a0, a1, a2, a3, a4, a5, i0, i1, i2, i3], []) ↔ eFre (nthF fs a0) (nthF fs a1) (nthF fs a2) (nthF fs a3) (nthF fs a4) (nthF fs a5) (nthZ zs i0) (nthZ zs i1) (nthZ zs i2) (nthZ zs i3) := Iff.rfl
theorem s_fr2 {a0 a1 a2 a3 a4 a5 a6 a7 i0 i1 i2 i3 : Nat} : SnOk fs zs (1133, [8, a0, a1, a2, a3, a4, a5, a6, a7, i0, i1, i2, i3], []) ↔ eFr2 (nthF fs a0) (nthF fs a1) (nthF fs a2) (nthF fs a3) (nthF fs a4) (nthF fs a5) (nthF fs a6) (nthF fs a7) (nthZ zs i0) (nthZ zs i1) (nthZ zs i2) (nthZ zs i3) := Iff.rfl
theorem s_cnd {a0 a1 a2 a3 a4 a5 a6 i0 i1 i2 i3 : Nat} : SnOk fs zs (1134, [7, a0, a1, a2, a3, a4, a5, a6, i0, i1, i2, i3], []) ↔ eCnd (nthF fs a0) (nthF fs a1) (nthF fs a2) (nthF fs a3) (nthF fs a4) (nthF fs a5) (nthF fs a6) (nthZ zs i0) (nthZ zs i1) (nthZ zs i2) (nthZ zs i3) := Iff.rfl
end
def q_lc0 : qRl := ([sp 0 [(1, (-1))], sp 0 []], [(1123, [1, 0, 0, 1], [])])
theorem q_lc0_ok : RlOk q_lc0 := by
  intro fs zs h x hx
  obtain ⟨P0, h⟩ := snAll h
  replace P0 := sp_1.mp P0
  obtain ⟨P1, h⟩ := snAll h
  replace P1 := sp_0.mp P1
  rcases List.mem_cons.mp hx with hx | hx
  · rw [hx]; refine s_lcn.mpr ?_; apply L_lc0 (F0 := nthF fs 0) (N0 := nthZ zs 0) (N1 := nthZ zs 1) <;> first | assumption | omega | rfl
  · cases hx
def q_lcA : qRl := ([(2, [1, 0, 2, 3], []), (1123, [1, 0, 0, 1], []), sp 0 [(3, 1)]], [(1123, [1, 1, 0, 1], [])])
theorem q_lcA_ok : RlOk q_lcA := by
  intro fs zs h x hx
  obtain ⟨P0, h⟩ := snAll h
  replace P0 := s_wr.mp P0
  obtain ⟨P1, h⟩ := snAll h
  replace P1 := s_lcn.mp P1
  obtain ⟨P2, h⟩ := snAll h
  replace P2 := sp_1.mp P2
  rcases List.mem_cons.mp hx with hx | hx
  · rw [hx]; refine s_lcn.mpr ?_; apply L_lcA (F0 := nthF fs 0) (F1 := nthF fs 1) (N0 := nthZ zs 0) (N1 := nthZ zs 1) (N2 := nthZ zs 2) (N3 := nthZ zs 3) <;> first | assumption | omega | rfl
  · cases hx
def q_lcB : qRl := ([(2, [1, 0, 2, 3], []), (1123, [1, 0, 0, 1], []), sp 0 [(2, 1), (0, (-1))]], [(1123, [1, 1, 0, 1], [])])
theorem q_lcB_ok : RlOk q_lcB := by
  intro fs zs h x hx
  obtain ⟨P0, h⟩ := snAll h
  replace P0 := s_wr.mp P0
  obtain ⟨P1, h⟩ := snAll h
  replace P1 := s_lcn.mp P1
  obtain ⟨P2, h⟩ := snAll h
  replace P2 := sp_2.mp P2
  rcases List.mem_cons.mp hx with hx | hx
  · rw [hx]; refine s_lcn.mpr ?_; apply L_lcB (F0 := nthF fs 0) (F1 := nthF fs 1) (N0 := nthZ zs 0) (N1 := nthZ zs 1) (N2 := nthZ zs 2) (N3 := nthZ zs 3) <;> first | assumption | omega | rfl
  · cases hx
def q_lcZ : qRl := ([(1123, [1, 0, 2, 3], []), sp 0 [(0, 1), (2, (-1))], sp 0 [(3, 1), (1, (-1))]], [(1123, [1, 0, 0, 1], [])])
theorem q_lcZ_ok : RlOk q_lcZ := by
  intro fs zs h x hx
  obtain ⟨P0, h⟩ := snAll h
  replace P0 := s_lcn.mp P0
  obtain ⟨P1, h⟩ := snAll h
  replace P1 := sp_2.mp P1
  obtain ⟨P2, h⟩ := snAll h
  replace P2 := sp_2.mp P2
  rcases List.mem_cons.mp hx with hx | hx
  · rw [hx]; refine s_lcn.mpr ?_; apply L_lcZ (F0 := nthF fs 0) (N0 := nthZ zs 0) (N1 := nthZ zs 1) (N2 := nthZ zs 2) (N3 := nthZ zs 3) <;> first | assumption | omega | rfl
  · cases hx
def q_lcX : qRl := ([(2, [1, 0, 2, 3], []), sp 1 [(4, 1), (1, (-1))], sp (-1) [(4, (-1)), (1, 1)], (1123, [1, 0, 0, 4], []), sp 0 [(3, 1)], sp 0 [(2, 1)], sp (-1) [(0, 1), (2, (-1))], (1, [0, 2, 5], []), sp (-1) [(5, (-1))]], [(1123, [1, 1, 0, 1], [])])
theorem q_lcX_ok : RlOk q_lcX := by
  intro fs zs h x hx
  obtain ⟨P0, h⟩ := snAll h
  replace P0 := s_wr.mp P0
  obtain ⟨P1a, h⟩ := snAll h
  replace P1a := sp_2.mp P1a
  obtain ⟨P1b, h⟩ := snAll h
  replace P1b := sp_2.mp P1b
  obtain ⟨P2, h⟩ := snAll h
  replace P2 := s_lcn.mp P2
  obtain ⟨P3, h⟩ := snAll h
  replace P3 := sp_1.mp P3
  obtain ⟨P4, h⟩ := snAll h
  replace P4 := sp_1.mp P4
  obtain ⟨P5, h⟩ := snAll h
  replace P5 := sp_2.mp P5
  obtain ⟨P6, h⟩ := snAll h
  replace P6 := s_rd.mp P6
  obtain ⟨P7, h⟩ := snAll h
  replace P7 := sp_1.mp P7
  rcases List.mem_cons.mp hx with hx | hx
  · rw [hx]; refine s_lcn.mpr ?_; apply L_lcX (F0 := nthF fs 0) (F1 := nthF fs 1) (N0 := nthZ zs 0) (N1 := nthZ zs 1) (N2 := nthZ zs 2) (N3 := nthZ zs 3) (N4 := nthZ zs 4) <;> first | assumption | omega | rfl
  · cases hx
def q_lcU : qRl := ([(1123, [1, 0, 0, 1], []), sp 0 [(0, 1)]], [sp 0 [(0, 1), (1, (-1))]])
theorem q_lcU_ok : RlOk q_lcU := by
  intro fs zs h x hx
  obtain ⟨P0, h⟩ := snAll h
  replace P0 := s_lcn.mp P0
  obtain ⟨P1, h⟩ := snAll h
  replace P1 := sp_1.mp P1
  have L := L_lcU (F0 := nthF fs 0) (N0 := nthZ zs 0) (N1 := nthZ zs 1) P0 (by omega)
  rcases List.mem_cons.mp hx with hx | hx
  · rw [hx]; refine sp_2.mpr ?_; omega
  · cases hx
def q_cs0b : qRl := ([sp 0 [(0, (-1))], sp 0 [(1, 1)]], [(1124, [1, 0, 0, 1], [])])
theorem q_cs0b_ok : RlOk q_cs0b := by
  intro fs zs h x hx
  obtain ⟨P0, h⟩ := snAll h
  replace P0 := sp_1.mp P0
  obtain ⟨P1, h⟩ := snAll h
  replace P1 := sp_1.mp P1
  rcases List.mem_cons.mp hx with hx | hx
  · rw [hx]; refine s_csn.mpr ?_; apply L_cs0b (F0 := nthF fs 0) (N0 := nthZ zs 0) (N1 := nthZ zs 1) <;> first | assumption | omega | rfl
  · cases hx
def q_csW : qRl := ([(2, [1, 0, 2, 3], []), (1124, [1, 0, 0, 1], []), sp 0 [(2, 1), (0, (-1))]], [(1124, [1, 1, 0, 1], [])])
theorem q_csW_ok : RlOk q_csW := by
  intro fs zs h x hx
  obtain ⟨P0, h⟩ := snAll h
  replace P0 := s_wr.mp P0
  obtain ⟨P1, h⟩ := snAll h
  replace P1 := s_csn.mp P1
  obtain ⟨P2, h⟩ := snAll h
  replace P2 := sp_2.mp P2
  rcases List.mem_cons.mp hx with hx | hx
  · rw [hx]; refine s_csn.mpr ?_; apply L_csW (F0 := nthF fs 0) (F1 := nthF fs 1) (N0 := nthZ zs 0) (N1 := nthZ zs 1) (N2 := nthZ zs 2) (N3 := nthZ zs 3) <;> first | assumption | omega | rfl
  · cases hx
def q_csX : qRl := ([sp 1 [(2, 1), (0, (-1))], sp (-1) [(2, (-1)), (0, 1)], (1124, [1, 0, 2, 1], []), sp 0 [(2, 1)], (1, [0, 2, 3], []), sp (-5) [(3, 1)]], [(1124, [1, 0, 0, 1], [])])
theorem q_csX_ok : RlOk q_csX := by
  intro fs zs h x hx
  obtain ⟨P0a, h⟩ := snAll h
  replace P0a := sp_2.mp P0a
  obtain ⟨P0b, h⟩ := snAll h
  replace P0b := sp_2.mp P0b
  obtain ⟨P1, h⟩ := snAll h
  replace P1 := s_csn.mp P1
  obtain ⟨P2, h⟩ := snAll h
  replace P2 := sp_1.mp P2
  obtain ⟨P3, h⟩ := snAll h
  replace P3 := s_rd.mp P3
  obtain ⟨P4, h⟩ := snAll h
  replace P4 := sp_1.mp P4
  rcases List.mem_cons.mp hx with hx | hx
  · rw [hx]; refine s_csn.mpr ?_; apply L_csX (F0 := nthF fs 0) (N0 := nthZ zs 0) (N1 := nthZ zs 1) (N2 := nthZ zs 2) (N3 := nthZ zs 3) <;> first | assumption | omega | rfl
  · cases hx
def q_csY : qRl := ([sp 1 [(2, 1), (0, (-1))], sp (-1) [(2, (-1)), (0, 1)], sp 1 [(3, 1), (1, (-1))], sp (-1) [(3, (-1)), (1, 1)], (1124, [1, 0, 2, 3], []), sp 0 [(2, 1)]], [(1124, [1, 0, 0, 1], [])])
theorem q_csY_ok : RlOk q_csY := by
  intro fs zs h x hx
  obtain ⟨P0a, h⟩ := snAll h
  replace P0a := sp_2.mp P0a
  obtain ⟨P0b, h⟩ := snAll h
  replace P0b := sp_2.mp P0b
  obtain ⟨P1a, h⟩ := snAll h
  replace P1a := sp_2.mp P1a
  obtain ⟨P1b, h⟩ := snAll h
  replace P1b := sp_2.mp P1b
  obtain ⟨P2, h⟩ := snAll h
  replace P2 := s_csn.mp P2
  obtain ⟨P3, h⟩ := snAll h
  replace P3 := sp_1.mp P3
  rcases List.mem_cons.mp hx with hx | hx
  · rw [hx]; refine s_csn.mpr ?_; apply L_csY (F0 := nthF fs 0) (N0 := nthZ zs 0) (N1 := nthZ zs 1) (N2 := nthZ zs 2) (N3 := nthZ zs 3) <;> first | assumption | omega | rfl
  · cases hx
def q_csZ : qRl := ([(1124, [1, 0, 2, 3], []), sp 0 [(2, 1), (0, (-1))], sp 0 [(1, 1), (3, (-1))]], [(1124, [1, 0, 0, 1], [])])
theorem q_csZ_ok : RlOk q_csZ := by
  intro fs zs h x hx
  obtain ⟨P0, h⟩ := snAll h
  replace P0 := s_csn.mp P0
  obtain ⟨P1, h⟩ := snAll h
  replace P1 := sp_2.mp P1
  obtain ⟨P2, h⟩ := snAll h
  replace P2 := sp_2.mp P2
  rcases List.mem_cons.mp hx with hx | hx
  · rw [hx]; refine s_csn.mpr ?_; apply L_csZ (F0 := nthF fs 0) (N0 := nthZ zs 0) (N1 := nthZ zs 1) (N2 := nthZ zs 2) (N3 := nthZ zs 3) <;> first | assumption | omega | rfl
  · cases hx
def q_plx0 : qRl := ([sp 0 [(1, (-1))], sp 0 []], [(1127, [3, 0, 1, 2, 0, 1], [])])
theorem q_plx0_ok : RlOk q_plx0 := by
  intro fs zs h x hx
  obtain ⟨P0, h⟩ := snAll h
  replace P0 := sp_1.mp P0
  obtain ⟨P1, h⟩ := snAll h
  replace P1 := sp_0.mp P1
  rcases List.mem_cons.mp hx with hx | hx
  · rw [hx]; refine s_plx.mpr ?_; apply L_plx0 (F0 := nthF fs 0) (F1 := nthF fs 1) (F2 := nthF fs 2) (N0 := nthZ zs 0) (N1 := nthZ zs 1) <;> first | assumption | omega | rfl
  · cases hx
def q_plx1 : qRl := ([(2, [3, 0, 2, 3], []), sp (-1) [(1, 1), (2, (-1))], sp 1 [(2, 1), (1, (-1))], (1127, [3, 0, 1, 2, 0, 2], []), (1, [2, 0, 4], []), sp 0 [(5, 1), (4, (-1)), (2, (-1))], sp 0 [(5, (-1)), (4, 1), (2, 1)], (1, [1, 5, 6], []), sp 0 [(6, 1), (3, (-1))], sp 0 [(3, 1), (6, (-1))]], [(1127, [3, 3, 1, 2, 0, 1], [])])
theorem q_plx1_ok : RlOk q_plx1 := by
  intro fs zs h x hx
  obtain ⟨P0, h⟩ := snAll h
  replace P0 := s_wr.mp P0
  obtain ⟨P1, h⟩ := snAll h
  replace P1 := sp_2.mp P1
  obtain ⟨P2, h⟩ := snAll h
  replace P2 := sp_2.mp P2
  obtain ⟨P3, h⟩ := snAll h
  replace P3 := s_plx.mp P3
  obtain ⟨P4, h⟩ := snAll h
  replace P4 := s_rd.mp P4
  obtain ⟨P5a, h⟩ := snAll h
  replace P5a := sp_3.mp P5a
  obtain ⟨P5b, h⟩ := snAll h
  replace P5b := sp_3.mp P5b
  obtain ⟨P6, h⟩ := snAll h
  replace P6 := s_rd.mp P6
  obtain ⟨P7, h⟩ := snAll h
  replace P7 := sp_2.mp P7
  obtain ⟨P8, h⟩ := snAll h
  replace P8 := sp_2.mp P8
  rcases List.mem_cons.mp hx with hx | hx
  · rw [hx]; refine s_plx.mpr ?_; apply L_plx1 (F0 := nthF fs 0) (F1 := nthF fs 1) (F2 := nthF fs 2) (F3 := nthF fs 3) (N0 := nthZ zs 0) (N1 := nthZ zs 1) (N2 := nthZ zs 2) (N3 := nthZ zs 3) (N4 := nthZ zs 4) (N5 := nthZ zs 5) (N6 := nthZ zs 6) <;> first | assumption | omega | rfl
  · cases hx
def q_tk00 : qRl := ([(1, [3, 0, 4], []), (1, [1, 4, 5], []), sp 45 [(5, (-1))], sp 0 [(2, 1)], sp 0 [(2, (-1))], sp 0 [(3, 1)], sp 0 [(3, (-1))], sp 0 []], [(1126, [7, 0, 1, 2, 3, 4, 5, 6, 0, 1, 2, 3], [])])
theorem q_tk00_ok : RlOk q_tk00 := by
  intro fs zs h x hx
  obtain ⟨P0, h⟩ := snAll h
  replace P0 := s_rd.mp P0
  obtain ⟨P1, h⟩ := snAll h
  replace P1 := s_rd.mp P1
  obtain ⟨P2, h⟩ := snAll h
  replace P2 := sp_1.mp P2
  obtain ⟨P3, h⟩ := snAll h
  replace P3 := sp_1.mp P3
  obtain ⟨P4, h⟩ := snAll h
  replace P4 := sp_1.mp P4
  obtain ⟨P5, h⟩ := snAll h
  replace P5 := sp_1.mp P5
  obtain ⟨P6, h⟩ := snAll h
  replace P6 := sp_1.mp P6
  obtain ⟨P7, h⟩ := snAll h
  replace P7 := sp_0.mp P7
  rcases List.mem_cons.mp hx with hx | hx
  · rw [hx]; refine s_tkp.mpr ?_; apply L_tk0 (F0 := nthF fs 0) (F1 := nthF fs 1) (F2 := nthF fs 2) (F3 := nthF fs 3) (F4 := nthF fs 4) (F5 := nthF fs 5) (F6 := nthF fs 6) (N0 := nthZ zs 0) (N1 := nthZ zs 1) (N2 := nthZ zs 2) (N3 := nthZ zs 3) <;> first | assumption | omega | (rintro ⟨a, a2⟩; first | omega | (rw [P0, P1] at a; omega))
  · cases hx
def q_tk01 : qRl := ([(1, [3, 0, 4], []), (1, [1, 4, 5], []), sp (-47) [(5, 1)], sp 0 [(2, 1)], sp 0 [(2, (-1))], sp 0 [(3, 1)], sp 0 [(3, (-1))], sp 0 []], [(1126, [7, 0, 1, 2, 3, 4, 5, 6, 0, 1, 2, 3], [])])
theorem q_tk01_ok : RlOk q_tk01 := by
  intro fs zs h x hx
  obtain ⟨P0, h⟩ := snAll h
  replace P0 := s_rd.mp P0
  obtain ⟨P1, h⟩ := snAll h
  replace P1 := s_rd.mp P1
  obtain ⟨P2, h⟩ := snAll h
  replace P2 := sp_1.mp P2
  obtain ⟨P3, h⟩ := snAll h
  replace P3 := sp_1.mp P3
  obtain ⟨P4, h⟩ := snAll h
  replace P4 := sp_1.mp P4
  obtain ⟨P5, h⟩ := snAll h
  replace P5 := sp_1.mp P5
  obtain ⟨P6, h⟩ := snAll h
  replace P6 := sp_1.mp P6
  obtain ⟨P7, h⟩ := snAll h
  replace P7 := sp_0.mp P7
  rcases List.mem_cons.mp hx with hx | hx
  · rw [hx]; refine s_tkp.mpr ?_; apply L_tk0 (F0 := nthF fs 0) (F1 := nthF fs 1) (F2 := nthF fs 2) (F3 := nthF fs 3) (F4 := nthF fs 4) (F5 := nthF fs 5) (F6 := nthF fs 6) (N0 := nthZ zs 0) (N1 := nthZ zs 1) (N2 := nthZ zs 2) (N3 := nthZ zs 3) <;> first | assumption | omega | (rintro ⟨a, a2⟩; first | omega | (rw [P0, P1] at a; omega))
  · cases hx
def q_tk02 : qRl := ([sp (-1) [(1, (-1))], sp 0 [(2, 1)], sp 0 [(2, (-1))], sp 0 [(3, 1)], sp 0 [(3, (-1))], sp 0 []], [(1126, [7, 0, 1, 2, 3, 4, 5, 6, 0, 1, 2, 3], [])])
theorem q_tk02_ok : RlOk q_tk02 := by
  intro fs zs h x hx
  obtain ⟨P0, h⟩ := snAll h
  replace P0 := sp_1.mp P0
  obtain ⟨P1, h⟩ := snAll h
  replace P1 := sp_1.mp P1
  obtain ⟨P2, h⟩ := snAll h
  replace P2 := sp_1.mp P2
  obtain ⟨P3, h⟩ := snAll h
  replace P3 := sp_1.mp P3
  obtain ⟨P4, h⟩ := snAll h
  replace P4 := sp_1.mp P4
  obtain ⟨P5, h⟩ := snAll h
  replace P5 := sp_0.mp P5
  rcases List.mem_cons.mp hx with hx | hx
  · rw [hx]; refine s_tkp.mpr ?_; apply L_tk0 (F0 := nthF fs 0) (F1 := nthF fs 1) (F2 := nthF fs 2) (F3 := nthF fs 3) (F4 := nthF fs 4) (F5 := nthF fs 5) (F6 := nthF fs 6) (N0 := nthZ zs 0) (N1 := nthZ zs 1) (N2 := nthZ zs 2) (N3 := nthZ zs 3) <;> first | assumption | omega | (rintro ⟨a, a2⟩; first | omega | (rw [P0, P1] at a; omega))
  · cases hx
def q_tk2b : qRl := ([(2, [7, 0, 4, 5], []), sp 1 [(6, 1), (3, (-1))], sp (-1) [(6, (-1)), (3, 1)], (1126, [7, 0, 1, 2, 3, 4, 5, 6, 0, 1, 2, 6], []), sp 0 [(4, 1), (2, (-1)), (6, (-1))], sp 0 [(2, 1), (6, 1), (4, (-1))], sp 0 [(2, 1)], sp 0 [(6, 1)], (1, [3, 0, 7], []), sp 0 [(8, 1), (7, (-1)), (6, (-1))], sp 0 [(8, (-1)), (7, 1), (6, 1)], (1, [1, 8, 9], []), sp 0 [(9, 1), (5, (-1))], sp 0 [(5, 1), (9, (-1))]], [(1126, [7, 7, 1, 2, 3, 4, 5, 6, 0, 1, 2, 3], [])])
theorem q_tk2b_ok : RlOk q_tk2b := by
  intro fs zs h x hx
  obtain ⟨P0, h⟩ := snAll h
  replace P0 := s_wr.mp P0
  obtain ⟨P1a, h⟩ := snAll h
  replace P1a := sp_2.mp P1a
  obtain ⟨P1b, h⟩ := snAll h
  replace P1b := sp_2.mp P1b
  obtain ⟨P2, h⟩ := snAll h
  replace P2 := s_tkp.mp P2
  obtain ⟨P3, h⟩ := snAll h
  replace P3 := sp_3.mp P3
  obtain ⟨P4, h⟩ := snAll h
  replace P4 := sp_3.mp P4
  obtain ⟨P5, h⟩ := snAll h
  replace P5 := sp_1.mp P5
  obtain ⟨P6, h⟩ := snAll h
  replace P6 := sp_1.mp P6
  obtain ⟨P7, h⟩ := snAll h
  replace P7 := s_rd.mp P7
  obtain ⟨P8a, h⟩ := snAll h
  replace P8a := sp_3.mp P8a
  obtain ⟨P8b, h⟩ := snAll h
  replace P8b := sp_3.mp P8b
  obtain ⟨P9, h⟩ := snAll h
  replace P9 := s_rd.mp P9
  obtain ⟨P10, h⟩ := snAll h
  replace P10 := sp_2.mp P10
  obtain ⟨P11, h⟩ := snAll h
  replace P11 := sp_2.mp P11
  have e : nthF fs 3 (nthZ zs 0) + nthZ zs 6 = nthZ zs 8 := by omega
  rcases List.mem_cons.mp hx with hx | hx
  · rw [hx]; refine s_tkp.mpr ?_; apply L_tk2 (F0 := nthF fs 0) (F1 := nthF fs 1) (F2 := nthF fs 2) (F3 := nthF fs 3) (F4 := nthF fs 4) (F5 := nthF fs 5) (F6 := nthF fs 6) (F7 := nthF fs 7) (N0 := nthZ zs 0) (N1 := nthZ zs 1) (N2 := nthZ zs 2) (N3 := nthZ zs 3) (N4 := nthZ zs 4) (N5 := nthZ zs 5) (N6 := nthZ zs 6) <;> first | assumption | omega | (rw [e]; omega)
  · cases hx
def q_tkE : qRl := ([(1126, [7, 0, 1, 2, 3, 4, 5, 6, 0, 1, 4, 5], []), (1, [4, 0, 6], []), sp 0 [(5, 1), (6, (-1))], sp 0 [(2, 1), (4, (-1)), (6, (-1))], sp 0 [(4, 1), (6, 1), (2, (-1))], sp 0 []], [(1125, [7, 0, 1, 2, 3, 4, 5, 6, 0, 1, 2, 3], [])])
theorem q_tkE_ok : RlOk q_tkE := by
  intro fs zs h x hx
  obtain ⟨P0, h⟩ := snAll h
  replace P0 := s_tkp.mp P0
  obtain ⟨P1, h⟩ := snAll h
  replace P1 := s_rd.mp P1
  obtain ⟨P2, h⟩ := snAll h
  replace P2 := sp_2.mp P2
  obtain ⟨P3, h⟩ := snAll h
  replace P3 := sp_3.mp P3
  obtain ⟨P4, h⟩ := snAll h
  replace P4 := sp_3.mp P4
  obtain ⟨P5, h⟩ := snAll h
  replace P5 := sp_0.mp P5
  rcases List.mem_cons.mp hx with hx | hx
  · rw [hx]; refine s_tkn.mpr ?_; apply L_tkE (F0 := nthF fs 0) (F1 := nthF fs 1) (F2 := nthF fs 2) (F3 := nthF fs 3) (F4 := nthF fs 4) (F5 := nthF fs 5) (F6 := nthF fs 6) (N0 := nthZ zs 0) (N1 := nthZ zs 1) (N2 := nthZ zs 2) (N3 := nthZ zs 3) (N4 := nthZ zs 4) (N5 := nthZ zs 5) (N6 := nthZ zs 6) <;> first | assumption | omega | rfl
  · cases hx
def q_tkG : qRl := ([sp (-1) [(3, 1)], sp 0 [], sp 0 [], sp 0 []], [(1125, [7, 0, 1, 2, 3, 4, 5, 6, 0, 1, 2, 3], [])])
theorem q_tkG_ok : RlOk q_tkG := by
  intro fs zs h x hx
  obtain ⟨P0, h⟩ := snAll h
  replace P0 := sp_1.mp P0
  obtain ⟨P1, h⟩ := snAll h
  replace P1 := sp_0.mp P1
  obtain ⟨P2, h⟩ := snAll h
  replace P2 := sp_0.mp P2
  obtain ⟨P3, h⟩ := snAll h
  replace P3 := sp_0.mp P3
  rcases List.mem_cons.mp hx with hx | hx
  · rw [hx]; refine s_tkn.mpr ?_; apply L_tkG (F0 := nthF fs 0) (F1 := nthF fs 1) (F2 := nthF fs 2) (F3 := nthF fs 3) (F4 := nthF fs 4) (F5 := nthF fs 5) (F6 := nthF fs 6) (N0 := nthZ zs 0) (N1 := nthZ zs 1) (N2 := nthZ zs 2) (N3 := nthZ zs 3) <;> first | assumption | omega | rfl
  · cases hx
def q_ca0 : qRl := ([(1, [0, 0, 4], []), sp 0 [(4, 1), (1, (-1))], sp 0 [(1, 1), (4, (-1))], sp 0 [(2, 1)], sp 0 [(2, (-1))], sp (-1) [(3, 1)], sp 1 [(3, (-1))]], [(1129, [4, 0, 1, 2, 3, 0, 1, 2, 3], [])])
theorem q_ca0_ok : RlOk q_ca0 := by
  intro fs zs h x hx
  obtain ⟨P0, h⟩ := snAll h
  replace P0 := s_rd.mp P0
  obtain ⟨P1, h⟩ := snAll h
  replace P1 := sp_2.mp P1
  obtain ⟨P2, h⟩ := snAll h
  replace P2 := sp_2.mp P2
  obtain ⟨P3, h⟩ := snAll h
  replace P3 := sp_1.mp P3
  obtain ⟨P4, h⟩ := snAll h
  replace P4 := sp_1.mp P4
  obtain ⟨P5, h⟩ := snAll h
  replace P5 := sp_1.mp P5
  obtain ⟨P6, h⟩ := snAll h
  replace P6 := sp_1.mp P6
  rcases List.mem_cons.mp hx with hx | hx
  · rw [hx]; refine s_cap.mpr ?_; apply L_ca0 (F0 := nthF fs 0) (F1 := nthF fs 1) (F2 := nthF fs 2) (F3 := nthF fs 3) (N0 := nthZ zs 0) (N1 := nthZ zs 1) (N2 := nthZ zs 2) (N3 := nthZ zs 3) <;> first | assumption | omega | rfl
  · cases hx
def q_ca10 : qRl := ([(1, [0, 0, 4], []), sp (-1) [(4, 1), (1, (-1))], sp 0 [(3, 1)], sp 0 [(3, (-1))], sp 0 []], [(1129, [4, 0, 1, 2, 3, 0, 1, 2, 3], [])])
theorem q_ca10_ok : RlOk q_ca10 := by
  intro fs zs h x hx
  obtain ⟨P0, h⟩ := snAll h
  replace P0 := s_rd.mp P0
  obtain ⟨P1, h⟩ := snAll h
  replace P1 := sp_2.mp P1
  obtain ⟨P2, h⟩ := snAll h
  replace P2 := sp_1.mp P2
  obtain ⟨P3, h⟩ := snAll h
  replace P3 := sp_1.mp P3
  obtain ⟨P4, h⟩ := snAll h
  replace P4 := sp_0.mp P4
  rcases List.mem_cons.mp hx with hx | hx
  · rw [hx]; refine s_cap.mpr ?_; apply L_ca1 (F0 := nthF fs 0) (F1 := nthF fs 1) (F2 := nthF fs 2) (F3 := nthF fs 3) (N0 := nthZ zs 0) (N1 := nthZ zs 1) (N2 := nthZ zs 2) (N3 := nthZ zs 3) <;> first | assumption | omega | rfl
  · cases hx
def q_ca11 : qRl := ([(1, [0, 0, 4], []), sp (-1) [(1, 1), (4, (-1))], sp 0 [(3, 1)], sp 0 [(3, (-1))], sp 0 []], [(1129, [4, 0, 1, 2, 3, 0, 1, 2, 3], [])])
theorem q_ca11_ok : RlOk q_ca11 := by
  intro fs zs h x hx
  obtain ⟨P0, h⟩ := snAll h
  replace P0 := s_rd.mp P0
  obtain ⟨P1, h⟩ := snAll h
  replace P1 := sp_2.mp P1
  obtain ⟨P2, h⟩ := snAll h
  replace P2 := sp_1.mp P2
  obtain ⟨P3, h⟩ := snAll h
  replace P3 := sp_1.mp P3
  obtain ⟨P4, h⟩ := snAll h
  replace P4 := sp_0.mp P4
  rcases List.mem_cons.mp hx with hx | hx
  · rw [hx]; refine s_cap.mpr ?_; apply L_ca1 (F0 := nthF fs 0) (F1 := nthF fs 1) (F2 := nthF fs 2) (F3 := nthF fs 3) (N0 := nthZ zs 0) (N1 := nthZ zs 1) (N2 := nthZ zs 2) (N3 := nthZ zs 3) <;> first | assumption | omega | rfl
  · cases hx
def q_ca2 : qRl := ([sp 1 [(4, 1), (2, (-1))], sp (-1) [(4, (-1)), (2, 1)], (1129, [4, 0, 1, 2, 3, 0, 1, 4, 5], []), sp (-1) [(5, 1)], (1, [1, 0, 6], []), sp 0 [(7, 1), (6, (-1)), (4, (-1))], sp 0 [(7, (-1)), (6, 1), (4, 1)], (1, [2, 7, 8], []), (1, [3, 4, 9], []), sp 0 [(8, 1), (9, (-1))], sp 0 [(9, 1), (8, (-1))], sp (-1) [(3, 1)], sp 1 [(3, (-1))]], [(1129, [4, 0, 1, 2, 3, 0, 1, 2, 3], [])])
theorem q_ca2_ok : RlOk q_ca2 := by
  intro fs zs h x hx
  obtain ⟨P0a, h⟩ := snAll h
  replace P0a := sp_2.mp P0a
  obtain ⟨P0b, h⟩ := snAll h
  replace P0b := sp_2.mp P0b
  obtain ⟨P1, h⟩ := snAll h
  replace P1 := s_cap.mp P1
  obtain ⟨P2, h⟩ := snAll h
  replace P2 := sp_1.mp P2
  obtain ⟨P3, h⟩ := snAll h
  replace P3 := s_rd.mp P3
  obtain ⟨P4a, h⟩ := snAll h
  replace P4a := sp_3.mp P4a
  obtain ⟨P4b, h⟩ := snAll h
  replace P4b := sp_3.mp P4b
  obtain ⟨P5, h⟩ := snAll h
  replace P5 := s_rd.mp P5
  obtain ⟨P6, h⟩ := snAll h
  replace P6 := s_rd.mp P6
  obtain ⟨P7, h⟩ := snAll h
  replace P7 := sp_2.mp P7
  obtain ⟨P8, h⟩ := snAll h
  replace P8 := sp_2.mp P8
  obtain ⟨P9, h⟩ := snAll h
  replace P9 := sp_1.mp P9
  obtain ⟨P10, h⟩ := snAll h
  replace P10 := sp_1.mp P10
  have e : nthF fs 1 (nthZ zs 0) + nthZ zs 4 = nthZ zs 7 := by omega
  rcases List.mem_cons.mp hx with hx | hx
  · rw [hx]; refine s_cap.mpr ?_; apply L_ca2 (F0 := nthF fs 0) (F1 := nthF fs 1) (F2 := nthF fs 2) (F3 := nthF fs 3) (N0 := nthZ zs 0) (N1 := nthZ zs 1) (N2 := nthZ zs 2) (N3 := nthZ zs 3) (N4 := nthZ zs 4) (N5 := nthZ zs 5) <;> first | assumption | omega | (rw [e]; omega)
  · cases hx
def q_ca30 : qRl := ([sp 1 [(4, 1), (2, (-1))], sp (-1) [(4, (-1)), (2, 1)], (1129, [4, 0, 1, 2, 3, 0, 1, 4, 5], []), sp (-1) [(5, 1)], (1, [1, 0, 6], []), sp 0 [(7, 1), (6, (-1)), (4, (-1))], sp 0 [(7, (-1)), (6, 1), (4, 1)], (1, [2, 7, 8], []), (1, [3, 4, 9], []), sp (-1) [(8, 1), (9, (-1))], sp 0 [(4, 1)], sp (-1) [(1, 1), (4, (-1))], sp 0 [(3, 1)], sp 0 [(3, (-1))]], [(1129, [4, 0, 1, 2, 3, 0, 1, 2, 3], [])])
theorem q_ca30_ok : RlOk q_ca30 := by
  intro fs zs h x hx
  obtain ⟨P0a, h⟩ := snAll h
  replace P0a := sp_2.mp P0a
  obtain ⟨P0b, h⟩ := snAll h
  replace P0b := sp_2.mp P0b
  obtain ⟨P1, h⟩ := snAll h
  replace P1 := s_cap.mp P1
  obtain ⟨P2, h⟩ := snAll h
  replace P2 := sp_1.mp P2
  obtain ⟨P3, h⟩ := snAll h
  replace P3 := s_rd.mp P3
  obtain ⟨P4a, h⟩ := snAll h
  replace P4a := sp_3.mp P4a
  obtain ⟨P4b, h⟩ := snAll h
  replace P4b := sp_3.mp P4b
  obtain ⟨P5, h⟩ := snAll h
  replace P5 := s_rd.mp P5
  obtain ⟨P6, h⟩ := snAll h
  replace P6 := s_rd.mp P6
  obtain ⟨P7, h⟩ := snAll h
  replace P7 := sp_2.mp P7
  obtain ⟨P8, h⟩ := snAll h
  replace P8 := sp_1.mp P8
  obtain ⟨P9, h⟩ := snAll h
  replace P9 := sp_2.mp P9
  obtain ⟨P10, h⟩ := snAll h
  replace P10 := sp_1.mp P10
  obtain ⟨P11, h⟩ := snAll h
  replace P11 := sp_1.mp P11
  have e : nthF fs 1 (nthZ zs 0) + nthZ zs 4 = nthZ zs 7 := by omega
  rcases List.mem_cons.mp hx with hx | hx
  · rw [hx]; refine s_cap.mpr ?_; apply L_ca3 (F0 := nthF fs 0) (F1 := nthF fs 1) (F2 := nthF fs 2) (F3 := nthF fs 3) (N0 := nthZ zs 0) (N1 := nthZ zs 1) (N2 := nthZ zs 2) (N3 := nthZ zs 3) (N4 := nthZ zs 4) <;> first | assumption | omega | (rw [e]; omega)
  · cases hx
def q_ca31 : qRl := ([sp 1 [(4, 1), (2, (-1))], sp (-1) [(4, (-1)), (2, 1)], (1129, [4, 0, 1, 2, 3, 0, 1, 4, 5], []), sp (-1) [(5, 1)], (1, [1, 0, 6], []), sp 0 [(7, 1), (6, (-1)), (4, (-1))], sp 0 [(7, (-1)), (6, 1), (4, 1)], (1, [2, 7, 8], []), (1, [3, 4, 9], []), sp (-1) [(9, 1), (8, (-1))], sp 0 [(4, 1)], sp (-1) [(1, 1), (4, (-1))], sp 0 [(3, 1)], sp 0 [(3, (-1))]], [(1129, [4, 0, 1, 2, 3, 0, 1, 2, 3], [])])
theorem q_ca31_ok : RlOk q_ca31 := by
  intro fs zs h x hx
  obtain ⟨P0a, h⟩ := snAll h
  replace P0a := sp_2.mp P0a
  obtain ⟨P0b, h⟩ := snAll h
  replace P0b := sp_2.mp P0b
  obtain ⟨P1, h⟩ := snAll h
  replace P1 := s_cap.mp P1
  obtain ⟨P2, h⟩ := snAll h
  replace P2 := sp_1.mp P2
  obtain ⟨P3, h⟩ := snAll h
  replace P3 := s_rd.mp P3
  obtain ⟨P4a, h⟩ := snAll h
  replace P4a := sp_3.mp P4a
  obtain ⟨P4b, h⟩ := snAll h
  replace P4b := sp_3.mp P4b
  obtain ⟨P5, h⟩ := snAll h
  replace P5 := s_rd.mp P5
  obtain ⟨P6, h⟩ := snAll h
  replace P6 := s_rd.mp P6
  obtain ⟨P7, h⟩ := snAll h
  replace P7 := sp_2.mp P7
  obtain ⟨P8, h⟩ := snAll h
  replace P8 := sp_1.mp P8
  obtain ⟨P9, h⟩ := snAll h
  replace P9 := sp_2.mp P9
  obtain ⟨P10, h⟩ := snAll h
  replace P10 := sp_1.mp P10
  obtain ⟨P11, h⟩ := snAll h
  replace P11 := sp_1.mp P11
  have e : nthF fs 1 (nthZ zs 0) + nthZ zs 4 = nthZ zs 7 := by omega
  rcases List.mem_cons.mp hx with hx | hx
  · rw [hx]; refine s_cap.mpr ?_; apply L_ca3 (F0 := nthF fs 0) (F1 := nthF fs 1) (F2 := nthF fs 2) (F3 := nthF fs 3) (N0 := nthZ zs 0) (N1 := nthZ zs 1) (N2 := nthZ zs 2) (N3 := nthZ zs 3) (N4 := nthZ zs 4) <;> first | assumption | omega | (rw [e]; omega)
  · cases hx
def q_caE1 : qRl := ([(1129, [4, 0, 1, 2, 3, 0, 1, 3, 4], []), sp (-1) [(4, 1)], sp 0 [(3, 1), (1, (-1))], sp (-1) [(2, 1)]], [(1128, [4, 0, 1, 2, 3, 0, 1, 2], [])])
theorem q_caE1_ok : RlOk q_caE1 := by
  intro fs zs h x hx
  obtain ⟨P0, h⟩ := snAll h
  replace P0 := s_cap.mp P0
  obtain ⟨P1, h⟩ := snAll h
  replace P1 := sp_1.mp P1
  obtain ⟨P2, h⟩ := snAll h
  replace P2 := sp_2.mp P2
  obtain ⟨P3, h⟩ := snAll h
  replace P3 := sp_1.mp P3
  rcases List.mem_cons.mp hx with hx | hx
  · rw [hx]; refine s_cal.mpr ?_; apply L_caE1 (F0 := nthF fs 0) (F1 := nthF fs 1) (F2 := nthF fs 2) (F3 := nthF fs 3) (N0 := nthZ zs 0) (N1 := nthZ zs 1) (N2 := nthZ zs 2) (N3 := nthZ zs 3) (N4 := nthZ zs 4) <;> first | assumption | omega | rfl
  · cases hx
def q_caE0 : qRl := ([(1129, [4, 0, 1, 2, 3, 0, 1, 3, 4], []), sp 0 [(4, (-1))], sp 0 [(4, 1)], sp 0 [(2, (-1))]], [(1128, [4, 0, 1, 2, 3, 0, 1, 2], [])])
theorem q_caE0_ok : RlOk q_caE0 := by
  intro fs zs h x hx
  obtain ⟨P0, h⟩ := snAll h
  replace P0 := s_cap.mp P0
  obtain ⟨P1, h⟩ := snAll h
  replace P1 := sp_1.mp P1
  obtain ⟨P2, h⟩ := snAll h
  replace P2 := sp_1.mp P2
  obtain ⟨P3, h⟩ := snAll h
  replace P3 := sp_1.mp P3
  rcases List.mem_cons.mp hx with hx | hx
  · rw [hx]; refine s_cal.mpr ?_; apply L_caE0 (F0 := nthF fs 0) (F1 := nthF fs 1) (F2 := nthF fs 2) (F3 := nthF fs 3) (N0 := nthZ zs 0) (N1 := nthZ zs 1) (N2 := nthZ zs 2) (N3 := nthZ zs 3) (N4 := nthZ zs 4) <;> first | assumption | omega | rfl
  · cases hx
def q_sn0 : qRl := ([(1, [4, 1, 3], []), sp 0 [(3, 1), (2, (-1))], sp 0 [(2, 1), (3, (-1))], sp 0 []], [(1131, [5, 0, 1, 2, 3, 4, 0, 1, 2], [])])
theorem q_sn0_ok : RlOk q_sn0 := by
  intro fs zs h x hx
  obtain ⟨P0, h⟩ := snAll h
  replace P0 := s_rd.mp P0
  obtain ⟨P1, h⟩ := snAll h
  replace P1 := sp_2.mp P1
  obtain ⟨P2, h⟩ := snAll h
  replace P2 := sp_2.mp P2
  obtain ⟨P3, h⟩ := snAll h
  replace P3 := sp_0.mp P3
  rcases List.mem_cons.mp hx with hx | hx
  · rw [hx]; refine s_snp.mpr ?_; apply L_sn0 (F0 := nthF fs 0) (F1 := nthF fs 1) (F2 := nthF fs 2) (F3 := nthF fs 3) (F4 := nthF fs 4) (N0 := nthZ zs 0) (N1 := nthZ zs 1) (N2 := nthZ zs 2) <;> first | assumption | omega | rfl
  · cases hx
def q_sn1 : qRl := ([sp 1 [(3, 1), (2, (-1))], sp (-1) [(3, (-1)), (2, 1)], (1131, [5, 0, 1, 2, 3, 4, 0, 1, 3], []), (1128, [4, 0, 1, 2, 3, 3, 4, 5], []), sp 0 [(4, 1), (0, (-1))], sp 0 [(0, 1), (4, (-1))], sp 0 [(5, (-1))]], [(1131, [5, 0, 1, 2, 3, 4, 0, 1, 2], [])])
theorem q_sn1_ok : RlOk q_sn1 := by
  intro fs zs h x hx
  obtain ⟨P0a, h⟩ := snAll h
  replace P0a := sp_2.mp P0a
  obtain ⟨P0b, h⟩ := snAll h
  replace P0b := sp_2.mp P0b
  obtain ⟨P1, h⟩ := snAll h
  replace P1 := s_snp.mp P1
  obtain ⟨P2, h⟩ := snAll h
  replace P2 := s_cal.mp P2
  obtain ⟨P3, h⟩ := snAll h
  replace P3 := sp_2.mp P3
  obtain ⟨P4, h⟩ := snAll h
  replace P4 := sp_2.mp P4
  obtain ⟨P5, h⟩ := snAll h
  replace P5 := sp_1.mp P5
  have e4 : nthZ zs 4 = nthZ zs 0 := by omega
  rw [e4] at P2
  rcases List.mem_cons.mp hx with hx | hx
  · rw [hx]; refine s_snp.mpr ?_; apply L_sn1 (F0 := nthF fs 0) (F1 := nthF fs 1) (F2 := nthF fs 2) (F3 := nthF fs 3) (F4 := nthF fs 4) (N0 := nthZ zs 0) (N1 := nthZ zs 1) (N2 := nthZ zs 2) (N3 := nthZ zs 3) (N5 := nthZ zs 5) <;> first | assumption | omega | rfl
  · cases hx
def q_snE : qRl := ([(1131, [5, 0, 1, 2, 3, 4, 0, 1, 4], []), sp 0 [(4, 1), (3, (-1))], sp 0 [(3, 1), (4, (-1))], sp 0 [(3, 1)], sp (-1) [(2, 1), (3, (-1))], (1128, [4, 0, 1, 2, 3, 5, 6, 7], []), sp 0 [(5, 1), (3, (-1))], sp 0 [(3, 1), (5, (-1))], sp 0 [(6, 1), (0, (-1))], sp 0 [(0, 1), (6, (-1))], sp (-1) [(7, 1)]], [(1130, [5, 0, 1, 2, 3, 4, 0, 1, 2, 3], [])])
theorem q_snE_ok : RlOk q_snE := by
  intro fs zs h x hx
  obtain ⟨P0, h⟩ := snAll h
  replace P0 := s_snp.mp P0
  obtain ⟨P1, h⟩ := snAll h
  replace P1 := sp_2.mp P1
  obtain ⟨P2, h⟩ := snAll h
  replace P2 := sp_2.mp P2
  obtain ⟨P3, h⟩ := snAll h
  replace P3 := sp_1.mp P3
  obtain ⟨P4, h⟩ := snAll h
  replace P4 := sp_2.mp P4
  obtain ⟨P5, h⟩ := snAll h
  replace P5 := s_cal.mp P5
  obtain ⟨P6, h⟩ := snAll h
  replace P6 := sp_2.mp P6
  obtain ⟨P7, h⟩ := snAll h
  replace P7 := sp_2.mp P7
  obtain ⟨P8, h⟩ := snAll h
  replace P8 := sp_2.mp P8
  obtain ⟨P9, h⟩ := snAll h
  replace P9 := sp_2.mp P9
  obtain ⟨P10, h⟩ := snAll h
  replace P10 := sp_1.mp P10
  have e4 : nthZ zs 4 = nthZ zs 3 := by omega
  rw [e4] at P0
  have e5 : nthZ zs 5 = nthZ zs 3 := by omega
  rw [e5] at P5
  have e6 : nthZ zs 6 = nthZ zs 0 := by omega
  rw [e6] at P5
  rcases List.mem_cons.mp hx with hx | hx
  · rw [hx]; refine s_sn.mpr ?_; apply L_snE (F0 := nthF fs 0) (F1 := nthF fs 1) (F2 := nthF fs 2) (F3 := nthF fs 3) (F4 := nthF fs 4) (N0 := nthZ zs 0) (N1 := nthZ zs 1) (N2 := nthZ zs 2) (N3 := nthZ zs 3) (N7 := nthZ zs 7) <;> first | assumption | omega | rfl
  · cases hx
def q_snN : qRl := ([(1131, [5, 0, 1, 2, 3, 4, 0, 1, 4], []), sp 0 [(4, 1), (2, (-1))], sp (-1) [(3, (-1))]], [(1130, [5, 0, 1, 2, 3, 4, 0, 1, 2, 3], [])])
theorem q_snN_ok : RlOk q_snN := by
  intro fs zs h x hx
  obtain ⟨P0, h⟩ := snAll h
  replace P0 := s_snp.mp P0
  obtain ⟨P1, h⟩ := snAll h
  replace P1 := sp_2.mp P1
  obtain ⟨P2, h⟩ := snAll h
  replace P2 := sp_1.mp P2
  rcases List.mem_cons.mp hx with hx | hx
  · rw [hx]; refine s_sn.mpr ?_; apply L_snN (F0 := nthF fs 0) (F1 := nthF fs 1) (F2 := nthF fs 2) (F3 := nthF fs 3) (F4 := nthF fs 4) (N0 := nthZ zs 0) (N1 := nthZ zs 1) (N2 := nthZ zs 2) (N3 := nthZ zs 3) (N4 := nthZ zs 4) <;> first | assumption | omega | rfl
  · cases hx
def q_frE : qRl := ([sp (-1) [(3, 1)], sp 0 [], sp 0 [], sp 0 []], [(1132, [6, 3, 0, 1, 2, 4, 5, 0, 1, 2, 3], [])])
theorem q_frE_ok : RlOk q_frE := by
  intro fs zs h x hx
  obtain ⟨P0, h⟩ := snAll h
  replace P0 := sp_1.mp P0
  obtain ⟨P1, h⟩ := snAll h
  replace P1 := sp_0.mp P1
  obtain ⟨P2, h⟩ := snAll h
  replace P2 := sp_0.mp P2
  obtain ⟨P3, h⟩ := snAll h
  replace P3 := sp_0.mp P3
  rcases List.mem_cons.mp hx with hx | hx
  · rw [hx]; refine s_fre.mpr ?_; apply L_frE (F0 := nthF fs 0) (F1 := nthF fs 1) (F2 := nthF fs 2) (F3 := nthF fs 3) (F4 := nthF fs 4) (F5 := nthF fs 5) (N0 := nthZ zs 0) (N1 := nthZ zs 1) (N2 := nthZ zs 2) (N3 := nthZ zs 3) <;> first | assumption | omega | rfl
  · cases hx
def q_frA : qRl := ([(1130, [5, 0, 1, 2, 3, 4, 0, 1, 2, 4], []), sp (-1) [(4, (-1))], sp 0 []], [(1132, [6, 3, 0, 1, 2, 4, 5, 0, 1, 2, 3], [])])
theorem q_frA_ok : RlOk q_frA := by
  intro fs zs h x hx
  obtain ⟨P0, h⟩ := snAll h
  replace P0 := s_sn.mp P0
  obtain ⟨P1, h⟩ := snAll h
  replace P1 := sp_1.mp P1
  obtain ⟨P2, h⟩ := snAll h
  replace P2 := sp_0.mp P2
  rcases List.mem_cons.mp hx with hx | hx
  · rw [hx]; refine s_fre.mpr ?_; apply L_frA (F0 := nthF fs 0) (F1 := nthF fs 1) (F2 := nthF fs 2) (F3 := nthF fs 3) (F4 := nthF fs 4) (F5 := nthF fs 5) (N0 := nthZ zs 0) (N1 := nthZ zs 1) (N2 := nthZ zs 2) (N3 := nthZ zs 3) (N4 := nthZ zs 4) <;> first | assumption | omega | rfl
  · cases hx
def q_frB : qRl := ([(1130, [5, 0, 1, 2, 3, 4, 0, 1, 2, 4], []), sp 0 [(4, 1)], (1, [5, 4, 5], []), sp (-1) [(5, (-1))], sp 0 []], [(1132, [6, 3, 0, 1, 2, 4, 5, 0, 1, 2, 3], [])])
theorem q_frB_ok : RlOk q_frB := by
  intro fs zs h x hx
  obtain ⟨P0, h⟩ := snAll h
  replace P0 := s_sn.mp P0
  obtain ⟨P1, h⟩ := snAll h
  replace P1 := sp_1.mp P1
  obtain ⟨P2, h⟩ := snAll h
  replace P2 := s_rd.mp P2
  obtain ⟨P3, h⟩ := snAll h
  replace P3 := sp_1.mp P3
  obtain ⟨P4, h⟩ := snAll h
  replace P4 := sp_0.mp P4
  rcases List.mem_cons.mp hx with hx | hx
  · rw [hx]; refine s_fre.mpr ?_; apply L_frB (F0 := nthF fs 0) (F1 := nthF fs 1) (F2 := nthF fs 2) (F3 := nthF fs 3) (F4 := nthF fs 4) (F5 := nthF fs 5) (N0 := nthZ zs 0) (N1 := nthZ zs 1) (N2 := nthZ zs 2) (N3 := nthZ zs 3) (N4 := nthZ zs 4) <;> first | assumption | omega | rfl
  · cases hx
def q_fr2 : qRl := ([(1125, [7, 0, 1, 2, 3, 4, 5, 6, 0, 1, 4, 5], []), sp 0 [(5, (-1))], (1132, [6, 0, 5, 6, 2, 7, 8, 6, 2, 3, 7], []), sp 0 [(6, 1), (4, (-1))], sp 0 [(4, 1), (6, (-1))], sp 0 [(7, (-1))]], [(1133, [8, 1, 2, 3, 4, 5, 6, 7, 8, 0, 1, 2, 3], [])])
theorem q_fr2_ok : RlOk q_fr2 := by
  intro fs zs h x hx
  obtain ⟨P0, h⟩ := snAll h
  replace P0 := s_tkn.mp P0
  obtain ⟨P1, h⟩ := snAll h
  replace P1 := sp_1.mp P1
  obtain ⟨P2, h⟩ := snAll h
  replace P2 := s_fre.mp P2
  obtain ⟨P3, h⟩ := snAll h
  replace P3 := sp_2.mp P3
  obtain ⟨P4, h⟩ := snAll h
  replace P4 := sp_2.mp P4
  obtain ⟨P5, h⟩ := snAll h
  replace P5 := sp_1.mp P5
  have e6 : nthZ zs 6 = nthZ zs 4 := by omega
  rw [e6] at P2
  rcases List.mem_cons.mp hx with hx | hx
  · rw [hx]; refine s_fr2.mpr ?_; apply L_fr2 (F0 := nthF fs 0) (F1 := nthF fs 1) (F2 := nthF fs 2) (F3 := nthF fs 3) (F4 := nthF fs 4) (F5 := nthF fs 5) (F6 := nthF fs 6) (F7 := nthF fs 7) (F8 := nthF fs 8) (N0 := nthZ zs 0) (N1 := nthZ zs 1) (N2 := nthZ zs 2) (N3 := nthZ zs 3) (N4 := nthZ zs 4) (N5 := nthZ zs 5) (N7 := nthZ zs 7) <;> first | assumption | omega | rfl
  · cases hx
def q_fr3 : qRl := ([(1133, [8, 1, 2, 3, 4, 5, 6, 7, 8, 4, 5, 1, 2], []), (1125, [7, 0, 1, 2, 3, 4, 5, 6, 4, 5, 0, 6], []), sp 0 [(6, (-1))], sp 0 []], [(1132, [6, 0, 5, 6, 2, 7, 8, 0, 1, 2, 3], [])])
theorem q_fr3_ok : RlOk q_fr3 := by
  intro fs zs h x hx
  obtain ⟨P0, h⟩ := snAll h
  replace P0 := s_fr2.mp P0
  obtain ⟨P1, h⟩ := snAll h
  replace P1 := s_tkn.mp P1
  obtain ⟨P2, h⟩ := snAll h
  replace P2 := sp_1.mp P2
  obtain ⟨P3, h⟩ := snAll h
  replace P3 := sp_0.mp P3
  rcases List.mem_cons.mp hx with hx | hx
  · rw [hx]; refine s_fre.mpr ?_; apply L_fr3 (F0 := nthF fs 0) (F1 := nthF fs 1) (F2 := nthF fs 2) (F3 := nthF fs 3) (F4 := nthF fs 4) (F5 := nthF fs 5) (F6 := nthF fs 6) (F7 := nthF fs 7) (F8 := nthF fs 8) (N0 := nthZ zs 0) (N1 := nthZ zs 1) (N2 := nthZ zs 2) (N3 := nthZ zs 3) (N4 := nthZ zs 4) (N5 := nthZ zs 5) (N6 := nthZ zs 6) <;> first | assumption | omega | rfl
  · cases hx
def q_cnA : qRl := ([(1130, [5, 0, 1, 2, 3, 4, 0, 1, 2, 3], []), sp 0 [(3, 1)]], [(1134, [7, 3, 0, 1, 2, 4, 5, 5, 0, 1, 2, 3], [])])
theorem q_cnA_ok : RlOk q_cnA := by
  intro fs zs h x hx
  obtain ⟨P0, h⟩ := snAll h
  replace P0 := s_sn.mp P0
  obtain ⟨P1, h⟩ := snAll h
  replace P1 := sp_1.mp P1
  rcases List.mem_cons.mp hx with hx | hx
  · rw [hx]; refine s_cnd.mpr ?_; apply L_cnA (F0 := nthF fs 0) (F1 := nthF fs 1) (F2 := nthF fs 2) (F3 := nthF fs 3) (F4 := nthF fs 4) (F5 := nthF fs 5) (N0 := nthZ zs 0) (N1 := nthZ zs 1) (N2 := nthZ zs 2) (N3 := nthZ zs 3) <;> first | assumption | omega | rfl
  · cases hx
def q_cnB : qRl := ([(2, [6, 7, 4, 5], []), sp 0 [(4, 1), (3, (-1))], sp 0 [(3, 1), (4, (-1))], sp (-1) [(5, (-1))], sp 0 [], sp 0 [], sp 0 []], [(1134, [7, 3, 0, 1, 2, 4, 5, 6, 0, 1, 2, 3], [])])
theorem q_cnB_ok : RlOk q_cnB := by
  intro fs zs h x hx
  obtain ⟨P0, h⟩ := snAll h
  replace P0 := s_wr.mp P0
  obtain ⟨P1, h⟩ := snAll h
  replace P1 := sp_2.mp P1
  obtain ⟨P2, h⟩ := snAll h
  replace P2 := sp_2.mp P2
  obtain ⟨P3, h⟩ := snAll h
  replace P3 := sp_1.mp P3
  obtain ⟨P4, h⟩ := snAll h
  replace P4 := sp_0.mp P4
  obtain ⟨P5, h⟩ := snAll h
  replace P5 := sp_0.mp P5
  obtain ⟨P6, h⟩ := snAll h
  replace P6 := sp_0.mp P6
  rcases List.mem_cons.mp hx with hx | hx
  · rw [hx]; refine s_cnd.mpr ?_; apply L_cnB (F0 := nthF fs 0) (F1 := nthF fs 1) (F2 := nthF fs 2) (F3 := nthF fs 3) (F4 := nthF fs 4) (F5 := nthF fs 5) (F6 := nthF fs 6) (F7 := nthF fs 7) (N0 := nthZ zs 0) (N1 := nthZ zs 1) (N2 := nthZ zs 2) (N3 := nthZ zs 3) (N4 := nthZ zs 4) (N5 := nthZ zs 5) <;> first | assumption | omega | rfl
  · cases hx
def q_lcY : qRl := ([(2, [1, 0, 2, 3], []), sp 1 [(4, 1), (1, (-1))], sp (-1) [(4, (-1)), (1, 1)], (1123, [1, 0, 0, 4], []), sp 0 [(3, 1)], sp 0 [(2, 1)], sp (-1) [(0, 1), (2, (-1))], (1134, [7, 2, 3, 4, 5, 6, 7, 0, 5, 6, 7, 8], []), sp 0 [(8, 1), (2, (-1))], sp 0 [(2, 1), (8, (-1))], sp 0 [(9, 1)], sp 0 [(9, (-1))], (1132, [6, 2, 3, 4, 5, 6, 7, 5, 6, 7, 9], [])], [(1123, [1, 1, 0, 1], [])])
theorem q_lcY_ok : RlOk q_lcY := by
  intro fs zs h x hx
  obtain ⟨P0, h⟩ := snAll h
  replace P0 := s_wr.mp P0
  obtain ⟨P1a, h⟩ := snAll h
  replace P1a := sp_2.mp P1a
  obtain ⟨P1b, h⟩ := snAll h
  replace P1b := sp_2.mp P1b
  obtain ⟨P2, h⟩ := snAll h
  replace P2 := s_lcn.mp P2
  obtain ⟨P3, h⟩ := snAll h
  replace P3 := sp_1.mp P3
  obtain ⟨P4, h⟩ := snAll h
  replace P4 := sp_1.mp P4
  obtain ⟨P5, h⟩ := snAll h
  replace P5 := sp_2.mp P5
  obtain ⟨P6, h⟩ := snAll h
  replace P6 := s_cnd.mp P6
  obtain ⟨P7, h⟩ := snAll h
  replace P7 := sp_2.mp P7
  obtain ⟨P8, h⟩ := snAll h
  replace P8 := sp_2.mp P8
  obtain ⟨P9a, h⟩ := snAll h
  replace P9a := sp_1.mp P9a
  obtain ⟨P9b, h⟩ := snAll h
  replace P9b := sp_1.mp P9b
  obtain ⟨P10, h⟩ := snAll h
  replace P10 := s_fre.mp P10
  have e9 : nthZ zs 9 = 0 := by omega
  rw [e9] at P10
  rcases List.mem_cons.mp hx with hx | hx
  · rw [hx]; refine s_lcn.mpr ?_; apply L_lcY (F0 := nthF fs 0) (F1 := nthF fs 1) (F2 := nthF fs 2) (F3 := nthF fs 3) (F4 := nthF fs 4) (F5 := nthF fs 5) (F6 := nthF fs 6) (F7 := nthF fs 7) (N0 := nthZ zs 0) (N1 := nthZ zs 1) (N2 := nthZ zs 2) (N3 := nthZ zs 3) (N4 := nthZ zs 4) (N5 := nthZ zs 5) (N6 := nthZ zs 6) (N7 := nthZ zs 7) (N8 := nthZ zs 8) <;> first | assumption | omega | rfl
  · cases hx
