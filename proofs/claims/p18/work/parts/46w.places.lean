/-! RULES OF WHAT IS SAID OF ITEMS, ADDRESSES, BYTES OF NUMBERS (written by wip/p2/gen46w.py) -/
section
variable {fs : List (Int → Int)} {zs : List Int}
theorem s_itm {a0 i0 i1 : Nat} : SnOk fs zs (1135, [1, a0, i0, i1], []) ↔ eItm (nthF fs a0) (nthZ zs i0) (nthZ zs i1) := Iff.rfl
theorem s_okp {a0 i0 i1 : Nat} : SnOk fs zs (1136, [1, a0, i0, i1], []) ↔ eOkp (nthF fs a0) (nthZ zs i0) (nthZ zs i1) := Iff.rfl
theorem s_nrw {a0 a1 i0 i1 : Nat} : SnOk fs zs (1137, [2, a0, a1, i0, i1], []) ↔ eNrw (nthF fs a0) (nthF fs a1) (nthZ zs i0) (nthZ zs i1) := Iff.rfl
theorem s_spk {a0 a1 a2 i0 i1 : Nat} : SnOk fs zs (1138, [3, a0, a1, a2, i0, i1], []) ↔ eSpk (nthF fs a0) (nthF fs a1) (nthF fs a2) (nthZ zs i0) (nthZ zs i1) := Iff.rfl
theorem s_wai {a0 i0 i1 : Nat} : SnOk fs zs (1153, [1, a0, i0, i1], []) ↔ eWai (nthF fs a0) (nthZ zs i0) (nthZ zs i1) := Iff.rfl
theorem s_ndd {a0 a1 i0 i1 : Nat} : SnOk fs zs (1154, [2, a0, a1, i0, i1], []) ↔ eNdd (nthF fs a0) (nthF fs a1) (nthZ zs i0) (nthZ zs i1) := Iff.rfl
theorem s_isn {a0 a1 a2 a3 i0 i1 i2 : Nat} : SnOk fs zs (1157, [4, a0, a1, a2, a3, i0, i1, i2], []) ↔ eIsn (nthF fs a0) (nthF fs a1) (nthF fs a2) (nthF fs a3) (nthZ zs i0) (nthZ zs i1) (nthZ zs i2) := Iff.rfl
theorem s_ia {a0 a1 a2 i0 i1 i2 : Nat} : SnOk fs zs (1146, [3, a0, a1, a2, i0, i1, i2], []) ↔ eIa (nthF fs a0) (nthF fs a1) (nthF fs a2) (nthZ zs i0) (nthZ zs i1) (nthZ zs i2) := Iff.rfl
theorem s_wul {a0 i0 i1 : Nat} : SnOk fs zs (1155, [1, a0, i0, i1], []) ↔ eWul (nthF fs a0) (nthZ zs i0) (nthZ zs i1) := Iff.rfl
theorem s_wu {a0 i0 i1 i2 : Nat} : SnOk fs zs (1147, [1, a0, i0, i1, i2], []) ↔ eWu (nthF fs a0) (nthZ zs i0) (nthZ zs i1) := Iff.rfl
theorem s_bs {a0 i0 i1 i2 i3 : Nat} : SnOk fs zs (1149, [1, a0, i0, i1, i2, i3], []) ↔ eBs (nthF fs a0) (nthZ zs i0) (nthZ zs i1) (nthZ zs i2) (nthZ zs i3) := Iff.rfl
theorem s_atx {a0 i0 i1 i2 : Nat} : SnOk fs zs (1148, [1, a0, i0, i1, i2], []) ↔ eAtx (nthF fs a0) (nthZ zs i0) (nthZ zs i1) (nthZ zs i2) := Iff.rfl
theorem s_bfo {i0 i1 i2 : Nat} : SnOk fs zs (1158, [0, i0, i1, i2], []) ↔ eBfo (nthZ zs i0) (nthZ zs i1) (nthZ zs i2) := Iff.rfl
theorem s_hfo {i0 i1 : Nat} : SnOk fs zs (1159, [0, i0, i1], []) ↔ eHfo (nthZ zs i0) (nthZ zs i1) := Iff.rfl
theorem s_pfo {i0 i1 : Nat} : SnOk fs zs (1160, [0, i0, i1], []) ↔ ePfo (nthZ zs i0) (nthZ zs i1) := Iff.rfl
theorem s_hob {i0 i1 i2 i3 i4 : Nat} : SnOk fs zs (1163, [0, i0, i1, i2, i3, i4], []) ↔ eHob (nthZ zs i0) (nthZ zs i1) (nthZ zs i2) (nthZ zs i3) (nthZ zs i4) := Iff.rfl
theorem s_sum {a0 a1 i0 i1 i2 i3 : Nat} : SnOk fs zs (1161, [2, a0, a1, i0, i1, i2, i3], []) ↔ eSum (nthF fs a0) (nthF fs a1) (nthZ zs i0) (nthZ zs i1) (nthZ zs i2) (nthZ zs i3) := Iff.rfl
theorem s_suv {a0 a1 i0 i1 i2 i3 i4 i5 i6 : Nat} : SnOk fs zs (1162, [2, a0, a1, i0, i1, i2, i3, i4, i5, i6], []) ↔ eSuv (nthF fs a0) (nthF fs a1) (nthZ zs i0) (nthZ zs i1) (nthZ zs i2) (nthZ zs i3) (nthZ zs i4) (nthZ zs i5) (nthZ zs i6) := Iff.rfl
theorem s_kx {a0 i0 i1 : Nat} : SnOk fs zs (1170, [1, a0, i0, i1], []) ↔ eKx (nthF fs a0) (nthZ zs i0) (nthZ zs i1) := Iff.rfl
theorem s_nm0 {a0 i0 i1 i2 : Nat} : SnOk fs zs (1166, [1, a0, i0, i1, i2], []) ↔ eNm0 (nthF fs a0) (nthZ zs i0) (nthZ zs i1) (nthZ zs i2) := Iff.rfl
theorem s_nmf {a0 a1 i0 i1 i2 i3 : Nat} : SnOk fs zs (1164, [2, a0, a1, i0, i1, i2, i3], []) ↔ eNmf (nthF fs a0) (nthF fs a1) (nthZ zs i0) (nthZ zs i1) (nthZ zs i2) (nthZ zs i3) := Iff.rfl
theorem s_nvl {a0 a1 i0 i1 i2 i3 i4 i5 i6 : Nat} : SnOk fs zs (1165, [2, a0, a1, i0, i1, i2, i3, i4, i5, i6], []) ↔ eNvl (nthF fs a0) (nthF fs a1) (nthZ zs i0) (nthZ zs i1) (nthZ zs i2) (nthZ zs i3) (nthZ zs i4) (nthZ zs i5) (nthZ zs i6) := Iff.rfl
theorem s_mdz {a0 i0 i1 i2 i3 : Nat} : SnOk fs zs (1167, [1, a0, i0, i1, i2, i3], []) ↔ eMdz (nthF fs a0) (nthZ zs i0) (nthZ zs i1) (nthZ zs i2) (nthZ zs i3) := Iff.rfl
theorem s_vx {a0 i0 i1 i2 : Nat} : SnOk fs zs (1168, [1, a0, i0, i1, i2], []) ↔ eVx (nthF fs a0) (nthZ zs i0) (nthZ zs i1) (nthZ zs i2) := Iff.rfl
theorem s_mvn {i0 i1 i2 : Nat} : SnOk fs zs (1169, [0, i0, i1, i2], []) ↔ eMvn (nthZ zs i0) (nthZ zs i1) (nthZ zs i2) := Iff.rfl
theorem s_lcn {a0 i0 i1 : Nat} : SnOk fs zs (1123, [1, a0, i0, i1], []) ↔ eLcn (nthF fs a0) (nthZ zs i0) (nthZ zs i1) := Iff.rfl
theorem s_csn {a0 i0 i1 : Nat} : SnOk fs zs (1124, [1, a0, i0, i1], []) ↔ eCsn (nthF fs a0) (nthZ zs i0) (nthZ zs i1) := Iff.rfl
end
def q_it0 : qRl := ([sp 1 [(0, 1)], sp (-1) [(0, (-1))], sp 1 [(1, 1)], sp (-1) [(1, (-1))]], [(1135, [1, 0, 0, 1], [])])
theorem q_it0_ok : RlOk q_it0 := by
  intro fs zs h x hx
  obtain ⟨H0, h⟩ := snAll h
  replace H0 := sp_1.mp H0
  obtain ⟨H1, h⟩ := snAll h
  replace H1 := sp_1.mp H1
  obtain ⟨H2, h⟩ := snAll h
  replace H2 := sp_1.mp H2
  obtain ⟨H3, h⟩ := snAll h
  replace H3 := sp_1.mp H3
  have L := L_it0 (F0 := nthF fs 0) (N0 := nthZ zs 0) (N1 := nthZ zs 1) (by omega) (by omega) (by omega) (by omega)
  rcases List.mem_cons.mp hx with hx | hx
  · rw [hx]; refine s_itm.mpr ?_; exact L
  · cases hx
def q_it1 : qRl := ([sp (-1048576) [(0, 1)], sp 1048576 [(1, 1), (0, (-1))], sp (-1048576) [(0, 1), (1, (-1))]], [(1135, [1, 0, 0, 1], [])])
theorem q_it1_ok : RlOk q_it1 := by
  intro fs zs h x hx
  obtain ⟨H0, h⟩ := snAll h
  replace H0 := sp_1.mp H0
  obtain ⟨H1, h⟩ := snAll h
  replace H1 := sp_2.mp H1
  obtain ⟨H2, h⟩ := snAll h
  replace H2 := sp_2.mp H2
  have L := L_it1 (F0 := nthF fs 0) (N0 := nthZ zs 0) (N1 := nthZ zs 1) (by omega) (by omega) (by omega)
  rcases List.mem_cons.mp hx with hx | hx
  · rw [hx]; refine s_itm.mpr ?_; exact L
  · cases hx
def q_it2 : qRl := ([sp 0 [(0, 1)], sp 1048575 [(0, (-1))], (1, [0, 0, 2], []), sp 0 [(1, 1), (2, (-1))], sp 0 [(2, 1), (1, (-1))]], [(1135, [1, 0, 0, 1], [])])
theorem q_it2_ok : RlOk q_it2 := by
  intro fs zs h x hx
  obtain ⟨H0, h⟩ := snAll h
  replace H0 := sp_1.mp H0
  obtain ⟨H1, h⟩ := snAll h
  replace H1 := sp_1.mp H1
  obtain ⟨H2, h⟩ := snAll h
  replace H2 := s_rd.mp H2
  obtain ⟨H3, h⟩ := snAll h
  replace H3 := sp_2.mp H3
  obtain ⟨H4, h⟩ := snAll h
  replace H4 := sp_2.mp H4
  have L := L_it2 (F0 := nthF fs 0) (N0 := nthZ zs 0) (N1 := nthZ zs 1) (N2 := nthZ zs 2) (by omega) (by omega) H2 (by omega) (by omega)
  rcases List.mem_cons.mp hx with hx | hx
  · rw [hx]; refine s_itm.mpr ?_; exact L
  · cases hx
def q_okI : qRl := ([(1135, [1, 0, 2, 3], []), sp 0 [(2, 1), (0, (-1))], sp 0 [(0, 1), (2, (-1))], sp 0 [(3, 1)], sp 0 []], [(1136, [1, 0, 0, 1], [])])
theorem q_okI_ok : RlOk q_okI := by
  intro fs zs h x hx
  obtain ⟨H0, h⟩ := snAll h
  replace H0 := s_itm.mp H0
  obtain ⟨H1, h⟩ := snAll h
  replace H1 := sp_2.mp H1
  obtain ⟨H2, h⟩ := snAll h
  replace H2 := sp_2.mp H2
  obtain ⟨H3, h⟩ := snAll h
  replace H3 := sp_1.mp H3
  obtain ⟨H4, h⟩ := snAll h
  replace H4 := sp_0.mp H4
  have L := L_okI (F0 := nthF fs 0) (N0 := nthZ zs 0) (N1 := nthZ zs 1) (N2 := nthZ zs 2) (N3 := nthZ zs 3) H0 (by omega) (by omega) (by omega) (by omega)
  rcases List.mem_cons.mp hx with hx | hx
  · rw [hx]; refine s_okp.mpr ?_; exact L
  · cases hx
def q_okE : qRl := ([sp (-1) [(1, 1)], sp 0 []], [(1136, [1, 0, 0, 1], [])])
theorem q_okE_ok : RlOk q_okE := by
  intro fs zs h x hx
  obtain ⟨H0, h⟩ := snAll h
  replace H0 := sp_1.mp H0
  obtain ⟨H1, h⟩ := snAll h
  replace H1 := sp_0.mp H1
  have L := L_okE (F0 := nthF fs 0) (N0 := nthZ zs 0) (N1 := nthZ zs 1) (by omega) (by omega)
  rcases List.mem_cons.mp hx with hx | hx
  · rw [hx]; refine s_okp.mpr ?_; exact L
  · cases hx
def q_okU : qRl := ([(1135, [1, 0, 0, 1], []), sp 0 [(2, 1)], sp 0 [(2, (-1))], (1136, [1, 0, 0, 2], [])], [sp 0 [(1, 1)]])
theorem q_okU_ok : RlOk q_okU := by
  intro fs zs h x hx
  obtain ⟨H0, h⟩ := snAll h
  replace H0 := s_itm.mp H0
  obtain ⟨H1, h⟩ := snAll h
  replace H1 := sp_1.mp H1
  obtain ⟨H2, h⟩ := snAll h
  replace H2 := sp_1.mp H2
  obtain ⟨H3, h⟩ := snAll h
  replace H3 := s_okp.mp H3
  have L := L_okU (F0 := nthF fs 0) (N0 := nthZ zs 0) (N1 := nthZ zs 1) (N2 := nthZ zs 2) H0 (by omega) H3
  rcases List.mem_cons.mp hx with hx | hx
  · rw [hx]; refine sp_1.mpr ?_; omega
  · cases hx
def q_nwI : qRl := ([(1, [0, 0, 2], []), sp 0 [(3, 1)], sp 0 [(3, (-1))], (1136, [1, 1, 2, 3], []), sp 0 []], [(1137, [2, 0, 1, 0, 1], [])])
theorem q_nwI_ok : RlOk q_nwI := by
  intro fs zs h x hx
  obtain ⟨H0, h⟩ := snAll h
  replace H0 := s_rd.mp H0
  obtain ⟨H1, h⟩ := snAll h
  replace H1 := sp_1.mp H1
  obtain ⟨H2, h⟩ := snAll h
  replace H2 := sp_1.mp H2
  obtain ⟨H3, h⟩ := snAll h
  replace H3 := s_okp.mp H3
  obtain ⟨H4, h⟩ := snAll h
  replace H4 := sp_0.mp H4
  have L := L_nwI (F0 := nthF fs 0) (F1 := nthF fs 1) (N0 := nthZ zs 0) (N1 := nthZ zs 1) (N2 := nthZ zs 2) (N3 := nthZ zs 3) H0 (by omega) H3 (by omega)
  rcases List.mem_cons.mp hx with hx | hx
  · rw [hx]; refine s_nrw.mpr ?_; exact L
  · cases hx
def q_nwE : qRl := ([sp (-1) [(1, 1)], sp 0 []], [(1137, [2, 0, 1, 0, 1], [])])
theorem q_nwE_ok : RlOk q_nwE := by
  intro fs zs h x hx
  obtain ⟨H0, h⟩ := snAll h
  replace H0 := sp_1.mp H0
  obtain ⟨H1, h⟩ := snAll h
  replace H1 := sp_0.mp H1
  have L := L_nwE (F0 := nthF fs 0) (F1 := nthF fs 1) (N0 := nthZ zs 0) (N1 := nthZ zs 1) (by omega) (by omega)
  rcases List.mem_cons.mp hx with hx | hx
  · rw [hx]; refine s_nrw.mpr ?_; exact L
  · cases hx
def q_nwU : qRl := ([(1137, [2, 0, 1, 2, 3], []), sp 0 [(3, (-1))], (1, [0, 2, 4], []), sp 0 [(4, 1), (0, (-1))], sp 0 [(0, 1), (4, (-1))], sp 0 []], [(1136, [1, 1, 0, 1], [])])
theorem q_nwU_ok : RlOk q_nwU := by
  intro fs zs h x hx
  obtain ⟨H0, h⟩ := snAll h
  replace H0 := s_nrw.mp H0
  obtain ⟨H1, h⟩ := snAll h
  replace H1 := sp_1.mp H1
  obtain ⟨H2, h⟩ := snAll h
  replace H2 := s_rd.mp H2
  obtain ⟨H3, h⟩ := snAll h
  replace H3 := sp_2.mp H3
  obtain ⟨H4, h⟩ := snAll h
  replace H4 := sp_2.mp H4
  obtain ⟨H5, h⟩ := snAll h
  replace H5 := sp_0.mp H5
  have L := L_nwU (F0 := nthF fs 0) (F1 := nthF fs 1) (N0 := nthZ zs 0) (N1 := nthZ zs 1) (N2 := nthZ zs 2) (N3 := nthZ zs 3) (N4 := nthZ zs 4) H0 (by omega) H2 (by omega) (by omega) (by omega)
  rcases List.mem_cons.mp hx with hx | hx
  · rw [hx]; refine s_okp.mpr ?_; exact L
  · cases hx
def q_spk0 : qRl := ([sp 0 [(0, (-1))], sp 0 []], [(1138, [3, 0, 1, 2, 0, 1], [])])
theorem q_spk0_ok : RlOk q_spk0 := by
  intro fs zs h x hx
  obtain ⟨H0, h⟩ := snAll h
  replace H0 := sp_1.mp H0
  obtain ⟨H1, h⟩ := snAll h
  replace H1 := sp_0.mp H1
  have L := L_spk0 (F0 := nthF fs 0) (F1 := nthF fs 1) (F2 := nthF fs 2) (N0 := nthZ zs 0) (N1 := nthZ zs 1) (by omega) (by omega)
  rcases List.mem_cons.mp hx with hx | hx
  · rw [hx]; refine s_spk.mpr ?_; exact L
  · cases hx
def q_spkE : qRl := ([sp (-1) [(1, 1)], sp 0 []], [(1138, [3, 0, 1, 2, 0, 1], [])])
theorem q_spkE_ok : RlOk q_spkE := by
  intro fs zs h x hx
  obtain ⟨H0, h⟩ := snAll h
  replace H0 := sp_1.mp H0
  obtain ⟨H1, h⟩ := snAll h
  replace H1 := sp_0.mp H1
  have L := L_spkE (F0 := nthF fs 0) (F1 := nthF fs 1) (F2 := nthF fs 2) (N0 := nthZ zs 0) (N1 := nthZ zs 1) (by omega) (by omega)
  rcases List.mem_cons.mp hx with hx | hx
  · rw [hx]; refine s_spk.mpr ?_; exact L
  · cases hx
def q_spkX : qRl := ([sp 1 [(2, 1), (0, (-1))], sp (-1) [(2, (-1)), (0, 1)], (1138, [3, 0, 1, 2, 2, 3], []), sp 0 [(3, (-1))], (1, [0, 2, 4], []), (1135, [1, 2, 5, 6], []), sp 0 [(5, 1), (4, (-1))], sp 0 [(4, 1), (5, (-1))], sp 0 [(6, 1)], (1, [1, 2, 7], []), (1135, [1, 2, 8, 9], []), sp 0 [(8, 1), (7, (-1))], sp 0 [(7, 1), (8, (-1))], sp 0 [(9, 1)], sp 0 []], [(1138, [3, 0, 1, 2, 0, 1], [])])
theorem q_spkX_ok : RlOk q_spkX := by
  intro fs zs h x hx
  obtain ⟨H0, h⟩ := snAll h
  replace H0 := sp_2.mp H0
  obtain ⟨H1, h⟩ := snAll h
  replace H1 := sp_2.mp H1
  obtain ⟨H2, h⟩ := snAll h
  replace H2 := s_spk.mp H2
  obtain ⟨H3, h⟩ := snAll h
  replace H3 := sp_1.mp H3
  obtain ⟨H4, h⟩ := snAll h
  replace H4 := s_rd.mp H4
  obtain ⟨H5, h⟩ := snAll h
  replace H5 := s_itm.mp H5
  obtain ⟨H6, h⟩ := snAll h
  replace H6 := sp_2.mp H6
  obtain ⟨H7, h⟩ := snAll h
  replace H7 := sp_2.mp H7
  obtain ⟨H8, h⟩ := snAll h
  replace H8 := sp_1.mp H8
  obtain ⟨H9, h⟩ := snAll h
  replace H9 := s_rd.mp H9
  obtain ⟨H10, h⟩ := snAll h
  replace H10 := s_itm.mp H10
  obtain ⟨H11, h⟩ := snAll h
  replace H11 := sp_2.mp H11
  obtain ⟨H12, h⟩ := snAll h
  replace H12 := sp_2.mp H12
  obtain ⟨H13, h⟩ := snAll h
  replace H13 := sp_1.mp H13
  obtain ⟨H14, h⟩ := snAll h
  replace H14 := sp_0.mp H14
  have L := L_spkX (F0 := nthF fs 0) (F1 := nthF fs 1) (F2 := nthF fs 2) (N0 := nthZ zs 0) (N1 := nthZ zs 1) (N2 := nthZ zs 2) (N3 := nthZ zs 3) (N4 := nthZ zs 4) (N5 := nthZ zs 5) (N6 := nthZ zs 6) (N7 := nthZ zs 7) (N8 := nthZ zs 8) (N9 := nthZ zs 9) (by omega) H2 (by omega) H4 H5 (by omega) (by omega) (by omega) H9 H10 (by omega) (by omega) (by omega) (by omega)
  rcases List.mem_cons.mp hx with hx | hx
  · rw [hx]; refine s_spk.mpr ?_; exact L
  · cases hx
def q_ia : qRl := ([(1, [1, 1, 3], []), sp 0 [(4, 1), (0, (-4)), (3, (-1))], sp 0 [(4, (-1)), (0, 4), (3, 1)], (1, [0, 4, 5], []), (1, [2, 1, 6], []), sp (-4194304) [(2, 1), (5, (-1)), (6, (-1))], sp 4194304 [(5, 1), (6, 1), (2, (-1))]], [(1146, [3, 0, 1, 2, 0, 1, 2], [])])
theorem q_ia_ok : RlOk q_ia := by
  intro fs zs h x hx
  obtain ⟨H0, h⟩ := snAll h
  replace H0 := s_rd.mp H0
  obtain ⟨H1, h⟩ := snAll h
  replace H1 := sp_3.mp H1
  obtain ⟨H2, h⟩ := snAll h
  replace H2 := sp_3.mp H2
  obtain ⟨H3, h⟩ := snAll h
  replace H3 := s_rd.mp H3
  obtain ⟨H4, h⟩ := snAll h
  replace H4 := s_rd.mp H4
  obtain ⟨H5, h⟩ := snAll h
  replace H5 := sp_3.mp H5
  obtain ⟨H6, h⟩ := snAll h
  replace H6 := sp_3.mp H6
  have L := L_ia (F0 := nthF fs 0) (F1 := nthF fs 1) (F2 := nthF fs 2) (N0 := nthZ zs 0) (N1 := nthZ zs 1) (N2 := nthZ zs 2) (N3 := nthZ zs 3) (N4 := nthZ zs 4) (N5 := nthZ zs 5) (N6 := nthZ zs 6) H0 (by omega) H3 H4 (by omega) (by omega)
  rcases List.mem_cons.mp hx with hx | hx
  · rw [hx]; refine s_ia.mpr ?_; exact L
  · cases hx
def q_wiI : qRl := ([(1, [0, 0, 2], []), sp 0 [(2, 1), (1, (-1))], sp 0 [(1, 1), (2, (-1))]], [(1153, [1, 0, 0, 1], [])])
theorem q_wiI_ok : RlOk q_wiI := by
  intro fs zs h x hx
  obtain ⟨H0, h⟩ := snAll h
  replace H0 := s_rd.mp H0
  obtain ⟨H1, h⟩ := snAll h
  replace H1 := sp_2.mp H1
  obtain ⟨H2, h⟩ := snAll h
  replace H2 := sp_2.mp H2
  have L := L_wiI (F0 := nthF fs 0) (N0 := nthZ zs 0) (N1 := nthZ zs 1) (N2 := nthZ zs 2) H0 (by omega) (by omega)
  rcases List.mem_cons.mp hx with hx | hx
  · rw [hx]; refine s_wai.mpr ?_; exact L
  · cases hx
def q_ndI : qRl := ([(1, [1, 1, 2], []), sp 0 [(3, 1), (0, (-4)), (2, (-1))], sp 0 [(3, (-1)), (0, 4), (2, 1)], (1, [0, 3, 4], []), sp (-1) [(4, 1)]], [(1154, [2, 0, 1, 0, 1], [])])
theorem q_ndI_ok : RlOk q_ndI := by
  intro fs zs h x hx
  obtain ⟨H0, h⟩ := snAll h
  replace H0 := s_rd.mp H0
  obtain ⟨H1, h⟩ := snAll h
  replace H1 := sp_3.mp H1
  obtain ⟨H2, h⟩ := snAll h
  replace H2 := sp_3.mp H2
  obtain ⟨H3, h⟩ := snAll h
  replace H3 := s_rd.mp H3
  obtain ⟨H4, h⟩ := snAll h
  replace H4 := sp_1.mp H4
  have L := L_ndI (F0 := nthF fs 0) (F1 := nthF fs 1) (N0 := nthZ zs 0) (N1 := nthZ zs 1) (N2 := nthZ zs 2) (N3 := nthZ zs 3) (N4 := nthZ zs 4) H0 (by omega) H3 (by omega)
  rcases List.mem_cons.mp hx with hx | hx
  · rw [hx]; refine s_ndd.mpr ?_; exact L
  · cases hx
def q_wu0 : qRl := ([sp 0 [(1, (-1))], sp 0 []], [(1155, [1, 0, 0, 1], [])])
theorem q_wu0_ok : RlOk q_wu0 := by
  intro fs zs h x hx
  obtain ⟨H0, h⟩ := snAll h
  replace H0 := sp_1.mp H0
  obtain ⟨H1, h⟩ := snAll h
  replace H1 := sp_0.mp H1
  have L := L_wu0 (F0 := nthF fs 0) (N0 := nthZ zs 0) (N1 := nthZ zs 1) (by omega) (by omega)
  rcases List.mem_cons.mp hx with hx | hx
  · rw [hx]; refine s_wul.mpr ?_; exact L
  · cases hx
def q_wu1 : qRl := ([(1, [0, 1, 2], []), sp 0 [(0, 1), (2, (-1))]], [(1155, [1, 0, 0, 1], [])])
theorem q_wu1_ok : RlOk q_wu1 := by
  intro fs zs h x hx
  obtain ⟨H0, h⟩ := snAll h
  replace H0 := s_rd.mp H0
  obtain ⟨H1, h⟩ := snAll h
  replace H1 := sp_2.mp H1
  have L := L_wu1 (F0 := nthF fs 0) (N0 := nthZ zs 0) (N1 := nthZ zs 1) (N2 := nthZ zs 2) H0 (by omega)
  rcases List.mem_cons.mp hx with hx | hx
  · rw [hx]; refine s_wul.mpr ?_; exact L
  · cases hx
def q_wuX : qRl := ([(1155, [1, 0, 0, 1], []), sp (-1) [(3, 1), (1, (-1))], sp 1 [(3, (-1)), (1, 1)], (1, [0, 3, 4], []), sp (-1) [(4, 1), (0, (-1))], sp 0 []], [(1147, [1, 0, 0, 1, 2], [])])
theorem q_wuX_ok : RlOk q_wuX := by
  intro fs zs h x hx
  obtain ⟨H0, h⟩ := snAll h
  replace H0 := s_wul.mp H0
  obtain ⟨H1, h⟩ := snAll h
  replace H1 := sp_2.mp H1
  obtain ⟨H2, h⟩ := snAll h
  replace H2 := sp_2.mp H2
  obtain ⟨H3, h⟩ := snAll h
  replace H3 := s_rd.mp H3
  obtain ⟨H4, h⟩ := snAll h
  replace H4 := sp_2.mp H4
  obtain ⟨H5, h⟩ := snAll h
  replace H5 := sp_0.mp H5
  have L := L_wuX (F0 := nthF fs 0) (N0 := nthZ zs 0) (N1 := nthZ zs 1) (N2 := nthZ zs 2) (N3 := nthZ zs 3) (N4 := nthZ zs 4) H0 (by omega) H3 (by omega) (by omega)
  rcases List.mem_cons.mp hx with hx | hx
  · rw [hx]; refine s_wu.mpr ?_; exact L
  · cases hx
def q_bs0 : qRl := ([sp 0 [(2, (-1))], sp 0 [(3, 1), (0, (-1))], sp 0 []], [(1149, [1, 0, 0, 1, 2, 3], [])])
theorem q_bs0_ok : RlOk q_bs0 := by
  intro fs zs h x hx
  obtain ⟨H0, h⟩ := snAll h
  replace H0 := sp_1.mp H0
  obtain ⟨H1, h⟩ := snAll h
  replace H1 := sp_2.mp H1
  obtain ⟨H2, h⟩ := snAll h
  replace H2 := sp_0.mp H2
  have L := L_bs0 (F0 := nthF fs 0) (N0 := nthZ zs 0) (N1 := nthZ zs 1) (N2 := nthZ zs 2) (N3 := nthZ zs 3) (by omega) (by omega) (by omega)
  rcases List.mem_cons.mp hx with hx | hx
  · rw [hx]; refine s_bs.mpr ?_; exact L
  · cases hx
def q_bsL : qRl := ([sp 1 [(4, 1), (2, (-1))], sp (-1) [(4, (-1)), (2, 1)], (1149, [1, 0, 0, 1, 5, 3], []), (1, [0, 4, 6], []), sp (-1) [(1, 1), (6, (-1))], sp 0 [(4, 1)], sp (-1) [(0, 1), (4, (-1))]], [(1149, [1, 0, 0, 1, 2, 3], [])])
theorem q_bsL_ok : RlOk q_bsL := by
  intro fs zs h x hx
  obtain ⟨H0, h⟩ := snAll h
  replace H0 := sp_2.mp H0
  obtain ⟨H1, h⟩ := snAll h
  replace H1 := sp_2.mp H1
  obtain ⟨H2, h⟩ := snAll h
  replace H2 := s_bs.mp H2
  obtain ⟨H3, h⟩ := snAll h
  replace H3 := s_rd.mp H3
  obtain ⟨H4, h⟩ := snAll h
  replace H4 := sp_2.mp H4
  obtain ⟨H5, h⟩ := snAll h
  replace H5 := sp_1.mp H5
  obtain ⟨H6, h⟩ := snAll h
  replace H6 := sp_2.mp H6
  have L := L_bsL (F0 := nthF fs 0) (N0 := nthZ zs 0) (N1 := nthZ zs 1) (N2 := nthZ zs 2) (N3 := nthZ zs 3) (N4 := nthZ zs 4) (N5 := nthZ zs 5) (N6 := nthZ zs 6) (by omega) H2 H3 (by omega) (by omega) (by omega)
  rcases List.mem_cons.mp hx with hx | hx
  · rw [hx]; refine s_bs.mpr ?_; exact L
  · cases hx
def q_bsH : qRl := ([(1149, [1, 0, 0, 1, 2, 4], []), (1, [0, 3, 5], []), sp 0 [(5, 1), (1, (-1))], sp 0 [(3, 1)]], [(1149, [1, 0, 0, 1, 2, 3], [])])
theorem q_bsH_ok : RlOk q_bsH := by
  intro fs zs h x hx
  obtain ⟨H0, h⟩ := snAll h
  replace H0 := s_bs.mp H0
  obtain ⟨H1, h⟩ := snAll h
  replace H1 := s_rd.mp H1
  obtain ⟨H2, h⟩ := snAll h
  replace H2 := sp_2.mp H2
  obtain ⟨H3, h⟩ := snAll h
  replace H3 := sp_1.mp H3
  have L := L_bsH (F0 := nthF fs 0) (N0 := nthZ zs 0) (N1 := nthZ zs 1) (N2 := nthZ zs 2) (N3 := nthZ zs 3) (N4 := nthZ zs 4) (N5 := nthZ zs 5) H0 H1 (by omega) (by omega)
  rcases List.mem_cons.mp hx with hx | hx
  · rw [hx]; refine s_bs.mpr ?_; exact L
  · cases hx
def q_atA : qRl := ([sp 0 [(2, 1)], sp 0 [], sp 0 []], [(1148, [1, 0, 0, 1, 2], [])])
theorem q_atA_ok : RlOk q_atA := by
  intro fs zs h x hx
  obtain ⟨H0, h⟩ := snAll h
  replace H0 := sp_1.mp H0
  obtain ⟨H1, h⟩ := snAll h
  replace H1 := sp_0.mp H1
  obtain ⟨H2, h⟩ := snAll h
  replace H2 := sp_0.mp H2
  have L := L_atA (F0 := nthF fs 0) (N0 := nthZ zs 0) (N1 := nthZ zs 1) (N2 := nthZ zs 2) (by omega) (by omega) (by omega)
  rcases List.mem_cons.mp hx with hx | hx
  · rw [hx]; refine s_atx.mpr ?_; exact L
  · cases hx
def q_atB : qRl := ([(1149, [1, 0, 0, 1, 3, 4], []), sp 0 [(3, 1), (0, (-1))], sp 0 []], [(1148, [1, 0, 0, 1, 2], [])])
theorem q_atB_ok : RlOk q_atB := by
  intro fs zs h x hx
  obtain ⟨H0, h⟩ := snAll h
  replace H0 := s_bs.mp H0
  obtain ⟨H1, h⟩ := snAll h
  replace H1 := sp_2.mp H1
  obtain ⟨H2, h⟩ := snAll h
  replace H2 := sp_0.mp H2
  have L := L_atB (F0 := nthF fs 0) (N0 := nthZ zs 0) (N1 := nthZ zs 1) (N2 := nthZ zs 2) (N3 := nthZ zs 3) (N4 := nthZ zs 4) H0 (by omega) (by omega)
  rcases List.mem_cons.mp hx with hx | hx
  · rw [hx]; refine s_atx.mpr ?_; exact L
  · cases hx
def q_atC0 : qRl := ([(1149, [1, 0, 0, 1, 3, 4], []), sp 0 [(3, 1), (4, (-1))], sp 0 [(3, 1)], (1, [0, 3, 5], []), sp (-1) [(5, 1), (1, (-1))], sp 0 []], [(1148, [1, 0, 0, 1, 2], [])])
theorem q_atC0_ok : RlOk q_atC0 := by
  intro fs zs h x hx
  obtain ⟨H0, h⟩ := snAll h
  replace H0 := s_bs.mp H0
  obtain ⟨H1, h⟩ := snAll h
  replace H1 := sp_2.mp H1
  obtain ⟨H2, h⟩ := snAll h
  replace H2 := sp_1.mp H2
  obtain ⟨H3, h⟩ := snAll h
  replace H3 := s_rd.mp H3
  obtain ⟨H4, h⟩ := snAll h
  replace H4 := sp_2.mp H4
  obtain ⟨H5, h⟩ := snAll h
  replace H5 := sp_0.mp H5
  have L := L_atC0 (F0 := nthF fs 0) (N0 := nthZ zs 0) (N1 := nthZ zs 1) (N2 := nthZ zs 2) (N3 := nthZ zs 3) (N4 := nthZ zs 4) (N5 := nthZ zs 5) H0 (by omega) (by omega) H3 (by omega) (by omega)
  rcases List.mem_cons.mp hx with hx | hx
  · rw [hx]; refine s_atx.mpr ?_; exact L
  · cases hx
def q_atC1 : qRl := ([(1149, [1, 0, 0, 1, 3, 4], []), sp 0 [(3, 1), (4, (-1))], sp 0 [(3, 1)], (1, [0, 3, 5], []), sp (-1) [(1, 1), (5, (-1))], sp 0 []], [(1148, [1, 0, 0, 1, 2], [])])
theorem q_atC1_ok : RlOk q_atC1 := by
  intro fs zs h x hx
  obtain ⟨H0, h⟩ := snAll h
  replace H0 := s_bs.mp H0
  obtain ⟨H1, h⟩ := snAll h
  replace H1 := sp_2.mp H1
  obtain ⟨H2, h⟩ := snAll h
  replace H2 := sp_1.mp H2
  obtain ⟨H3, h⟩ := snAll h
  replace H3 := s_rd.mp H3
  obtain ⟨H4, h⟩ := snAll h
  replace H4 := sp_2.mp H4
  obtain ⟨H5, h⟩ := snAll h
  replace H5 := sp_0.mp H5
  have L := L_atC1 (F0 := nthF fs 0) (N0 := nthZ zs 0) (N1 := nthZ zs 1) (N2 := nthZ zs 2) (N3 := nthZ zs 3) (N4 := nthZ zs 4) (N5 := nthZ zs 5) H0 (by omega) (by omega) H3 (by omega) (by omega)
  rcases List.mem_cons.mp hx with hx | hx
  · rw [hx]; refine s_atx.mpr ?_; exact L
  · cases hx
def q_inI : qRl := ([(1, [2, 0, 3], []), (1, [1, 3, 4], []), sp 0 [(5, 1), (1, (-4)), (4, (-1))], sp 0 [(5, (-1)), (1, 4), (4, 1)], (1, [0, 5, 6], []), sp (-1) [(6, 1)], (1, [3, 0, 7], []), sp (-2) [(7, 1)], sp 0 []], [(1157, [4, 0, 1, 2, 3, 0, 1, 2], [])])
theorem q_inI_ok : RlOk q_inI := by
  intro fs zs h x hx
  obtain ⟨H0, h⟩ := snAll h
  replace H0 := s_rd.mp H0
  obtain ⟨H1, h⟩ := snAll h
  replace H1 := s_rd.mp H1
  obtain ⟨H2, h⟩ := snAll h
  replace H2 := sp_3.mp H2
  obtain ⟨H3, h⟩ := snAll h
  replace H3 := sp_3.mp H3
  obtain ⟨H4, h⟩ := snAll h
  replace H4 := s_rd.mp H4
  obtain ⟨H5, h⟩ := snAll h
  replace H5 := sp_1.mp H5
  obtain ⟨H6, h⟩ := snAll h
  replace H6 := s_rd.mp H6
  obtain ⟨H7, h⟩ := snAll h
  replace H7 := sp_1.mp H7
  obtain ⟨H8, h⟩ := snAll h
  replace H8 := sp_0.mp H8
  have L := L_inI (F0 := nthF fs 0) (F1 := nthF fs 1) (F2 := nthF fs 2) (F3 := nthF fs 3) (N0 := nthZ zs 0) (N1 := nthZ zs 1) (N2 := nthZ zs 2) (N3 := nthZ zs 3) (N4 := nthZ zs 4) (N5 := nthZ zs 5) (N6 := nthZ zs 6) (N7 := nthZ zs 7) H0 H1 (by omega) H4 (by omega) H6 (by omega) (by omega)
  rcases List.mem_cons.mp hx with hx | hx
  · rw [hx]; refine s_isn.mpr ?_; exact L
  · cases hx
def q_inJ : qRl := ([(1, [2, 0, 3], []), (1, [1, 3, 4], []), sp 0 [(5, 1), (1, (-4)), (4, (-1))], sp 0 [(5, (-1)), (1, 4), (4, 1)], (1, [0, 5, 6], []), sp (-1) [(6, 1)], (1, [3, 0, 7], []), sp 0 [(7, (-1))], sp 0 []], [(1157, [4, 0, 1, 2, 3, 0, 1, 2], [])])
theorem q_inJ_ok : RlOk q_inJ := by
  intro fs zs h x hx
  obtain ⟨H0, h⟩ := snAll h
  replace H0 := s_rd.mp H0
  obtain ⟨H1, h⟩ := snAll h
  replace H1 := s_rd.mp H1
  obtain ⟨H2, h⟩ := snAll h
  replace H2 := sp_3.mp H2
  obtain ⟨H3, h⟩ := snAll h
  replace H3 := sp_3.mp H3
  obtain ⟨H4, h⟩ := snAll h
  replace H4 := s_rd.mp H4
  obtain ⟨H5, h⟩ := snAll h
  replace H5 := sp_1.mp H5
  obtain ⟨H6, h⟩ := snAll h
  replace H6 := s_rd.mp H6
  obtain ⟨H7, h⟩ := snAll h
  replace H7 := sp_1.mp H7
  obtain ⟨H8, h⟩ := snAll h
  replace H8 := sp_0.mp H8
  have L := L_inJ (F0 := nthF fs 0) (F1 := nthF fs 1) (F2 := nthF fs 2) (F3 := nthF fs 3) (N0 := nthZ zs 0) (N1 := nthZ zs 1) (N2 := nthZ zs 2) (N3 := nthZ zs 3) (N4 := nthZ zs 4) (N5 := nthZ zs 5) (N6 := nthZ zs 6) (N7 := nthZ zs 7) H0 H1 (by omega) H4 (by omega) H6 (by omega) (by omega)
  rcases List.mem_cons.mp hx with hx | hx
  · rw [hx]; refine s_isn.mpr ?_; exact L
  · cases hx
def q_inE : qRl := ([sp (-1) [(2, 1)], sp 0 [], sp 0 []], [(1157, [4, 0, 1, 2, 3, 0, 1, 2], [])])
theorem q_inE_ok : RlOk q_inE := by
  intro fs zs h x hx
  obtain ⟨H0, h⟩ := snAll h
  replace H0 := sp_1.mp H0
  obtain ⟨H1, h⟩ := snAll h
  replace H1 := sp_0.mp H1
  obtain ⟨H2, h⟩ := snAll h
  replace H2 := sp_0.mp H2
  have L := L_inE (F0 := nthF fs 0) (F1 := nthF fs 1) (F2 := nthF fs 2) (F3 := nthF fs 3) (N0 := nthZ zs 0) (N1 := nthZ zs 1) (N2 := nthZ zs 2) (by omega) (by omega) (by omega)
  rcases List.mem_cons.mp hx with hx | hx
  · rw [hx]; refine s_isn.mpr ?_; exact L
  · cases hx
def q_bf0 : qRl := ([sp (-1) [(0, 1)], sp 1 [(0, (-1))], sp (-1) [(1, 1)], sp 1 [(1, (-1))], sp (-1) [(2, 1)], sp 1 [(2, (-1))]], [(1158, [0, 0, 1, 2], [])])
theorem q_bf0_ok : RlOk q_bf0 := by
  intro fs zs h x hx
  obtain ⟨H0, h⟩ := snAll h
  replace H0 := sp_1.mp H0
  obtain ⟨H1, h⟩ := snAll h
  replace H1 := sp_1.mp H1
  obtain ⟨H2, h⟩ := snAll h
  replace H2 := sp_1.mp H2
  obtain ⟨H3, h⟩ := snAll h
  replace H3 := sp_1.mp H3
  obtain ⟨H4, h⟩ := snAll h
  replace H4 := sp_1.mp H4
  obtain ⟨H5, h⟩ := snAll h
  replace H5 := sp_1.mp H5
  have L := L_bf0 (N0 := nthZ zs 0) (N1 := nthZ zs 1) (N2 := nthZ zs 2) (by omega) (by omega) (by omega) (by omega) (by omega) (by omega)
  rcases List.mem_cons.mp hx with hx | hx
  · rw [hx]; refine s_bfo.mpr ?_; exact L
  · cases hx
def q_bf1 : qRl := ([sp (-1) [(0, 1)], sp 1 [(0, (-1))], sp 0 [(1, (-1))], sp (-4) [(2, 1)], sp 4 [(2, (-1))]], [(1158, [0, 0, 1, 2], [])])
theorem q_bf1_ok : RlOk q_bf1 := by
  intro fs zs h x hx
  obtain ⟨H0, h⟩ := snAll h
  replace H0 := sp_1.mp H0
  obtain ⟨H1, h⟩ := snAll h
  replace H1 := sp_1.mp H1
  obtain ⟨H2, h⟩ := snAll h
  replace H2 := sp_1.mp H2
  obtain ⟨H3, h⟩ := snAll h
  replace H3 := sp_1.mp H3
  obtain ⟨H4, h⟩ := snAll h
  replace H4 := sp_1.mp H4
  have L := L_bf1 (N0 := nthZ zs 0) (N1 := nthZ zs 1) (N2 := nthZ zs 2) (by omega) (by omega) (by omega) (by omega) (by omega)
  rcases List.mem_cons.mp hx with hx | hx
  · rw [hx]; refine s_bfo.mpr ?_; exact L
  · cases hx
def q_bf2 : qRl := ([sp (-1) [(0, 1)], sp 1 [(0, (-1))], sp (-2) [(1, 1)], sp (-4) [(2, 1)], sp 4 [(2, (-1))]], [(1158, [0, 0, 1, 2], [])])
theorem q_bf2_ok : RlOk q_bf2 := by
  intro fs zs h x hx
  obtain ⟨H0, h⟩ := snAll h
  replace H0 := sp_1.mp H0
  obtain ⟨H1, h⟩ := snAll h
  replace H1 := sp_1.mp H1
  obtain ⟨H2, h⟩ := snAll h
  replace H2 := sp_1.mp H2
  obtain ⟨H3, h⟩ := snAll h
  replace H3 := sp_1.mp H3
  obtain ⟨H4, h⟩ := snAll h
  replace H4 := sp_1.mp H4
  have L := L_bf2 (N0 := nthZ zs 0) (N1 := nthZ zs 1) (N2 := nthZ zs 2) (by omega) (by omega) (by omega) (by omega) (by omega)
  rcases List.mem_cons.mp hx with hx | hx
  · rw [hx]; refine s_bfo.mpr ?_; exact L
  · cases hx
def q_bf3 : qRl := ([sp (-2) [(0, 1)], sp 2 [(0, (-1))], sp 0 [], sp (-1) [(2, 1)], sp 1 [(2, (-1))]], [(1158, [0, 0, 1, 2], [])])
theorem q_bf3_ok : RlOk q_bf3 := by
  intro fs zs h x hx
  obtain ⟨H0, h⟩ := snAll h
  replace H0 := sp_1.mp H0
  obtain ⟨H1, h⟩ := snAll h
  replace H1 := sp_1.mp H1
  obtain ⟨H2, h⟩ := snAll h
  replace H2 := sp_0.mp H2
  obtain ⟨H3, h⟩ := snAll h
  replace H3 := sp_1.mp H3
  obtain ⟨H4, h⟩ := snAll h
  replace H4 := sp_1.mp H4
  have L := L_bf3 (N0 := nthZ zs 0) (N1 := nthZ zs 1) (N2 := nthZ zs 2) (by omega) (by omega) (by omega) (by omega) (by omega)
  rcases List.mem_cons.mp hx with hx | hx
  · rw [hx]; refine s_bfo.mpr ?_; exact L
  · cases hx
def q_bf4 : qRl := ([sp (-6) [(0, 1)], sp 6 [(0, (-1))], sp 0 [], sp (-1) [(2, 1)], sp 1 [(2, (-1))]], [(1158, [0, 0, 1, 2], [])])
theorem q_bf4_ok : RlOk q_bf4 := by
  intro fs zs h x hx
  obtain ⟨H0, h⟩ := snAll h
  replace H0 := sp_1.mp H0
  obtain ⟨H1, h⟩ := snAll h
  replace H1 := sp_1.mp H1
  obtain ⟨H2, h⟩ := snAll h
  replace H2 := sp_0.mp H2
  obtain ⟨H3, h⟩ := snAll h
  replace H3 := sp_1.mp H3
  obtain ⟨H4, h⟩ := snAll h
  replace H4 := sp_1.mp H4
  have L := L_bf4 (N0 := nthZ zs 0) (N1 := nthZ zs 1) (N2 := nthZ zs 2) (by omega) (by omega) (by omega) (by omega) (by omega)
  rcases List.mem_cons.mp hx with hx | hx
  · rw [hx]; refine s_bfo.mpr ?_; exact L
  · cases hx
def q_bf5 : qRl := ([sp (-3) [(0, 1)], sp 3 [(0, (-1))], sp 0 [], sp (-4) [(2, 1)], sp 4 [(2, (-1))]], [(1158, [0, 0, 1, 2], [])])
theorem q_bf5_ok : RlOk q_bf5 := by
  intro fs zs h x hx
  obtain ⟨H0, h⟩ := snAll h
  replace H0 := sp_1.mp H0
  obtain ⟨H1, h⟩ := snAll h
  replace H1 := sp_1.mp H1
  obtain ⟨H2, h⟩ := snAll h
  replace H2 := sp_0.mp H2
  obtain ⟨H3, h⟩ := snAll h
  replace H3 := sp_1.mp H3
  obtain ⟨H4, h⟩ := snAll h
  replace H4 := sp_1.mp H4
  have L := L_bf5 (N0 := nthZ zs 0) (N1 := nthZ zs 1) (N2 := nthZ zs 2) (by omega) (by omega) (by omega) (by omega) (by omega)
  rcases List.mem_cons.mp hx with hx | hx
  · rw [hx]; refine s_bfo.mpr ?_; exact L
  · cases hx
def q_bf6 : qRl := ([sp (-4) [(0, 1)], sp 4 [(0, (-1))], sp 0 [], sp (-8) [(2, 1)], sp 8 [(2, (-1))]], [(1158, [0, 0, 1, 2], [])])
theorem q_bf6_ok : RlOk q_bf6 := by
  intro fs zs h x hx
  obtain ⟨H0, h⟩ := snAll h
  replace H0 := sp_1.mp H0
  obtain ⟨H1, h⟩ := snAll h
  replace H1 := sp_1.mp H1
  obtain ⟨H2, h⟩ := snAll h
  replace H2 := sp_0.mp H2
  obtain ⟨H3, h⟩ := snAll h
  replace H3 := sp_1.mp H3
  obtain ⟨H4, h⟩ := snAll h
  replace H4 := sp_1.mp H4
  have L := L_bf6 (N0 := nthZ zs 0) (N1 := nthZ zs 1) (N2 := nthZ zs 2) (by omega) (by omega) (by omega) (by omega) (by omega)
  rcases List.mem_cons.mp hx with hx | hx
  · rw [hx]; refine s_bfo.mpr ?_; exact L
  · cases hx
def q_bf7 : qRl := ([sp (-5) [(0, 1)], sp 5 [(0, (-1))], sp 0 [], sp (-2) [(2, 1)], sp 2 [(2, (-1))]], [(1158, [0, 0, 1, 2], [])])
theorem q_bf7_ok : RlOk q_bf7 := by
  intro fs zs h x hx
  obtain ⟨H0, h⟩ := snAll h
  replace H0 := sp_1.mp H0
  obtain ⟨H1, h⟩ := snAll h
  replace H1 := sp_1.mp H1
  obtain ⟨H2, h⟩ := snAll h
  replace H2 := sp_0.mp H2
  obtain ⟨H3, h⟩ := snAll h
  replace H3 := sp_1.mp H3
  obtain ⟨H4, h⟩ := snAll h
  replace H4 := sp_1.mp H4
  have L := L_bf7 (N0 := nthZ zs 0) (N1 := nthZ zs 1) (N2 := nthZ zs 2) (by omega) (by omega) (by omega) (by omega) (by omega)
  rcases List.mem_cons.mp hx with hx | hx
  · rw [hx]; refine s_bfo.mpr ?_; exact L
  · cases hx
def q_bf8 : qRl := ([sp 0 [(0, (-1))], sp 0 [], sp 0 [(2, 1)], sp 0 [(2, (-1))]], [(1158, [0, 0, 1, 2], [])])
theorem q_bf8_ok : RlOk q_bf8 := by
  intro fs zs h x hx
  obtain ⟨H0, h⟩ := snAll h
  replace H0 := sp_1.mp H0
  obtain ⟨H1, h⟩ := snAll h
  replace H1 := sp_0.mp H1
  obtain ⟨H2, h⟩ := snAll h
  replace H2 := sp_1.mp H2
  obtain ⟨H3, h⟩ := snAll h
  replace H3 := sp_1.mp H3
  have L := L_bf8 (N0 := nthZ zs 0) (N1 := nthZ zs 1) (N2 := nthZ zs 2) (by omega) (by omega) (by omega) (by omega)
  rcases List.mem_cons.mp hx with hx | hx
  · rw [hx]; refine s_bfo.mpr ?_; exact L
  · cases hx
def q_bf9 : qRl := ([sp (-7) [(0, 1)], sp 0 [], sp 0 [(2, 1)], sp 0 [(2, (-1))]], [(1158, [0, 0, 1, 2], [])])
theorem q_bf9_ok : RlOk q_bf9 := by
  intro fs zs h x hx
  obtain ⟨H0, h⟩ := snAll h
  replace H0 := sp_1.mp H0
  obtain ⟨H1, h⟩ := snAll h
  replace H1 := sp_0.mp H1
  obtain ⟨H2, h⟩ := snAll h
  replace H2 := sp_1.mp H2
  obtain ⟨H3, h⟩ := snAll h
  replace H3 := sp_1.mp H3
  have L := L_bf9 (N0 := nthZ zs 0) (N1 := nthZ zs 1) (N2 := nthZ zs 2) (by omega) (by omega) (by omega) (by omega)
  rcases List.mem_cons.mp hx with hx | hx
  · rw [hx]; refine s_bfo.mpr ?_; exact L
  · cases hx
def q_hfA1 : qRl := ([sp (-1) [(0, 1)], sp 1 [(0, (-1))], sp (-1) [(1, 1)]], [(1159, [0, 0, 1], [])])
theorem q_hfA1_ok : RlOk q_hfA1 := by
  intro fs zs h x hx
  obtain ⟨H0, h⟩ := snAll h
  replace H0 := sp_1.mp H0
  obtain ⟨H1, h⟩ := snAll h
  replace H1 := sp_1.mp H1
  obtain ⟨H2, h⟩ := snAll h
  replace H2 := sp_1.mp H2
  have L := L_hfA1 (N0 := nthZ zs 0) (N1 := nthZ zs 1) (by omega) (by omega) (by omega)
  rcases List.mem_cons.mp hx with hx | hx
  · rw [hx]; refine s_hfo.mpr ?_; exact L
  · cases hx
def q_pfA1 : qRl := ([sp (-1) [(0, 1)], sp 1 [(0, (-1))], sp 0 []], [(1160, [0, 0, 1], [])])
theorem q_pfA1_ok : RlOk q_pfA1 := by
  intro fs zs h x hx
  obtain ⟨H0, h⟩ := snAll h
  replace H0 := sp_1.mp H0
  obtain ⟨H1, h⟩ := snAll h
  replace H1 := sp_1.mp H1
  obtain ⟨H2, h⟩ := snAll h
  replace H2 := sp_0.mp H2
  have L := L_pfA1 (N0 := nthZ zs 0) (N1 := nthZ zs 1) (by omega) (by omega) (by omega)
  rcases List.mem_cons.mp hx with hx | hx
  · rw [hx]; refine s_pfo.mpr ?_; exact L
  · cases hx
def q_hfA2 : qRl := ([sp (-2) [(0, 1)], sp 2 [(0, (-1))], sp (-1) [(1, 1)]], [(1159, [0, 0, 1], [])])
theorem q_hfA2_ok : RlOk q_hfA2 := by
  intro fs zs h x hx
  obtain ⟨H0, h⟩ := snAll h
  replace H0 := sp_1.mp H0
  obtain ⟨H1, h⟩ := snAll h
  replace H1 := sp_1.mp H1
  obtain ⟨H2, h⟩ := snAll h
  replace H2 := sp_1.mp H2
  have L := L_hfA2 (N0 := nthZ zs 0) (N1 := nthZ zs 1) (by omega) (by omega) (by omega)
  rcases List.mem_cons.mp hx with hx | hx
  · rw [hx]; refine s_hfo.mpr ?_; exact L
  · cases hx
def q_pfA2 : qRl := ([sp (-2) [(0, 1)], sp 2 [(0, (-1))], sp 0 []], [(1160, [0, 0, 1], [])])
theorem q_pfA2_ok : RlOk q_pfA2 := by
  intro fs zs h x hx
  obtain ⟨H0, h⟩ := snAll h
  replace H0 := sp_1.mp H0
  obtain ⟨H1, h⟩ := snAll h
  replace H1 := sp_1.mp H1
  obtain ⟨H2, h⟩ := snAll h
  replace H2 := sp_0.mp H2
  have L := L_pfA2 (N0 := nthZ zs 0) (N1 := nthZ zs 1) (by omega) (by omega) (by omega)
  rcases List.mem_cons.mp hx with hx | hx
  · rw [hx]; refine s_pfo.mpr ?_; exact L
  · cases hx
def q_hfA4 : qRl := ([sp (-4) [(0, 1)], sp 4 [(0, (-1))], sp (-1) [(1, 1)]], [(1159, [0, 0, 1], [])])
theorem q_hfA4_ok : RlOk q_hfA4 := by
  intro fs zs h x hx
  obtain ⟨H0, h⟩ := snAll h
  replace H0 := sp_1.mp H0
  obtain ⟨H1, h⟩ := snAll h
  replace H1 := sp_1.mp H1
  obtain ⟨H2, h⟩ := snAll h
  replace H2 := sp_1.mp H2
  have L := L_hfA4 (N0 := nthZ zs 0) (N1 := nthZ zs 1) (by omega) (by omega) (by omega)
  rcases List.mem_cons.mp hx with hx | hx
  · rw [hx]; refine s_hfo.mpr ?_; exact L
  · cases hx
def q_pfA4 : qRl := ([sp (-4) [(0, 1)], sp 4 [(0, (-1))], sp 0 []], [(1160, [0, 0, 1], [])])
theorem q_pfA4_ok : RlOk q_pfA4 := by
  intro fs zs h x hx
  obtain ⟨H0, h⟩ := snAll h
  replace H0 := sp_1.mp H0
  obtain ⟨H1, h⟩ := snAll h
  replace H1 := sp_1.mp H1
  obtain ⟨H2, h⟩ := snAll h
  replace H2 := sp_0.mp H2
  have L := L_pfA4 (N0 := nthZ zs 0) (N1 := nthZ zs 1) (by omega) (by omega) (by omega)
  rcases List.mem_cons.mp hx with hx | hx
  · rw [hx]; refine s_pfo.mpr ?_; exact L
  · cases hx
def q_hfA7 : qRl := ([sp (-7) [(0, 1)], sp 7 [(0, (-1))], sp (-1) [(1, 1)]], [(1159, [0, 0, 1], [])])
theorem q_hfA7_ok : RlOk q_hfA7 := by
  intro fs zs h x hx
  obtain ⟨H0, h⟩ := snAll h
  replace H0 := sp_1.mp H0
  obtain ⟨H1, h⟩ := snAll h
  replace H1 := sp_1.mp H1
  obtain ⟨H2, h⟩ := snAll h
  replace H2 := sp_1.mp H2
  have L := L_hfA7 (N0 := nthZ zs 0) (N1 := nthZ zs 1) (by omega) (by omega) (by omega)
  rcases List.mem_cons.mp hx with hx | hx
  · rw [hx]; refine s_hfo.mpr ?_; exact L
  · cases hx
def q_pfA7 : qRl := ([sp (-7) [(0, 1)], sp 7 [(0, (-1))], sp 0 []], [(1160, [0, 0, 1], [])])
theorem q_pfA7_ok : RlOk q_pfA7 := by
  intro fs zs h x hx
  obtain ⟨H0, h⟩ := snAll h
  replace H0 := sp_1.mp H0
  obtain ⟨H1, h⟩ := snAll h
  replace H1 := sp_1.mp H1
  obtain ⟨H2, h⟩ := snAll h
  replace H2 := sp_0.mp H2
  have L := L_pfA7 (N0 := nthZ zs 0) (N1 := nthZ zs 1) (by omega) (by omega) (by omega)
  rcases List.mem_cons.mp hx with hx | hx
  · rw [hx]; refine s_pfo.mpr ?_; exact L
  · cases hx
def q_hfA8 : qRl := ([sp (-8) [(0, 1)], sp 8 [(0, (-1))], sp (-1) [(1, 1)]], [(1159, [0, 0, 1], [])])
theorem q_hfA8_ok : RlOk q_hfA8 := by
  intro fs zs h x hx
  obtain ⟨H0, h⟩ := snAll h
  replace H0 := sp_1.mp H0
  obtain ⟨H1, h⟩ := snAll h
  replace H1 := sp_1.mp H1
  obtain ⟨H2, h⟩ := snAll h
  replace H2 := sp_1.mp H2
  have L := L_hfA8 (N0 := nthZ zs 0) (N1 := nthZ zs 1) (by omega) (by omega) (by omega)
  rcases List.mem_cons.mp hx with hx | hx
  · rw [hx]; refine s_hfo.mpr ?_; exact L
  · cases hx
def q_pfA8 : qRl := ([sp (-8) [(0, 1)], sp 8 [(0, (-1))], sp 0 []], [(1160, [0, 0, 1], [])])
theorem q_pfA8_ok : RlOk q_pfA8 := by
  intro fs zs h x hx
  obtain ⟨H0, h⟩ := snAll h
  replace H0 := sp_1.mp H0
  obtain ⟨H1, h⟩ := snAll h
  replace H1 := sp_1.mp H1
  obtain ⟨H2, h⟩ := snAll h
  replace H2 := sp_0.mp H2
  have L := L_pfA8 (N0 := nthZ zs 0) (N1 := nthZ zs 1) (by omega) (by omega) (by omega)
  rcases List.mem_cons.mp hx with hx | hx
  · rw [hx]; refine s_pfo.mpr ?_; exact L
  · cases hx
def q_hfA9 : qRl := ([sp (-9) [(0, 1)], sp 9 [(0, (-1))], sp (-1) [(1, 1)]], [(1159, [0, 0, 1], [])])
theorem q_hfA9_ok : RlOk q_hfA9 := by
  intro fs zs h x hx
  obtain ⟨H0, h⟩ := snAll h
  replace H0 := sp_1.mp H0
  obtain ⟨H1, h⟩ := snAll h
  replace H1 := sp_1.mp H1
  obtain ⟨H2, h⟩ := snAll h
  replace H2 := sp_1.mp H2
  have L := L_hfA9 (N0 := nthZ zs 0) (N1 := nthZ zs 1) (by omega) (by omega) (by omega)
  rcases List.mem_cons.mp hx with hx | hx
  · rw [hx]; refine s_hfo.mpr ?_; exact L
  · cases hx
def q_pfA9 : qRl := ([sp (-9) [(0, 1)], sp 9 [(0, (-1))], sp 0 []], [(1160, [0, 0, 1], [])])
theorem q_pfA9_ok : RlOk q_pfA9 := by
  intro fs zs h x hx
  obtain ⟨H0, h⟩ := snAll h
  replace H0 := sp_1.mp H0
  obtain ⟨H1, h⟩ := snAll h
  replace H1 := sp_1.mp H1
  obtain ⟨H2, h⟩ := snAll h
  replace H2 := sp_0.mp H2
  have L := L_pfA9 (N0 := nthZ zs 0) (N1 := nthZ zs 1) (by omega) (by omega) (by omega)
  rcases List.mem_cons.mp hx with hx | hx
  · rw [hx]; refine s_pfo.mpr ?_; exact L
  · cases hx
def q_hfA11 : qRl := ([sp (-11) [(0, 1)], sp 11 [(0, (-1))], sp (-1) [(1, 1)]], [(1159, [0, 0, 1], [])])
theorem q_hfA11_ok : RlOk q_hfA11 := by
  intro fs zs h x hx
  obtain ⟨H0, h⟩ := snAll h
  replace H0 := sp_1.mp H0
  obtain ⟨H1, h⟩ := snAll h
  replace H1 := sp_1.mp H1
  obtain ⟨H2, h⟩ := snAll h
  replace H2 := sp_1.mp H2
  have L := L_hfA11 (N0 := nthZ zs 0) (N1 := nthZ zs 1) (by omega) (by omega) (by omega)
  rcases List.mem_cons.mp hx with hx | hx
  · rw [hx]; refine s_hfo.mpr ?_; exact L
  · cases hx
def q_pfA11 : qRl := ([sp (-11) [(0, 1)], sp 11 [(0, (-1))], sp 0 []], [(1160, [0, 0, 1], [])])
theorem q_pfA11_ok : RlOk q_pfA11 := by
  intro fs zs h x hx
  obtain ⟨H0, h⟩ := snAll h
  replace H0 := sp_1.mp H0
  obtain ⟨H1, h⟩ := snAll h
  replace H1 := sp_1.mp H1
  obtain ⟨H2, h⟩ := snAll h
  replace H2 := sp_0.mp H2
  have L := L_pfA11 (N0 := nthZ zs 0) (N1 := nthZ zs 1) (by omega) (by omega) (by omega)
  rcases List.mem_cons.mp hx with hx | hx
  · rw [hx]; refine s_pfo.mpr ?_; exact L
  · cases hx
def q_hfA12 : qRl := ([sp (-12) [(0, 1)], sp 12 [(0, (-1))], sp (-1) [(1, 1)]], [(1159, [0, 0, 1], [])])
theorem q_hfA12_ok : RlOk q_hfA12 := by
  intro fs zs h x hx
  obtain ⟨H0, h⟩ := snAll h
  replace H0 := sp_1.mp H0
  obtain ⟨H1, h⟩ := snAll h
  replace H1 := sp_1.mp H1
  obtain ⟨H2, h⟩ := snAll h
  replace H2 := sp_1.mp H2
  have L := L_hfA12 (N0 := nthZ zs 0) (N1 := nthZ zs 1) (by omega) (by omega) (by omega)
  rcases List.mem_cons.mp hx with hx | hx
  · rw [hx]; refine s_hfo.mpr ?_; exact L
  · cases hx
def q_pfA12 : qRl := ([sp (-12) [(0, 1)], sp 12 [(0, (-1))], sp 0 []], [(1160, [0, 0, 1], [])])
theorem q_pfA12_ok : RlOk q_pfA12 := by
  intro fs zs h x hx
  obtain ⟨H0, h⟩ := snAll h
  replace H0 := sp_1.mp H0
  obtain ⟨H1, h⟩ := snAll h
  replace H1 := sp_1.mp H1
  obtain ⟨H2, h⟩ := snAll h
  replace H2 := sp_0.mp H2
  have L := L_pfA12 (N0 := nthZ zs 0) (N1 := nthZ zs 1) (by omega) (by omega) (by omega)
  rcases List.mem_cons.mp hx with hx | hx
  · rw [hx]; refine s_pfo.mpr ?_; exact L
  · cases hx
def q_hfB0 : qRl := ([sp 0 [(0, (-1))], sp 0 [(1, (-1))], sp 0 [(1, 1)]], [(1159, [0, 0, 1], [])])
theorem q_hfB0_ok : RlOk q_hfB0 := by
  intro fs zs h x hx
  obtain ⟨H0, h⟩ := snAll h
  replace H0 := sp_1.mp H0
  obtain ⟨H1, h⟩ := snAll h
  replace H1 := sp_1.mp H1
  obtain ⟨H2, h⟩ := snAll h
  replace H2 := sp_1.mp H2
  have L := L_hfB0 (N0 := nthZ zs 0) (N1 := nthZ zs 1) (by omega) (by omega) (by omega)
  rcases List.mem_cons.mp hx with hx | hx
  · rw [hx]; refine s_hfo.mpr ?_; exact L
  · cases hx
def q_hfB1 : qRl := ([sp (-3) [(0, 1)], sp 3 [(0, (-1))], sp 0 [(1, (-1))], sp 0 [(1, 1)]], [(1159, [0, 0, 1], [])])
theorem q_hfB1_ok : RlOk q_hfB1 := by
  intro fs zs h x hx
  obtain ⟨H0, h⟩ := snAll h
  replace H0 := sp_1.mp H0
  obtain ⟨H1, h⟩ := snAll h
  replace H1 := sp_1.mp H1
  obtain ⟨H2, h⟩ := snAll h
  replace H2 := sp_1.mp H2
  obtain ⟨H3, h⟩ := snAll h
  replace H3 := sp_1.mp H3
  have L := L_hfB1 (N0 := nthZ zs 0) (N1 := nthZ zs 1) (by omega) (by omega) (by omega) (by omega)
  rcases List.mem_cons.mp hx with hx | hx
  · rw [hx]; refine s_hfo.mpr ?_; exact L
  · cases hx
def q_hfB2 : qRl := ([sp (-5) [(0, 1)], sp 6 [(0, (-1))], sp 0 [(1, (-1))], sp 0 [(1, 1)]], [(1159, [0, 0, 1], [])])
theorem q_hfB2_ok : RlOk q_hfB2 := by
  intro fs zs h x hx
  obtain ⟨H0, h⟩ := snAll h
  replace H0 := sp_1.mp H0
  obtain ⟨H1, h⟩ := snAll h
  replace H1 := sp_1.mp H1
  obtain ⟨H2, h⟩ := snAll h
  replace H2 := sp_1.mp H2
  obtain ⟨H3, h⟩ := snAll h
  replace H3 := sp_1.mp H3
  have L := L_hfB2 (N0 := nthZ zs 0) (N1 := nthZ zs 1) (by omega) (by omega) (by omega) (by omega)
  rcases List.mem_cons.mp hx with hx | hx
  · rw [hx]; refine s_hfo.mpr ?_; exact L
  · cases hx
def q_hfB3 : qRl := ([sp (-10) [(0, 1)], sp 10 [(0, (-1))], sp 0 [(1, (-1))], sp 0 [(1, 1)]], [(1159, [0, 0, 1], [])])
theorem q_hfB3_ok : RlOk q_hfB3 := by
  intro fs zs h x hx
  obtain ⟨H0, h⟩ := snAll h
  replace H0 := sp_1.mp H0
  obtain ⟨H1, h⟩ := snAll h
  replace H1 := sp_1.mp H1
  obtain ⟨H2, h⟩ := snAll h
  replace H2 := sp_1.mp H2
  obtain ⟨H3, h⟩ := snAll h
  replace H3 := sp_1.mp H3
  have L := L_hfB3 (N0 := nthZ zs 0) (N1 := nthZ zs 1) (by omega) (by omega) (by omega) (by omega)
  rcases List.mem_cons.mp hx with hx | hx
  · rw [hx]; refine s_hfo.mpr ?_; exact L
  · cases hx
def q_hfB4 : qRl := ([sp (-13) [(0, 1)], sp 0 [(1, (-1))], sp 0 [(1, 1)]], [(1159, [0, 0, 1], [])])
theorem q_hfB4_ok : RlOk q_hfB4 := by
  intro fs zs h x hx
  obtain ⟨H0, h⟩ := snAll h
  replace H0 := sp_1.mp H0
  obtain ⟨H1, h⟩ := snAll h
  replace H1 := sp_1.mp H1
  obtain ⟨H2, h⟩ := snAll h
  replace H2 := sp_1.mp H2
  have L := L_hfB4 (N0 := nthZ zs 0) (N1 := nthZ zs 1) (by omega) (by omega) (by omega)
  rcases List.mem_cons.mp hx with hx | hx
  · rw [hx]; refine s_hfo.mpr ?_; exact L
  · cases hx
def q_pfB0 : qRl := ([sp 1 [(1, (-1))], sp 0 []], [(1160, [0, 0, 1], [])])
theorem q_pfB0_ok : RlOk q_pfB0 := by
  intro fs zs h x hx
  obtain ⟨H0, h⟩ := snAll h
  replace H0 := sp_1.mp H0
  obtain ⟨H1, h⟩ := snAll h
  replace H1 := sp_0.mp H1
  have L := L_pfB0 (N0 := nthZ zs 0) (N1 := nthZ zs 1) (by omega) (by omega)
  rcases List.mem_cons.mp hx with hx | hx
  · rw [hx]; refine s_pfo.mpr ?_; exact L
  · cases hx
def q_pfB1 : qRl := ([sp (-3) [(1, 1)], sp 5 [(1, (-1))], sp 0 []], [(1160, [0, 0, 1], [])])
theorem q_pfB1_ok : RlOk q_pfB1 := by
  intro fs zs h x hx
  obtain ⟨H0, h⟩ := snAll h
  replace H0 := sp_1.mp H0
  obtain ⟨H1, h⟩ := snAll h
  replace H1 := sp_1.mp H1
  obtain ⟨H2, h⟩ := snAll h
  replace H2 := sp_0.mp H2
  have L := L_pfB1 (N0 := nthZ zs 0) (N1 := nthZ zs 1) (by omega) (by omega) (by omega)
  rcases List.mem_cons.mp hx with hx | hx
  · rw [hx]; refine s_pfo.mpr ?_; exact L
  · cases hx
def q_pfB2 : qRl := ([sp (-7) [(1, 1)], sp 0 []], [(1160, [0, 0, 1], [])])
theorem q_pfB2_ok : RlOk q_pfB2 := by
  intro fs zs h x hx
  obtain ⟨H0, h⟩ := snAll h
  replace H0 := sp_1.mp H0
  obtain ⟨H1, h⟩ := snAll h
  replace H1 := sp_0.mp H1
  have L := L_pfB2 (N0 := nthZ zs 0) (N1 := nthZ zs 1) (by omega) (by omega)
  rcases List.mem_cons.mp hx with hx | hx
  · rw [hx]; refine s_pfo.mpr ?_; exact L
  · cases hx
def q_suE : qRl := ([sp (-1) [(3, 1)], sp 0 [], sp 0 [], sp 0 [], sp 0 []], [(1161, [2, 0, 1, 0, 1, 2, 3], [])])
theorem q_suE_ok : RlOk q_suE := by
  intro fs zs h x hx
  obtain ⟨H0, h⟩ := snAll h
  replace H0 := sp_1.mp H0
  obtain ⟨H1, h⟩ := snAll h
  replace H1 := sp_0.mp H1
  obtain ⟨H2, h⟩ := snAll h
  replace H2 := sp_0.mp H2
  obtain ⟨H3, h⟩ := snAll h
  replace H3 := sp_0.mp H3
  obtain ⟨H4, h⟩ := snAll h
  replace H4 := sp_0.mp H4
  have L := L_suE (F0 := nthF fs 0) (F1 := nthF fs 1) (N0 := nthZ zs 0) (N1 := nthZ zs 1) (N2 := nthZ zs 2) (N3 := nthZ zs 3) (by omega) (by omega) (by omega) (by omega) (by omega)
  rcases List.mem_cons.mp hx with hx | hx
  · rw [hx]; refine s_sum.mpr ?_; exact L
  · cases hx
def q_su1 : qRl := ([sp 0 [(1, 1), (2, (-1))], sp 0 [], sp 0 [], sp 0 [], sp 0 []], [(1161, [2, 0, 1, 0, 1, 2, 3], [])])
theorem q_su1_ok : RlOk q_su1 := by
  intro fs zs h x hx
  obtain ⟨H0, h⟩ := snAll h
  replace H0 := sp_2.mp H0
  obtain ⟨H1, h⟩ := snAll h
  replace H1 := sp_0.mp H1
  obtain ⟨H2, h⟩ := snAll h
  replace H2 := sp_0.mp H2
  obtain ⟨H3, h⟩ := snAll h
  replace H3 := sp_0.mp H3
  obtain ⟨H4, h⟩ := snAll h
  replace H4 := sp_0.mp H4
  have L := L_su1 (F0 := nthF fs 0) (F1 := nthF fs 1) (N0 := nthZ zs 0) (N1 := nthZ zs 1) (N2 := nthZ zs 2) (N3 := nthZ zs 3) (by omega) (by omega) (by omega) (by omega) (by omega)
  rcases List.mem_cons.mp hx with hx | hx
  · rw [hx]; refine s_sum.mpr ?_; exact L
  · cases hx
def q_su20 : qRl := ([(1, [0, 1, 4], []), sp 1 [(4, (-1))], sp 0 [], sp 0 [], sp 0 [], sp 0 []], [(1161, [2, 0, 1, 0, 1, 2, 3], [])])
theorem q_su20_ok : RlOk q_su20 := by
  intro fs zs h x hx
  obtain ⟨H0, h⟩ := snAll h
  replace H0 := s_rd.mp H0
  obtain ⟨H1, h⟩ := snAll h
  replace H1 := sp_1.mp H1
  obtain ⟨H2, h⟩ := snAll h
  replace H2 := sp_0.mp H2
  obtain ⟨H3, h⟩ := snAll h
  replace H3 := sp_0.mp H3
  obtain ⟨H4, h⟩ := snAll h
  replace H4 := sp_0.mp H4
  obtain ⟨H5, h⟩ := snAll h
  replace H5 := sp_0.mp H5
  have L := L_su20 (F0 := nthF fs 0) (F1 := nthF fs 1) (N0 := nthZ zs 0) (N1 := nthZ zs 1) (N2 := nthZ zs 2) (N3 := nthZ zs 3) (N4 := nthZ zs 4) H0 (by omega) (by omega) (by omega) (by omega) (by omega)
  rcases List.mem_cons.mp hx with hx | hx
  · rw [hx]; refine s_sum.mpr ?_; exact L
  · cases hx
def q_su21 : qRl := ([(1, [0, 1, 4], []), sp (-3) [(4, 1)], sp 0 [], sp 0 [], sp 0 [], sp 0 []], [(1161, [2, 0, 1, 0, 1, 2, 3], [])])
theorem q_su21_ok : RlOk q_su21 := by
  intro fs zs h x hx
  obtain ⟨H0, h⟩ := snAll h
  replace H0 := s_rd.mp H0
  obtain ⟨H1, h⟩ := snAll h
  replace H1 := sp_1.mp H1
  obtain ⟨H2, h⟩ := snAll h
  replace H2 := sp_0.mp H2
  obtain ⟨H3, h⟩ := snAll h
  replace H3 := sp_0.mp H3
  obtain ⟨H4, h⟩ := snAll h
  replace H4 := sp_0.mp H4
  obtain ⟨H5, h⟩ := snAll h
  replace H5 := sp_0.mp H5
  have L := L_su21 (F0 := nthF fs 0) (F1 := nthF fs 1) (N0 := nthZ zs 0) (N1 := nthZ zs 1) (N2 := nthZ zs 2) (N3 := nthZ zs 3) (N4 := nthZ zs 4) H0 (by omega) (by omega) (by omega) (by omega) (by omega)
  rcases List.mem_cons.mp hx with hx | hx
  · rw [hx]; refine s_sum.mpr ?_; exact L
  · cases hx
def q_su32 : qRl := ([(1, [1, 0, 4], []), (1160, [0, 4, 5], []), sp (-2) [(5, 1)], sp 2 [(5, (-1))], sp 0 [], sp 0 [], sp 0 [], sp 0 []], [(1161, [2, 0, 1, 0, 1, 2, 3], [])])
theorem q_su32_ok : RlOk q_su32 := by
  intro fs zs h x hx
  obtain ⟨H0, h⟩ := snAll h
  replace H0 := s_rd.mp H0
  obtain ⟨H1, h⟩ := snAll h
  replace H1 := s_pfo.mp H1
  obtain ⟨H2, h⟩ := snAll h
  replace H2 := sp_1.mp H2
  obtain ⟨H3, h⟩ := snAll h
  replace H3 := sp_1.mp H3
  obtain ⟨H4, h⟩ := snAll h
  replace H4 := sp_0.mp H4
  obtain ⟨H5, h⟩ := snAll h
  replace H5 := sp_0.mp H5
  obtain ⟨H6, h⟩ := snAll h
  replace H6 := sp_0.mp H6
  obtain ⟨H7, h⟩ := snAll h
  replace H7 := sp_0.mp H7
  have L := L_su32 (F0 := nthF fs 0) (F1 := nthF fs 1) (N0 := nthZ zs 0) (N1 := nthZ zs 1) (N2 := nthZ zs 2) (N3 := nthZ zs 3) (N4 := nthZ zs 4) (N5 := nthZ zs 5) H0 H1 (by omega) (by omega) (by omega) (by omega) (by omega) (by omega)
  rcases List.mem_cons.mp hx with hx | hx
  · rw [hx]; refine s_sum.mpr ?_; exact L
  · cases hx
def q_su36 : qRl := ([(1, [1, 0, 4], []), (1160, [0, 4, 5], []), sp (-6) [(5, 1)], sp 6 [(5, (-1))], sp 0 [], sp 0 [], sp 0 [], sp 0 []], [(1161, [2, 0, 1, 0, 1, 2, 3], [])])
theorem q_su36_ok : RlOk q_su36 := by
  intro fs zs h x hx
  obtain ⟨H0, h⟩ := snAll h
  replace H0 := s_rd.mp H0
  obtain ⟨H1, h⟩ := snAll h
  replace H1 := s_pfo.mp H1
  obtain ⟨H2, h⟩ := snAll h
  replace H2 := sp_1.mp H2
  obtain ⟨H3, h⟩ := snAll h
  replace H3 := sp_1.mp H3
  obtain ⟨H4, h⟩ := snAll h
  replace H4 := sp_0.mp H4
  obtain ⟨H5, h⟩ := snAll h
  replace H5 := sp_0.mp H5
  obtain ⟨H6, h⟩ := snAll h
  replace H6 := sp_0.mp H6
  obtain ⟨H7, h⟩ := snAll h
  replace H7 := sp_0.mp H7
  have L := L_su36 (F0 := nthF fs 0) (F1 := nthF fs 1) (N0 := nthZ zs 0) (N1 := nthZ zs 1) (N2 := nthZ zs 2) (N3 := nthZ zs 3) (N4 := nthZ zs 4) (N5 := nthZ zs 5) H0 H1 (by omega) (by omega) (by omega) (by omega) (by omega) (by omega)
  rcases List.mem_cons.mp hx with hx | hx
  · rw [hx]; refine s_sum.mpr ?_; exact L
  · cases hx
def q_svEb : qRl := ([sp (-1) [(6, 1)], sp 0 [], sp 0 [], sp 0 [], sp 0 [], sp 0 [], sp 0 [], sp 0 []], [(1162, [2, 0, 1, 0, 1, 2, 3, 4, 5, 6], [])])
theorem q_svEb_ok : RlOk q_svEb := by
  intro fs zs h x hx
  obtain ⟨H0, h⟩ := snAll h
  replace H0 := sp_1.mp H0
  obtain ⟨H1, h⟩ := snAll h
  replace H1 := sp_0.mp H1
  obtain ⟨H2, h⟩ := snAll h
  replace H2 := sp_0.mp H2
  obtain ⟨H3, h⟩ := snAll h
  replace H3 := sp_0.mp H3
  obtain ⟨H4, h⟩ := snAll h
  replace H4 := sp_0.mp H4
  obtain ⟨H5, h⟩ := snAll h
  replace H5 := sp_0.mp H5
  obtain ⟨H6, h⟩ := snAll h
  replace H6 := sp_0.mp H6
  obtain ⟨H7, h⟩ := snAll h
  replace H7 := sp_0.mp H7
  have L := L_svEb (F0 := nthF fs 0) (F1 := nthF fs 1) (N0 := nthZ zs 0) (N1 := nthZ zs 1) (N2 := nthZ zs 2) (N3 := nthZ zs 3) (N4 := nthZ zs 4) (N5 := nthZ zs 5) (N6 := nthZ zs 6) (by omega) (by omega) (by omega) (by omega) (by omega) (by omega) (by omega) (by omega)
  rcases List.mem_cons.mp hx with hx | hx
  · rw [hx]; refine s_suv.mpr ?_; exact L
  · cases hx
def q_sv1b : qRl := ([sp 0 [(1, 1), (2, (-1))], sp 0 [], sp 0 [], sp 0 [], sp 0 [], sp 0 [], sp 0 [], sp 0 []], [(1162, [2, 0, 1, 0, 1, 2, 3, 4, 5, 6], [])])
theorem q_sv1b_ok : RlOk q_sv1b := by
  intro fs zs h x hx
  obtain ⟨H0, h⟩ := snAll h
  replace H0 := sp_2.mp H0
  obtain ⟨H1, h⟩ := snAll h
  replace H1 := sp_0.mp H1
  obtain ⟨H2, h⟩ := snAll h
  replace H2 := sp_0.mp H2
  obtain ⟨H3, h⟩ := snAll h
  replace H3 := sp_0.mp H3
  obtain ⟨H4, h⟩ := snAll h
  replace H4 := sp_0.mp H4
  obtain ⟨H5, h⟩ := snAll h
  replace H5 := sp_0.mp H5
  obtain ⟨H6, h⟩ := snAll h
  replace H6 := sp_0.mp H6
  obtain ⟨H7, h⟩ := snAll h
  replace H7 := sp_0.mp H7
  have L := L_sv1b (F0 := nthF fs 0) (F1 := nthF fs 1) (N0 := nthZ zs 0) (N1 := nthZ zs 1) (N2 := nthZ zs 2) (N3 := nthZ zs 3) (N4 := nthZ zs 4) (N5 := nthZ zs 5) (N6 := nthZ zs 6) (by omega) (by omega) (by omega) (by omega) (by omega) (by omega) (by omega) (by omega)
  rcases List.mem_cons.mp hx with hx | hx
  · rw [hx]; refine s_suv.mpr ?_; exact L
  · cases hx
def q_sv20 : qRl := ([(1, [0, 1, 7], []), sp 2 [(7, (-1))], sp 0 [], sp 0 [], sp 0 [], sp 0 [], sp 0 [], sp 0 [], sp 0 []], [(1162, [2, 0, 1, 0, 1, 2, 3, 4, 5, 6], [])])
theorem q_sv20_ok : RlOk q_sv20 := by
  intro fs zs h x hx
  obtain ⟨H0, h⟩ := snAll h
  replace H0 := s_rd.mp H0
  obtain ⟨H1, h⟩ := snAll h
  replace H1 := sp_1.mp H1
  obtain ⟨H2, h⟩ := snAll h
  replace H2 := sp_0.mp H2
  obtain ⟨H3, h⟩ := snAll h
  replace H3 := sp_0.mp H3
  obtain ⟨H4, h⟩ := snAll h
  replace H4 := sp_0.mp H4
  obtain ⟨H5, h⟩ := snAll h
  replace H5 := sp_0.mp H5
  obtain ⟨H6, h⟩ := snAll h
  replace H6 := sp_0.mp H6
  obtain ⟨H7, h⟩ := snAll h
  replace H7 := sp_0.mp H7
  obtain ⟨H8, h⟩ := snAll h
  replace H8 := sp_0.mp H8
  have L := L_sv20 (F0 := nthF fs 0) (F1 := nthF fs 1) (N0 := nthZ zs 0) (N1 := nthZ zs 1) (N2 := nthZ zs 2) (N3 := nthZ zs 3) (N4 := nthZ zs 4) (N5 := nthZ zs 5) (N6 := nthZ zs 6) (N7 := nthZ zs 7) H0 (by omega) (by omega) (by omega) (by omega) (by omega) (by omega) (by omega) (by omega)
  rcases List.mem_cons.mp hx with hx | hx
  · rw [hx]; refine s_suv.mpr ?_; exact L
  · cases hx
def q_sv21 : qRl := ([(1, [0, 1, 7], []), sp (-4) [(7, 1)], sp 0 [], sp 0 [], sp 0 [], sp 0 [], sp 0 [], sp 0 [], sp 0 []], [(1162, [2, 0, 1, 0, 1, 2, 3, 4, 5, 6], [])])
theorem q_sv21_ok : RlOk q_sv21 := by
  intro fs zs h x hx
  obtain ⟨H0, h⟩ := snAll h
  replace H0 := s_rd.mp H0
  obtain ⟨H1, h⟩ := snAll h
  replace H1 := sp_1.mp H1
  obtain ⟨H2, h⟩ := snAll h
  replace H2 := sp_0.mp H2
  obtain ⟨H3, h⟩ := snAll h
  replace H3 := sp_0.mp H3
  obtain ⟨H4, h⟩ := snAll h
  replace H4 := sp_0.mp H4
  obtain ⟨H5, h⟩ := snAll h
  replace H5 := sp_0.mp H5
  obtain ⟨H6, h⟩ := snAll h
  replace H6 := sp_0.mp H6
  obtain ⟨H7, h⟩ := snAll h
  replace H7 := sp_0.mp H7
  obtain ⟨H8, h⟩ := snAll h
  replace H8 := sp_0.mp H8
  have L := L_sv21 (F0 := nthF fs 0) (F1 := nthF fs 1) (N0 := nthZ zs 0) (N1 := nthZ zs 1) (N2 := nthZ zs 2) (N3 := nthZ zs 3) (N4 := nthZ zs 4) (N5 := nthZ zs 5) (N6 := nthZ zs 6) (N7 := nthZ zs 7) H0 (by omega) (by omega) (by omega) (by omega) (by omega) (by omega) (by omega) (by omega)
  rcases List.mem_cons.mp hx with hx | hx
  · rw [hx]; refine s_suv.mpr ?_; exact L
  · cases hx
def q_sv3b : qRl := ([sp (-1) [(4, (-1))], sp (-1) [(5, (-1))], sp 0 [], sp 0 [], sp 0 [], sp 0 [], sp 0 [], sp 0 [], sp 0 []], [(1162, [2, 0, 1, 0, 1, 2, 3, 4, 5, 6], [])])
theorem q_sv3b_ok : RlOk q_sv3b := by
  intro fs zs h x hx
  obtain ⟨H0, h⟩ := snAll h
  replace H0 := sp_1.mp H0
  obtain ⟨H1, h⟩ := snAll h
  replace H1 := sp_1.mp H1
  obtain ⟨H2, h⟩ := snAll h
  replace H2 := sp_0.mp H2
  obtain ⟨H3, h⟩ := snAll h
  replace H3 := sp_0.mp H3
  obtain ⟨H4, h⟩ := snAll h
  replace H4 := sp_0.mp H4
  obtain ⟨H5, h⟩ := snAll h
  replace H5 := sp_0.mp H5
  obtain ⟨H6, h⟩ := snAll h
  replace H6 := sp_0.mp H6
  obtain ⟨H7, h⟩ := snAll h
  replace H7 := sp_0.mp H7
  obtain ⟨H8, h⟩ := snAll h
  replace H8 := sp_0.mp H8
  have L := L_sv3b (F0 := nthF fs 0) (F1 := nthF fs 1) (N0 := nthZ zs 0) (N1 := nthZ zs 1) (N2 := nthZ zs 2) (N3 := nthZ zs 3) (N4 := nthZ zs 4) (N5 := nthZ zs 5) (N6 := nthZ zs 6) (by omega) (by omega) (by omega) (by omega) (by omega) (by omega) (by omega) (by omega) (by omega)
  rcases List.mem_cons.mp hx with hx | hx
  · rw [hx]; refine s_suv.mpr ?_; exact L
  · cases hx
def q_sv4b : qRl := ([(1, [1, 0, 7], []), sp 0 [(8, 1)], sp 0 [(8, (-1))], (1163, [0, 7, 3, 4, 5, 8], []), sp 0 [], sp 0 [], sp 0 [], sp 0 [], sp 0 [], sp 0 [], sp 0 []], [(1162, [2, 0, 1, 0, 1, 2, 3, 4, 5, 6], [])])
theorem q_sv4b_ok : RlOk q_sv4b := by
  intro fs zs h x hx
  obtain ⟨H0, h⟩ := snAll h
  replace H0 := s_rd.mp H0
  obtain ⟨H1, h⟩ := snAll h
  replace H1 := sp_1.mp H1
  obtain ⟨H2, h⟩ := snAll h
  replace H2 := sp_1.mp H2
  obtain ⟨H3, h⟩ := snAll h
  replace H3 := s_hob.mp H3
  obtain ⟨H4, h⟩ := snAll h
  replace H4 := sp_0.mp H4
  obtain ⟨H5, h⟩ := snAll h
  replace H5 := sp_0.mp H5
  obtain ⟨H6, h⟩ := snAll h
  replace H6 := sp_0.mp H6
  obtain ⟨H7, h⟩ := snAll h
  replace H7 := sp_0.mp H7
  obtain ⟨H8, h⟩ := snAll h
  replace H8 := sp_0.mp H8
  obtain ⟨H9, h⟩ := snAll h
  replace H9 := sp_0.mp H9
  obtain ⟨H10, h⟩ := snAll h
  replace H10 := sp_0.mp H10
  have L := L_sv4b (F0 := nthF fs 0) (F1 := nthF fs 1) (N0 := nthZ zs 0) (N1 := nthZ zs 1) (N2 := nthZ zs 2) (N3 := nthZ zs 3) (N4 := nthZ zs 4) (N5 := nthZ zs 5) (N6 := nthZ zs 6) (N7 := nthZ zs 7) (N8 := nthZ zs 8) H0 (by omega) H3 (by omega) (by omega) (by omega) (by omega) (by omega) (by omega) (by omega)
  rcases List.mem_cons.mp hx with hx | hx
  · rw [hx]; refine s_suv.mpr ?_; exact L
  · cases hx
def q_hbE : qRl := ([sp (-1) [(4, 1)], sp 0 [], sp 0 [], sp 0 [], sp 0 [], sp 0 []], [(1163, [0, 0, 1, 2, 3, 4], [])])
theorem q_hbE_ok : RlOk q_hbE := by
  intro fs zs h x hx
  obtain ⟨H0, h⟩ := snAll h
  replace H0 := sp_1.mp H0
  obtain ⟨H1, h⟩ := snAll h
  replace H1 := sp_0.mp H1
  obtain ⟨H2, h⟩ := snAll h
  replace H2 := sp_0.mp H2
  obtain ⟨H3, h⟩ := snAll h
  replace H3 := sp_0.mp H3
  obtain ⟨H4, h⟩ := snAll h
  replace H4 := sp_0.mp H4
  obtain ⟨H5, h⟩ := snAll h
  replace H5 := sp_0.mp H5
  have L := L_hbE (N0 := nthZ zs 0) (N1 := nthZ zs 1) (N2 := nthZ zs 2) (N3 := nthZ zs 3) (N4 := nthZ zs 4) (by omega) (by omega) (by omega) (by omega) (by omega) (by omega)
  rcases List.mem_cons.mp hx with hx | hx
  · rw [hx]; refine s_hob.mpr ?_; exact L
  · cases hx
def q_hb0 : qRl := ([sp (-1) [(2, (-1))], sp (-1) [(3, (-1))], sp 0 [], sp 0 [], sp 0 [], sp 0 [], sp 0 []], [(1163, [0, 0, 1, 2, 3, 4], [])])
theorem q_hb0_ok : RlOk q_hb0 := by
  intro fs zs h x hx
  obtain ⟨H0, h⟩ := snAll h
  replace H0 := sp_1.mp H0
  obtain ⟨H1, h⟩ := snAll h
  replace H1 := sp_1.mp H1
  obtain ⟨H2, h⟩ := snAll h
  replace H2 := sp_0.mp H2
  obtain ⟨H3, h⟩ := snAll h
  replace H3 := sp_0.mp H3
  obtain ⟨H4, h⟩ := snAll h
  replace H4 := sp_0.mp H4
  obtain ⟨H5, h⟩ := snAll h
  replace H5 := sp_0.mp H5
  obtain ⟨H6, h⟩ := snAll h
  replace H6 := sp_0.mp H6
  have L := L_hb0 (N0 := nthZ zs 0) (N1 := nthZ zs 1) (N2 := nthZ zs 2) (N3 := nthZ zs 3) (N4 := nthZ zs 4) (by omega) (by omega) (by omega) (by omega) (by omega) (by omega) (by omega)
  rcases List.mem_cons.mp hx with hx | hx
  · rw [hx]; refine s_hob.mpr ?_; exact L
  · cases hx
def q_hb1 : qRl := ([(1158, [0, 0, 1, 5], []), sp (-4) [(5, 1)], sp 0 [], sp 0 [], sp 0 [], sp 0 [], sp 0 []], [(1163, [0, 0, 1, 2, 3, 4], [])])
theorem q_hb1_ok : RlOk q_hb1 := by
  intro fs zs h x hx
  obtain ⟨H0, h⟩ := snAll h
  replace H0 := s_bfo.mp H0
  obtain ⟨H1, h⟩ := snAll h
  replace H1 := sp_1.mp H1
  obtain ⟨H2, h⟩ := snAll h
  replace H2 := sp_0.mp H2
  obtain ⟨H3, h⟩ := snAll h
  replace H3 := sp_0.mp H3
  obtain ⟨H4, h⟩ := snAll h
  replace H4 := sp_0.mp H4
  obtain ⟨H5, h⟩ := snAll h
  replace H5 := sp_0.mp H5
  obtain ⟨H6, h⟩ := snAll h
  replace H6 := sp_0.mp H6
  have L := L_hb1 (N0 := nthZ zs 0) (N1 := nthZ zs 1) (N2 := nthZ zs 2) (N3 := nthZ zs 3) (N4 := nthZ zs 4) (N5 := nthZ zs 5) H0 (by omega) (by omega) (by omega) (by omega) (by omega) (by omega)
  rcases List.mem_cons.mp hx with hx | hx
  · rw [hx]; refine s_hob.mpr ?_; exact L
  · cases hx
def q_hbZ : qRl := ([(1163, [0, 0, 1, 2, 3, 5], []), sp 0 [(4, 1), (5, (-1))]], [(1163, [0, 0, 1, 2, 3, 4], [])])
theorem q_hbZ_ok : RlOk q_hbZ := by
  intro fs zs h x hx
  obtain ⟨H0, h⟩ := snAll h
  replace H0 := s_hob.mp H0
  obtain ⟨H1, h⟩ := snAll h
  replace H1 := sp_2.mp H1
  have L := L_hbZ (N0 := nthZ zs 0) (N1 := nthZ zs 1) (N2 := nthZ zs 2) (N3 := nthZ zs 3) (N4 := nthZ zs 4) (N5 := nthZ zs 5) H0 (by omega)
  rcases List.mem_cons.mp hx with hx | hx
  · rw [hx]; refine s_hob.mpr ?_; exact L
  · cases hx
def q_nmE : qRl := ([sp (-1) [(3, 1)], sp 0 [], sp 0 [], sp 0 [], sp 0 []], [(1164, [2, 0, 1, 0, 1, 2, 3], [])])
theorem q_nmE_ok : RlOk q_nmE := by
  intro fs zs h x hx
  obtain ⟨H0, h⟩ := snAll h
  replace H0 := sp_1.mp H0
  obtain ⟨H1, h⟩ := snAll h
  replace H1 := sp_0.mp H1
  obtain ⟨H2, h⟩ := snAll h
  replace H2 := sp_0.mp H2
  obtain ⟨H3, h⟩ := snAll h
  replace H3 := sp_0.mp H3
  obtain ⟨H4, h⟩ := snAll h
  replace H4 := sp_0.mp H4
  have L := L_nmE (F0 := nthF fs 0) (F1 := nthF fs 1) (N0 := nthZ zs 0) (N1 := nthZ zs 1) (N2 := nthZ zs 2) (N3 := nthZ zs 3) (by omega) (by omega) (by omega) (by omega) (by omega)
  rcases List.mem_cons.mp hx with hx | hx
  · rw [hx]; refine s_nmf.mpr ?_; exact L
  · cases hx
def q_nm1 : qRl := ([sp 0 [(1, (-1))], sp 0 [], sp 0 [], sp 0 [], sp 0 []], [(1164, [2, 0, 1, 0, 1, 2, 3], [])])
theorem q_nm1_ok : RlOk q_nm1 := by
  intro fs zs h x hx
  obtain ⟨H0, h⟩ := snAll h
  replace H0 := sp_1.mp H0
  obtain ⟨H1, h⟩ := snAll h
  replace H1 := sp_0.mp H1
  obtain ⟨H2, h⟩ := snAll h
  replace H2 := sp_0.mp H2
  obtain ⟨H3, h⟩ := snAll h
  replace H3 := sp_0.mp H3
  obtain ⟨H4, h⟩ := snAll h
  replace H4 := sp_0.mp H4
  have L := L_nm1 (F0 := nthF fs 0) (F1 := nthF fs 1) (N0 := nthZ zs 0) (N1 := nthZ zs 1) (N2 := nthZ zs 2) (N3 := nthZ zs 3) (by omega) (by omega) (by omega) (by omega) (by omega)
  rcases List.mem_cons.mp hx with hx | hx
  · rw [hx]; refine s_nmf.mpr ?_; exact L
  · cases hx
def q_nmX : qRl := ([sp 1 [(4, 1), (1, (-1))], sp (-1) [(4, (-1)), (1, 1)], (1164, [2, 0, 1, 0, 4, 2, 5], []), sp 0 [(3, 1), (5, (-1))], (1161, [2, 0, 1, 0, 4, 2, 6], []), sp 0 [(3, 1), (6, (-1))]], [(1164, [2, 0, 1, 0, 1, 2, 3], [])])
theorem q_nmX_ok : RlOk q_nmX := by
  intro fs zs h x hx
  obtain ⟨H0, h⟩ := snAll h
  replace H0 := sp_2.mp H0
  obtain ⟨H1, h⟩ := snAll h
  replace H1 := sp_2.mp H1
  obtain ⟨H2, h⟩ := snAll h
  replace H2 := s_nmf.mp H2
  obtain ⟨H3, h⟩ := snAll h
  replace H3 := sp_2.mp H3
  obtain ⟨H4, h⟩ := snAll h
  replace H4 := s_sum.mp H4
  obtain ⟨H5, h⟩ := snAll h
  replace H5 := sp_2.mp H5
  have L := L_nmX (F0 := nthF fs 0) (F1 := nthF fs 1) (N0 := nthZ zs 0) (N1 := nthZ zs 1) (N2 := nthZ zs 2) (N3 := nthZ zs 3) (N4 := nthZ zs 4) (N5 := nthZ zs 5) (N6 := nthZ zs 6) (by omega) H2 (by omega) H4 (by omega)
  rcases List.mem_cons.mp hx with hx | hx
  · rw [hx]; refine s_nmf.mpr ?_; exact L
  · cases hx
def q_nvE : qRl := ([sp (-1) [(6, 1)], sp 0 [], sp 0 [], sp 0 [], sp 0 [], sp 0 [], sp 0 [], sp 0 []], [(1165, [2, 0, 1, 0, 1, 2, 3, 4, 5, 6], [])])
theorem q_nvE_ok : RlOk q_nvE := by
  intro fs zs h x hx
  obtain ⟨H0, h⟩ := snAll h
  replace H0 := sp_1.mp H0
  obtain ⟨H1, h⟩ := snAll h
  replace H1 := sp_0.mp H1
  obtain ⟨H2, h⟩ := snAll h
  replace H2 := sp_0.mp H2
  obtain ⟨H3, h⟩ := snAll h
  replace H3 := sp_0.mp H3
  obtain ⟨H4, h⟩ := snAll h
  replace H4 := sp_0.mp H4
  obtain ⟨H5, h⟩ := snAll h
  replace H5 := sp_0.mp H5
  obtain ⟨H6, h⟩ := snAll h
  replace H6 := sp_0.mp H6
  obtain ⟨H7, h⟩ := snAll h
  replace H7 := sp_0.mp H7
  have L := L_nvE (F0 := nthF fs 0) (F1 := nthF fs 1) (N0 := nthZ zs 0) (N1 := nthZ zs 1) (N2 := nthZ zs 2) (N3 := nthZ zs 3) (N4 := nthZ zs 4) (N5 := nthZ zs 5) (N6 := nthZ zs 6) (by omega) (by omega) (by omega) (by omega) (by omega) (by omega) (by omega) (by omega)
  rcases List.mem_cons.mp hx with hx | hx
  · rw [hx]; refine s_nvl.mpr ?_; exact L
  · cases hx
def q_nv1 : qRl := ([sp 0 [(1, (-1))], sp 0 [], sp 0 [], sp 0 [], sp 0 [], sp 0 [], sp 0 [], sp 0 []], [(1165, [2, 0, 1, 0, 1, 2, 3, 4, 5, 6], [])])
theorem q_nv1_ok : RlOk q_nv1 := by
  intro fs zs h x hx
  obtain ⟨H0, h⟩ := snAll h
  replace H0 := sp_1.mp H0
  obtain ⟨H1, h⟩ := snAll h
  replace H1 := sp_0.mp H1
  obtain ⟨H2, h⟩ := snAll h
  replace H2 := sp_0.mp H2
  obtain ⟨H3, h⟩ := snAll h
  replace H3 := sp_0.mp H3
  obtain ⟨H4, h⟩ := snAll h
  replace H4 := sp_0.mp H4
  obtain ⟨H5, h⟩ := snAll h
  replace H5 := sp_0.mp H5
  obtain ⟨H6, h⟩ := snAll h
  replace H6 := sp_0.mp H6
  obtain ⟨H7, h⟩ := snAll h
  replace H7 := sp_0.mp H7
  have L := L_nv1 (F0 := nthF fs 0) (F1 := nthF fs 1) (N0 := nthZ zs 0) (N1 := nthZ zs 1) (N2 := nthZ zs 2) (N3 := nthZ zs 3) (N4 := nthZ zs 4) (N5 := nthZ zs 5) (N6 := nthZ zs 6) (by omega) (by omega) (by omega) (by omega) (by omega) (by omega) (by omega) (by omega)
  rcases List.mem_cons.mp hx with hx | hx
  · rw [hx]; refine s_nvl.mpr ?_; exact L
  · cases hx
def q_nvX : qRl := ([sp 1 [(7, 1), (1, (-1))], sp (-1) [(7, (-1)), (1, 1)], (1165, [2, 0, 1, 0, 7, 2, 3, 4, 5, 8], []), sp 0 [(6, 1), (8, (-1))], (1162, [2, 0, 1, 0, 7, 2, 3, 4, 5, 9], []), sp 0 [(6, 1), (9, (-1))]], [(1165, [2, 0, 1, 0, 1, 2, 3, 4, 5, 6], [])])
theorem q_nvX_ok : RlOk q_nvX := by
  intro fs zs h x hx
  obtain ⟨H0, h⟩ := snAll h
  replace H0 := sp_2.mp H0
  obtain ⟨H1, h⟩ := snAll h
  replace H1 := sp_2.mp H1
  obtain ⟨H2, h⟩ := snAll h
  replace H2 := s_nvl.mp H2
  obtain ⟨H3, h⟩ := snAll h
  replace H3 := sp_2.mp H3
  obtain ⟨H4, h⟩ := snAll h
  replace H4 := s_suv.mp H4
  obtain ⟨H5, h⟩ := snAll h
  replace H5 := sp_2.mp H5
  have L := L_nvX (F0 := nthF fs 0) (F1 := nthF fs 1) (N0 := nthZ zs 0) (N1 := nthZ zs 1) (N2 := nthZ zs 2) (N3 := nthZ zs 3) (N4 := nthZ zs 4) (N5 := nthZ zs 5) (N6 := nthZ zs 6) (N7 := nthZ zs 7) (N8 := nthZ zs 8) (N9 := nthZ zs 9) (by omega) H2 (by omega) H4 (by omega)
  rcases List.mem_cons.mp hx with hx | hx
  · rw [hx]; refine s_nvl.mpr ?_; exact L
  · cases hx
def q_n0E : qRl := ([sp (-1) [(2, 1)], sp 0 [], sp 0 [], sp 0 []], [(1166, [1, 0, 0, 1, 2], [])])
theorem q_n0E_ok : RlOk q_n0E := by
  intro fs zs h x hx
  obtain ⟨H0, h⟩ := snAll h
  replace H0 := sp_1.mp H0
  obtain ⟨H1, h⟩ := snAll h
  replace H1 := sp_0.mp H1
  obtain ⟨H2, h⟩ := snAll h
  replace H2 := sp_0.mp H2
  obtain ⟨H3, h⟩ := snAll h
  replace H3 := sp_0.mp H3
  have L := L_n0E (F0 := nthF fs 0) (N0 := nthZ zs 0) (N1 := nthZ zs 1) (N2 := nthZ zs 2) (by omega) (by omega) (by omega) (by omega)
  rcases List.mem_cons.mp hx with hx | hx
  · rw [hx]; refine s_nm0.mpr ?_; exact L
  · cases hx
def q_n01 : qRl := ([sp 0 [(0, (-1))], sp 0 [], sp 0 [], sp 0 []], [(1166, [1, 0, 0, 1, 2], [])])
theorem q_n01_ok : RlOk q_n01 := by
  intro fs zs h x hx
  obtain ⟨H0, h⟩ := snAll h
  replace H0 := sp_1.mp H0
  obtain ⟨H1, h⟩ := snAll h
  replace H1 := sp_0.mp H1
  obtain ⟨H2, h⟩ := snAll h
  replace H2 := sp_0.mp H2
  obtain ⟨H3, h⟩ := snAll h
  replace H3 := sp_0.mp H3
  have L := L_n01 (F0 := nthF fs 0) (N0 := nthZ zs 0) (N1 := nthZ zs 1) (N2 := nthZ zs 2) (by omega) (by omega) (by omega) (by omega)
  rcases List.mem_cons.mp hx with hx | hx
  · rw [hx]; refine s_nm0.mpr ?_; exact L
  · cases hx
def q_n0X0 : qRl := ([sp 1 [(3, 1), (0, (-1))], sp (-1) [(3, (-1)), (0, 1)], (1166, [1, 0, 3, 1, 4], []), sp 0 [(2, 1), (4, (-1))], (1, [0, 3, 5], []), sp 1 [(5, (-1))]], [(1166, [1, 0, 0, 1, 2], [])])
theorem q_n0X0_ok : RlOk q_n0X0 := by
  intro fs zs h x hx
  obtain ⟨H0, h⟩ := snAll h
  replace H0 := sp_2.mp H0
  obtain ⟨H1, h⟩ := snAll h
  replace H1 := sp_2.mp H1
  obtain ⟨H2, h⟩ := snAll h
  replace H2 := s_nm0.mp H2
  obtain ⟨H3, h⟩ := snAll h
  replace H3 := sp_2.mp H3
  obtain ⟨H4, h⟩ := snAll h
  replace H4 := s_rd.mp H4
  obtain ⟨H5, h⟩ := snAll h
  replace H5 := sp_1.mp H5
  have L := L_n0X0 (F0 := nthF fs 0) (N0 := nthZ zs 0) (N1 := nthZ zs 1) (N2 := nthZ zs 2) (N3 := nthZ zs 3) (N4 := nthZ zs 4) (N5 := nthZ zs 5) (by omega) H2 (by omega) H4 (by omega)
  rcases List.mem_cons.mp hx with hx | hx
  · rw [hx]; refine s_nm0.mpr ?_; exact L
  · cases hx
def q_n0X1 : qRl := ([sp 1 [(3, 1), (0, (-1))], sp (-1) [(3, (-1)), (0, 1)], (1166, [1, 0, 3, 1, 4], []), sp 0 [(2, 1), (4, (-1))], (1, [0, 3, 5], []), sp (-3) [(5, 1)]], [(1166, [1, 0, 0, 1, 2], [])])
theorem q_n0X1_ok : RlOk q_n0X1 := by
  intro fs zs h x hx
  obtain ⟨H0, h⟩ := snAll h
  replace H0 := sp_2.mp H0
  obtain ⟨H1, h⟩ := snAll h
  replace H1 := sp_2.mp H1
  obtain ⟨H2, h⟩ := snAll h
  replace H2 := s_nm0.mp H2
  obtain ⟨H3, h⟩ := snAll h
  replace H3 := sp_2.mp H3
  obtain ⟨H4, h⟩ := snAll h
  replace H4 := s_rd.mp H4
  obtain ⟨H5, h⟩ := snAll h
  replace H5 := sp_1.mp H5
  have L := L_n0X1 (F0 := nthF fs 0) (N0 := nthZ zs 0) (N1 := nthZ zs 1) (N2 := nthZ zs 2) (N3 := nthZ zs 3) (N4 := nthZ zs 4) (N5 := nthZ zs 5) (by omega) H2 (by omega) H4 (by omega)
  rcases List.mem_cons.mp hx with hx | hx
  · rw [hx]; refine s_nm0.mpr ?_; exact L
  · cases hx
def q_n0X2 : qRl := ([sp 1 [(3, 1), (0, (-1))], sp (-1) [(3, (-1)), (0, 1)], (1166, [1, 0, 3, 1, 4], []), sp 0 [(2, 1), (4, (-1))], sp 0 [(3, 1), (1, (-1))]], [(1166, [1, 0, 0, 1, 2], [])])
theorem q_n0X2_ok : RlOk q_n0X2 := by
  intro fs zs h x hx
  obtain ⟨H0, h⟩ := snAll h
  replace H0 := sp_2.mp H0
  obtain ⟨H1, h⟩ := snAll h
  replace H1 := sp_2.mp H1
  obtain ⟨H2, h⟩ := snAll h
  replace H2 := s_nm0.mp H2
  obtain ⟨H3, h⟩ := snAll h
  replace H3 := sp_2.mp H3
  obtain ⟨H4, h⟩ := snAll h
  replace H4 := sp_2.mp H4
  have L := L_n0X2 (F0 := nthF fs 0) (N0 := nthZ zs 0) (N1 := nthZ zs 1) (N2 := nthZ zs 2) (N3 := nthZ zs 3) (N4 := nthZ zs 4) (by omega) H2 (by omega) (by omega)
  rcases List.mem_cons.mp hx with hx | hx
  · rw [hx]; refine s_nm0.mpr ?_; exact L
  · cases hx
def q_md1 : qRl := ([sp (-1) [(2, 1)], sp 0 [], sp 0 [], sp 0 [], sp 0 []], [(1167, [1, 0, 0, 1, 2, 3], [])])
theorem q_md1_ok : RlOk q_md1 := by
  intro fs zs h x hx
  obtain ⟨H0, h⟩ := snAll h
  replace H0 := sp_1.mp H0
  obtain ⟨H1, h⟩ := snAll h
  replace H1 := sp_0.mp H1
  obtain ⟨H2, h⟩ := snAll h
  replace H2 := sp_0.mp H2
  obtain ⟨H3, h⟩ := snAll h
  replace H3 := sp_0.mp H3
  obtain ⟨H4, h⟩ := snAll h
  replace H4 := sp_0.mp H4
  have L := L_md1 (F0 := nthF fs 0) (N0 := nthZ zs 0) (N1 := nthZ zs 1) (N2 := nthZ zs 2) (N3 := nthZ zs 3) (by omega) (by omega) (by omega) (by omega) (by omega)
  rcases List.mem_cons.mp hx with hx | hx
  · rw [hx]; refine s_mdz.mpr ?_; exact L
  · cases hx
def q_md2 : qRl := ([sp (-1) [(3, 1)], sp 0 [], sp 0 [], sp 0 [], sp 0 []], [(1167, [1, 0, 0, 1, 2, 3], [])])
theorem q_md2_ok : RlOk q_md2 := by
  intro fs zs h x hx
  obtain ⟨H0, h⟩ := snAll h
  replace H0 := sp_1.mp H0
  obtain ⟨H1, h⟩ := snAll h
  replace H1 := sp_0.mp H1
  obtain ⟨H2, h⟩ := snAll h
  replace H2 := sp_0.mp H2
  obtain ⟨H3, h⟩ := snAll h
  replace H3 := sp_0.mp H3
  obtain ⟨H4, h⟩ := snAll h
  replace H4 := sp_0.mp H4
  have L := L_md2 (F0 := nthF fs 0) (N0 := nthZ zs 0) (N1 := nthZ zs 1) (N2 := nthZ zs 2) (N3 := nthZ zs 3) (by omega) (by omega) (by omega) (by omega) (by omega)
  rcases List.mem_cons.mp hx with hx | hx
  · rw [hx]; refine s_mdz.mpr ?_; exact L
  · cases hx
def q_md3 : qRl := ([sp (-4) [(1, 1)], sp 0 [], sp 0 [], sp 0 [], sp 0 []], [(1167, [1, 0, 0, 1, 2, 3], [])])
theorem q_md3_ok : RlOk q_md3 := by
  intro fs zs h x hx
  obtain ⟨H0, h⟩ := snAll h
  replace H0 := sp_1.mp H0
  obtain ⟨H1, h⟩ := snAll h
  replace H1 := sp_0.mp H1
  obtain ⟨H2, h⟩ := snAll h
  replace H2 := sp_0.mp H2
  obtain ⟨H3, h⟩ := snAll h
  replace H3 := sp_0.mp H3
  obtain ⟨H4, h⟩ := snAll h
  replace H4 := sp_0.mp H4
  have L := L_md3 (F0 := nthF fs 0) (N0 := nthZ zs 0) (N1 := nthZ zs 1) (N2 := nthZ zs 2) (N3 := nthZ zs 3) (by omega) (by omega) (by omega) (by omega) (by omega)
  rcases List.mem_cons.mp hx with hx | hx
  · rw [hx]; refine s_mdz.mpr ?_; exact L
  · cases hx
def q_md4 : qRl := ([(1166, [1, 0, 4, 0, 5], []), sp (-3) [(4, 1)], sp 0 [(5, (-1))], sp 0 [], sp 0 [], sp 0 [], sp 0 []], [(1167, [1, 0, 0, 1, 2, 3], [])])
theorem q_md4_ok : RlOk q_md4 := by
  intro fs zs h x hx
  obtain ⟨H0, h⟩ := snAll h
  replace H0 := s_nm0.mp H0
  obtain ⟨H1, h⟩ := snAll h
  replace H1 := sp_1.mp H1
  obtain ⟨H2, h⟩ := snAll h
  replace H2 := sp_1.mp H2
  obtain ⟨H3, h⟩ := snAll h
  replace H3 := sp_0.mp H3
  obtain ⟨H4, h⟩ := snAll h
  replace H4 := sp_0.mp H4
  obtain ⟨H5, h⟩ := snAll h
  replace H5 := sp_0.mp H5
  obtain ⟨H6, h⟩ := snAll h
  replace H6 := sp_0.mp H6
  have L := L_md4 (F0 := nthF fs 0) (N0 := nthZ zs 0) (N1 := nthZ zs 1) (N2 := nthZ zs 2) (N3 := nthZ zs 3) (N4 := nthZ zs 4) (N5 := nthZ zs 5) H0 (by omega) (by omega) (by omega) (by omega) (by omega) (by omega)
  rcases List.mem_cons.mp hx with hx | hx
  · rw [hx]; refine s_mdz.mpr ?_; exact L
  · cases hx
def q_md5 : qRl := ([(1164, [2, 0, 1, 4, 5, 0, 6], []), sp (-3) [(5, 1)], sp 0 [(6, (-1))], (1, [1, 4, 7], []), (1159, [0, 8, 9], []), sp 0 [(8, 1), (7, (-1))], sp 0 [(7, 1), (8, (-1))], sp 0 [(9, (-1))], sp 0 [], sp 0 [], sp 0 [], sp 0 []], [(1167, [1, 0, 0, 1, 2, 3], [])])
theorem q_md5_ok : RlOk q_md5 := by
  intro fs zs h x hx
  obtain ⟨H0, h⟩ := snAll h
  replace H0 := s_nmf.mp H0
  obtain ⟨H1, h⟩ := snAll h
  replace H1 := sp_1.mp H1
  obtain ⟨H2, h⟩ := snAll h
  replace H2 := sp_1.mp H2
  obtain ⟨H3, h⟩ := snAll h
  replace H3 := s_rd.mp H3
  obtain ⟨H4, h⟩ := snAll h
  replace H4 := s_hfo.mp H4
  obtain ⟨H5, h⟩ := snAll h
  replace H5 := sp_2.mp H5
  obtain ⟨H6, h⟩ := snAll h
  replace H6 := sp_2.mp H6
  obtain ⟨H7, h⟩ := snAll h
  replace H7 := sp_1.mp H7
  obtain ⟨H8, h⟩ := snAll h
  replace H8 := sp_0.mp H8
  obtain ⟨H9, h⟩ := snAll h
  replace H9 := sp_0.mp H9
  obtain ⟨H10, h⟩ := snAll h
  replace H10 := sp_0.mp H10
  obtain ⟨H11, h⟩ := snAll h
  replace H11 := sp_0.mp H11
  have L := L_md5 (F0 := nthF fs 0) (F1 := nthF fs 1) (N0 := nthZ zs 0) (N1 := nthZ zs 1) (N2 := nthZ zs 2) (N3 := nthZ zs 3) (N4 := nthZ zs 4) (N5 := nthZ zs 5) (N6 := nthZ zs 6) (N7 := nthZ zs 7) (N8 := nthZ zs 8) (N9 := nthZ zs 9) H0 (by omega) (by omega) H3 H4 (by omega) (by omega) (by omega) (by omega) (by omega) (by omega) (by omega)
  rcases List.mem_cons.mp hx with hx | hx
  · rw [hx]; refine s_mdz.mpr ?_; exact L
  · cases hx
def q_mdZ : qRl := ([(1167, [1, 0, 0, 4, 5, 6], []), sp 0 [(1, 1), (4, (-1))], sp 0 [(2, 1), (5, (-1))], sp 0 [(3, 1), (6, (-1))]], [(1167, [1, 0, 0, 1, 2, 3], [])])
theorem q_mdZ_ok : RlOk q_mdZ := by
  intro fs zs h x hx
  obtain ⟨H0, h⟩ := snAll h
  replace H0 := s_mdz.mp H0
  obtain ⟨H1, h⟩ := snAll h
  replace H1 := sp_2.mp H1
  obtain ⟨H2, h⟩ := snAll h
  replace H2 := sp_2.mp H2
  obtain ⟨H3, h⟩ := snAll h
  replace H3 := sp_2.mp H3
  have L := L_mdZ (F0 := nthF fs 0) (N0 := nthZ zs 0) (N1 := nthZ zs 1) (N2 := nthZ zs 2) (N3 := nthZ zs 3) (N4 := nthZ zs 4) (N5 := nthZ zs 5) (N6 := nthZ zs 6) H0 (by omega) (by omega) (by omega)
  rcases List.mem_cons.mp hx with hx | hx
  · rw [hx]; refine s_mdz.mpr ?_; exact L
  · cases hx
def q_mdU : qRl := ([(1167, [1, 0, 0, 1, 2, 3], []), sp 0 [(2, (-1))], sp 0 [(3, (-1))], sp 0 [(4, 1)], sp 0 [(4, (-1))], (1170, [1, 0, 0, 4], [])], [sp (-4) [(1, 1)]])
theorem q_mdU_ok : RlOk q_mdU := by
  intro fs zs h x hx
  obtain ⟨H0, h⟩ := snAll h
  replace H0 := s_mdz.mp H0
  obtain ⟨H1, h⟩ := snAll h
  replace H1 := sp_1.mp H1
  obtain ⟨H2, h⟩ := snAll h
  replace H2 := sp_1.mp H2
  obtain ⟨H3, h⟩ := snAll h
  replace H3 := sp_1.mp H3
  obtain ⟨H4, h⟩ := snAll h
  replace H4 := sp_1.mp H4
  obtain ⟨H5, h⟩ := snAll h
  replace H5 := s_kx.mp H5
  have L := L_mdU (F0 := nthF fs 0) (N0 := nthZ zs 0) (N1 := nthZ zs 1) (N2 := nthZ zs 2) (N3 := nthZ zs 3) (N4 := nthZ zs 4) H0 (by omega) (by omega) (by omega) H5
  rcases List.mem_cons.mp hx with hx | hx
  · rw [hx]; refine sp_1.mpr ?_; omega
  · cases hx
def q_kxE : qRl := ([sp (-1) [(1, 1)], sp 0 []], [(1170, [1, 0, 0, 1], [])])
theorem q_kxE_ok : RlOk q_kxE := by
  intro fs zs h x hx
  obtain ⟨H0, h⟩ := snAll h
  replace H0 := sp_1.mp H0
  obtain ⟨H1, h⟩ := snAll h
  replace H1 := sp_0.mp H1
  have L := L_kxE (F0 := nthF fs 0) (N0 := nthZ zs 0) (N1 := nthZ zs 1) (by omega) (by omega)
  rcases List.mem_cons.mp hx with hx | hx
  · rw [hx]; refine s_kx.mpr ?_; exact L
  · cases hx
def q_kx1 : qRl := ([(1, [0, 2, 3], []), sp 0 [(2, 1)], sp 2 [(2, (-1))], sp (-1) [(0, 1), (2, (-1))], sp (-2) [(3, 1)], sp 2 [(3, (-1))], sp 0 []], [(1170, [1, 0, 0, 1], [])])
theorem q_kx1_ok : RlOk q_kx1 := by
  intro fs zs h x hx
  obtain ⟨H0, h⟩ := snAll h
  replace H0 := s_rd.mp H0
  obtain ⟨H1, h⟩ := snAll h
  replace H1 := sp_1.mp H1
  obtain ⟨H2, h⟩ := snAll h
  replace H2 := sp_1.mp H2
  obtain ⟨H3, h⟩ := snAll h
  replace H3 := sp_2.mp H3
  obtain ⟨H4, h⟩ := snAll h
  replace H4 := sp_1.mp H4
  obtain ⟨H5, h⟩ := snAll h
  replace H5 := sp_1.mp H5
  obtain ⟨H6, h⟩ := snAll h
  replace H6 := sp_0.mp H6
  have L := L_kx1 (F0 := nthF fs 0) (N0 := nthZ zs 0) (N1 := nthZ zs 1) (N2 := nthZ zs 2) (N3 := nthZ zs 3) H0 (by omega) (by omega) (by omega) (by omega) (by omega) (by omega)
  rcases List.mem_cons.mp hx with hx | hx
  · rw [hx]; refine s_kx.mpr ?_; exact L
  · cases hx
def q_kxZ : qRl := ([(1170, [1, 0, 0, 2], []), sp 0 [(1, 1), (2, (-1))]], [(1170, [1, 0, 0, 1], [])])
theorem q_kxZ_ok : RlOk q_kxZ := by
  intro fs zs h x hx
  obtain ⟨H0, h⟩ := snAll h
  replace H0 := s_kx.mp H0
  obtain ⟨H1, h⟩ := snAll h
  replace H1 := sp_2.mp H1
  have L := L_kxZ (F0 := nthF fs 0) (N0 := nthZ zs 0) (N1 := nthZ zs 1) (N2 := nthZ zs 2) H0 (by omega)
  rcases List.mem_cons.mp hx with hx | hx
  · rw [hx]; refine s_kx.mpr ?_; exact L
  · cases hx
def q_vx0 : qRl := ([sp (-1) [(1, (-1))], sp (-1) [(2, (-1))], sp 0 []], [(1168, [1, 0, 0, 1, 2], [])])
theorem q_vx0_ok : RlOk q_vx0 := by
  intro fs zs h x hx
  obtain ⟨H0, h⟩ := snAll h
  replace H0 := sp_1.mp H0
  obtain ⟨H1, h⟩ := snAll h
  replace H1 := sp_1.mp H1
  obtain ⟨H2, h⟩ := snAll h
  replace H2 := sp_0.mp H2
  have L := L_vx0 (F0 := nthF fs 0) (N0 := nthZ zs 0) (N1 := nthZ zs 1) (N2 := nthZ zs 2) (by omega) (by omega) (by omega)
  rcases List.mem_cons.mp hx with hx | hx
  · rw [hx]; refine s_vx.mpr ?_; exact L
  · cases hx
def q_vx1 : qRl := ([(1, [0, 3, 4], []), sp 0 [(3, 1)], sp 2 [(3, (-1))], sp (-1) [(0, 1), (3, (-1))], sp (-3) [(4, 1)], sp 3 [(4, (-1))], sp 0 [], sp 0 []], [(1168, [1, 0, 0, 1, 2], [])])
theorem q_vx1_ok : RlOk q_vx1 := by
  intro fs zs h x hx
  obtain ⟨H0, h⟩ := snAll h
  replace H0 := s_rd.mp H0
  obtain ⟨H1, h⟩ := snAll h
  replace H1 := sp_1.mp H1
  obtain ⟨H2, h⟩ := snAll h
  replace H2 := sp_1.mp H2
  obtain ⟨H3, h⟩ := snAll h
  replace H3 := sp_2.mp H3
  obtain ⟨H4, h⟩ := snAll h
  replace H4 := sp_1.mp H4
  obtain ⟨H5, h⟩ := snAll h
  replace H5 := sp_1.mp H5
  obtain ⟨H6, h⟩ := snAll h
  replace H6 := sp_0.mp H6
  obtain ⟨H7, h⟩ := snAll h
  replace H7 := sp_0.mp H7
  have L := L_vx1 (F0 := nthF fs 0) (N0 := nthZ zs 0) (N1 := nthZ zs 1) (N2 := nthZ zs 2) (N3 := nthZ zs 3) (N4 := nthZ zs 4) H0 (by omega) (by omega) (by omega) (by omega) (by omega) (by omega) (by omega)
  rcases List.mem_cons.mp hx with hx | hx
  · rw [hx]; refine s_vx.mpr ?_; exact L
  · cases hx
def q_mvE : qRl := ([sp (-1) [(2, 1)], sp 0 [], sp 0 [], sp 0 []], [(1169, [0, 0, 1, 2], [])])
theorem q_mvE_ok : RlOk q_mvE := by
  intro fs zs h x hx
  obtain ⟨H0, h⟩ := snAll h
  replace H0 := sp_1.mp H0
  obtain ⟨H1, h⟩ := snAll h
  replace H1 := sp_0.mp H1
  obtain ⟨H2, h⟩ := snAll h
  replace H2 := sp_0.mp H2
  obtain ⟨H3, h⟩ := snAll h
  replace H3 := sp_0.mp H3
  have L := L_mvE (N0 := nthZ zs 0) (N1 := nthZ zs 1) (N2 := nthZ zs 2) (by omega) (by omega) (by omega) (by omega)
  rcases List.mem_cons.mp hx with hx | hx
  · rw [hx]; refine s_mvn.mpr ?_; exact L
  · cases hx
def q_mvP : qRl := ([sp (-1) [(1, (-1))], sp 0 [], sp 0 [], sp 0 []], [(1169, [0, 0, 1, 2], [])])
theorem q_mvP_ok : RlOk q_mvP := by
  intro fs zs h x hx
  obtain ⟨H0, h⟩ := snAll h
  replace H0 := sp_1.mp H0
  obtain ⟨H1, h⟩ := snAll h
  replace H1 := sp_0.mp H1
  obtain ⟨H2, h⟩ := snAll h
  replace H2 := sp_0.mp H2
  obtain ⟨H3, h⟩ := snAll h
  replace H3 := sp_0.mp H3
  have L := L_mvP (N0 := nthZ zs 0) (N1 := nthZ zs 1) (N2 := nthZ zs 2) (by omega) (by omega) (by omega) (by omega)
  rcases List.mem_cons.mp hx with hx | hx
  · rw [hx]; refine s_mvn.mpr ?_; exact L
  · cases hx
def q_mvX : qRl := ([sp (-4) [(0, 1)], sp 0 [], sp 0 [], sp 0 []], [(1169, [0, 0, 1, 2], [])])
theorem q_mvX_ok : RlOk q_mvX := by
  intro fs zs h x hx
  obtain ⟨H0, h⟩ := snAll h
  replace H0 := sp_1.mp H0
  obtain ⟨H1, h⟩ := snAll h
  replace H1 := sp_0.mp H1
  obtain ⟨H2, h⟩ := snAll h
  replace H2 := sp_0.mp H2
  obtain ⟨H3, h⟩ := snAll h
  replace H3 := sp_0.mp H3
  have L := L_mvX (N0 := nthZ zs 0) (N1 := nthZ zs 1) (N2 := nthZ zs 2) (by omega) (by omega) (by omega) (by omega)
  rcases List.mem_cons.mp hx with hx | hx
  · rw [hx]; refine s_mvn.mpr ?_; exact L
  · cases hx
def q_mvN7 : qRl := ([(1165, [2, 0, 1, 3, 4, 5, 6, 7, 8, 9], []), sp (-3) [(4, 1)], sp 0 [(9, (-1))], sp 0 [(1, 1), (7, (-1))], sp 0 [(7, 1), (1, (-1))], (1168, [1, 0, 10, 11, 12], []), sp 0 [(10, 1), (5, (-1))], sp 0 [(5, 1), (10, (-1))], sp 0 [(11, 1), (7, (-1))], sp 0 [(7, 1), (11, (-1))], sp 0 [(12, 1), (8, (-1))], sp 0 [(8, 1), (12, (-1))], (1, [1, 3, 13], []), (1158, [0, 14, 15, 16], []), sp 0 [(14, 1), (13, (-1))], sp 0 [(13, 1), (14, (-1))], sp 0 [(15, 1), (6, (-1))], sp 0 [(6, 1), (15, (-1))], sp 0 [(0, 1), (16, (-1))], sp 0 []], [(1169, [0, 0, 1, 2], [])])
theorem q_mvN7_ok : RlOk q_mvN7 := by
  intro fs zs h x hx
  obtain ⟨H0, h⟩ := snAll h
  replace H0 := s_nvl.mp H0
  obtain ⟨H1, h⟩ := snAll h
  replace H1 := sp_1.mp H1
  obtain ⟨H2, h⟩ := snAll h
  replace H2 := sp_1.mp H2
  obtain ⟨H3, h⟩ := snAll h
  replace H3 := sp_2.mp H3
  obtain ⟨H4, h⟩ := snAll h
  replace H4 := sp_2.mp H4
  obtain ⟨H5, h⟩ := snAll h
  replace H5 := s_vx.mp H5
  obtain ⟨H6, h⟩ := snAll h
  replace H6 := sp_2.mp H6
  obtain ⟨H7, h⟩ := snAll h
  replace H7 := sp_2.mp H7
  obtain ⟨H8, h⟩ := snAll h
  replace H8 := sp_2.mp H8
  obtain ⟨H9, h⟩ := snAll h
  replace H9 := sp_2.mp H9
  obtain ⟨H10, h⟩ := snAll h
  replace H10 := sp_2.mp H10
  obtain ⟨H11, h⟩ := snAll h
  replace H11 := sp_2.mp H11
  obtain ⟨H12, h⟩ := snAll h
  replace H12 := s_rd.mp H12
  obtain ⟨H13, h⟩ := snAll h
  replace H13 := s_bfo.mp H13
  obtain ⟨H14, h⟩ := snAll h
  replace H14 := sp_2.mp H14
  obtain ⟨H15, h⟩ := snAll h
  replace H15 := sp_2.mp H15
  obtain ⟨H16, h⟩ := snAll h
  replace H16 := sp_2.mp H16
  obtain ⟨H17, h⟩ := snAll h
  replace H17 := sp_2.mp H17
  obtain ⟨H18, h⟩ := snAll h
  replace H18 := sp_2.mp H18
  obtain ⟨H19, h⟩ := snAll h
  replace H19 := sp_0.mp H19
  have L := L_mvN7 (F0 := nthF fs 0) (F1 := nthF fs 1) (N0 := nthZ zs 0) (N1 := nthZ zs 1) (N2 := nthZ zs 2) (N3 := nthZ zs 3) (N4 := nthZ zs 4) (N5 := nthZ zs 5) (N6 := nthZ zs 6) (N7 := nthZ zs 7) (N8 := nthZ zs 8) (N9 := nthZ zs 9) (N10 := nthZ zs 10) (N11 := nthZ zs 11) (N12 := nthZ zs 12) (N13 := nthZ zs 13) (N14 := nthZ zs 14) (N15 := nthZ zs 15) (N16 := nthZ zs 16) H0 (by omega) (by omega) (by omega) (by omega) H5 (by omega) (by omega) (by omega) (by omega) (by omega) (by omega) H12 H13 (by omega) (by omega) (by omega) (by omega) (by omega) (by omega)
  rcases List.mem_cons.mp hx with hx | hx
  · rw [hx]; refine s_mvn.mpr ?_; exact L
  · cases hx
def q_mvN8 : qRl := ([(1165, [2, 0, 1, 3, 4, 5, 6, 7, 8, 9], []), sp (-3) [(4, 1)], sp 0 [(9, (-1))], sp 0 [(1, 1), (8, (-1))], sp 0 [(8, 1), (1, (-1))], (1168, [1, 0, 10, 11, 12], []), sp 0 [(10, 1), (5, (-1))], sp 0 [(5, 1), (10, (-1))], sp 0 [(11, 1), (7, (-1))], sp 0 [(7, 1), (11, (-1))], sp 0 [(12, 1), (8, (-1))], sp 0 [(8, 1), (12, (-1))], (1, [1, 3, 13], []), (1158, [0, 14, 15, 16], []), sp 0 [(14, 1), (13, (-1))], sp 0 [(13, 1), (14, (-1))], sp 0 [(15, 1), (6, (-1))], sp 0 [(6, 1), (15, (-1))], sp 0 [(0, 1), (16, (-1))], sp 0 []], [(1169, [0, 0, 1, 2], [])])
theorem q_mvN8_ok : RlOk q_mvN8 := by
  intro fs zs h x hx
  obtain ⟨H0, h⟩ := snAll h
  replace H0 := s_nvl.mp H0
  obtain ⟨H1, h⟩ := snAll h
  replace H1 := sp_1.mp H1
  obtain ⟨H2, h⟩ := snAll h
  replace H2 := sp_1.mp H2
  obtain ⟨H3, h⟩ := snAll h
  replace H3 := sp_2.mp H3
  obtain ⟨H4, h⟩ := snAll h
  replace H4 := sp_2.mp H4
  obtain ⟨H5, h⟩ := snAll h
  replace H5 := s_vx.mp H5
  obtain ⟨H6, h⟩ := snAll h
  replace H6 := sp_2.mp H6
  obtain ⟨H7, h⟩ := snAll h
  replace H7 := sp_2.mp H7
  obtain ⟨H8, h⟩ := snAll h
  replace H8 := sp_2.mp H8
  obtain ⟨H9, h⟩ := snAll h
  replace H9 := sp_2.mp H9
  obtain ⟨H10, h⟩ := snAll h
  replace H10 := sp_2.mp H10
  obtain ⟨H11, h⟩ := snAll h
  replace H11 := sp_2.mp H11
  obtain ⟨H12, h⟩ := snAll h
  replace H12 := s_rd.mp H12
  obtain ⟨H13, h⟩ := snAll h
  replace H13 := s_bfo.mp H13
  obtain ⟨H14, h⟩ := snAll h
  replace H14 := sp_2.mp H14
  obtain ⟨H15, h⟩ := snAll h
  replace H15 := sp_2.mp H15
  obtain ⟨H16, h⟩ := snAll h
  replace H16 := sp_2.mp H16
  obtain ⟨H17, h⟩ := snAll h
  replace H17 := sp_2.mp H17
  obtain ⟨H18, h⟩ := snAll h
  replace H18 := sp_2.mp H18
  obtain ⟨H19, h⟩ := snAll h
  replace H19 := sp_0.mp H19
  have L := L_mvN8 (F0 := nthF fs 0) (F1 := nthF fs 1) (N0 := nthZ zs 0) (N1 := nthZ zs 1) (N2 := nthZ zs 2) (N3 := nthZ zs 3) (N4 := nthZ zs 4) (N5 := nthZ zs 5) (N6 := nthZ zs 6) (N7 := nthZ zs 7) (N8 := nthZ zs 8) (N9 := nthZ zs 9) (N10 := nthZ zs 10) (N11 := nthZ zs 11) (N12 := nthZ zs 12) (N13 := nthZ zs 13) (N14 := nthZ zs 14) (N15 := nthZ zs 15) (N16 := nthZ zs 16) H0 (by omega) (by omega) (by omega) (by omega) H5 (by omega) (by omega) (by omega) (by omega) (by omega) (by omega) H12 H13 (by omega) (by omega) (by omega) (by omega) (by omega) (by omega)
  rcases List.mem_cons.mp hx with hx | hx
  · rw [hx]; refine s_mvn.mpr ?_; exact L
  · cases hx
def q_mvZ : qRl := ([(1169, [0, 3, 1, 4], []), sp 0 [(0, 1), (3, (-1))], sp 0 [(2, 1), (4, (-1))]], [(1169, [0, 0, 1, 2], [])])
theorem q_mvZ_ok : RlOk q_mvZ := by
  intro fs zs h x hx
  obtain ⟨H0, h⟩ := snAll h
  replace H0 := s_mvn.mp H0
  obtain ⟨H1, h⟩ := snAll h
  replace H1 := sp_2.mp H1
  obtain ⟨H2, h⟩ := snAll h
  replace H2 := sp_2.mp H2
  have L := L_mvZ (N0 := nthZ zs 0) (N1 := nthZ zs 1) (N2 := nthZ zs 2) (N3 := nthZ zs 3) (N4 := nthZ zs 4) H0 (by omega) (by omega)
  rcases List.mem_cons.mp hx with hx | hx
  · rw [hx]; refine s_mvn.mpr ?_; exact L
  · cases hx
def q_mvU : qRl := ([(1169, [0, 0, 1, 2], []), sp 0 [(1, 1)], sp 0 [(2, (-1))]], [sp (-4) [(0, 1)]])
theorem q_mvU_ok : RlOk q_mvU := by
  intro fs zs h x hx
  obtain ⟨H0, h⟩ := snAll h
  replace H0 := s_mvn.mp H0
  obtain ⟨H1, h⟩ := snAll h
  replace H1 := sp_1.mp H1
  obtain ⟨H2, h⟩ := snAll h
  replace H2 := sp_1.mp H2
  have L := L_mvU (N0 := nthZ zs 0) (N1 := nthZ zs 1) (N2 := nthZ zs 2) H0 (by omega) (by omega)
  rcases List.mem_cons.mp hx with hx | hx
  · rw [hx]; refine sp_1.mpr ?_; omega
  · cases hx
def q_vx3 : qRl := ([(2, [2, 1, 5, 6], []), (2, [1, 0, 3, 4], []), sp (-3) [(4, 1)], sp 3 [(4, (-1))], sp (-1) [(3, 1), (5, (-1))], sp 0 [(3, 1)], sp 2 [(3, (-1))], sp (-1) [(0, 1), (3, (-1))], sp 0 [], sp 0 []], [(1168, [1, 2, 0, 1, 2], [])])
theorem q_vx3_ok : RlOk q_vx3 := by
  intro fs zs h x hx
  obtain ⟨H0, h⟩ := snAll h
  replace H0 := s_wr.mp H0
  obtain ⟨H1, h⟩ := snAll h
  replace H1 := s_wr.mp H1
  obtain ⟨H2, h⟩ := snAll h
  replace H2 := sp_1.mp H2
  obtain ⟨H3, h⟩ := snAll h
  replace H3 := sp_1.mp H3
  obtain ⟨H4, h⟩ := snAll h
  replace H4 := sp_2.mp H4
  obtain ⟨H5, h⟩ := snAll h
  replace H5 := sp_1.mp H5
  obtain ⟨H6, h⟩ := snAll h
  replace H6 := sp_1.mp H6
  obtain ⟨H7, h⟩ := snAll h
  replace H7 := sp_2.mp H7
  obtain ⟨H8, h⟩ := snAll h
  replace H8 := sp_0.mp H8
  obtain ⟨H9, h⟩ := snAll h
  replace H9 := sp_0.mp H9
  have L := L_vx3 (F0 := nthF fs 0) (F1 := nthF fs 1) (F2 := nthF fs 2) (N0 := nthZ zs 0) (N1 := nthZ zs 1) (N2 := nthZ zs 2) (N3 := nthZ zs 3) (N4 := nthZ zs 4) (N5 := nthZ zs 5) (N6 := nthZ zs 6) H0 H1 (by omega) (by omega) (by omega) (by omega) (by omega) (by omega) (by omega) (by omega)
  rcases List.mem_cons.mp hx with hx | hx
  · rw [hx]; refine s_vx.mpr ?_; exact L
  · cases hx
def q_n0H : qRl := ([(1164, [2, 0, 1, 3, 4, 1, 5], []), sp 0 [(4, 1), (0, (-1))], sp 0 [(5, (-1))], (1153, [1, 1, 6, 7], []), sp 0 [(6, 1), (3, (-1))], sp 0 [(3, 1), (6, (-1))], (1159, [0, 8, 9], []), sp 0 [(8, 1), (7, (-1))], sp 0 [(7, 1), (8, (-1))], sp 0 [(9, (-1))], sp 0 []], [(1166, [1, 0, 0, 1, 2], [])])
theorem q_n0H_ok : RlOk q_n0H := by
  intro fs zs h x hx
  obtain ⟨H0, h⟩ := snAll h
  replace H0 := s_nmf.mp H0
  obtain ⟨H1, h⟩ := snAll h
  replace H1 := sp_2.mp H1
  obtain ⟨H2, h⟩ := snAll h
  replace H2 := sp_1.mp H2
  obtain ⟨H3, h⟩ := snAll h
  replace H3 := s_wai.mp H3
  obtain ⟨H4, h⟩ := snAll h
  replace H4 := sp_2.mp H4
  obtain ⟨H5, h⟩ := snAll h
  replace H5 := sp_2.mp H5
  obtain ⟨H6, h⟩ := snAll h
  replace H6 := s_hfo.mp H6
  obtain ⟨H7, h⟩ := snAll h
  replace H7 := sp_2.mp H7
  obtain ⟨H8, h⟩ := snAll h
  replace H8 := sp_2.mp H8
  obtain ⟨H9, h⟩ := snAll h
  replace H9 := sp_1.mp H9
  obtain ⟨H10, h⟩ := snAll h
  replace H10 := sp_0.mp H10
  have L := L_n0H (F0 := nthF fs 0) (F1 := nthF fs 1) (N0 := nthZ zs 0) (N1 := nthZ zs 1) (N2 := nthZ zs 2) (N3 := nthZ zs 3) (N4 := nthZ zs 4) (N5 := nthZ zs 5) (N6 := nthZ zs 6) (N7 := nthZ zs 7) (N8 := nthZ zs 8) (N9 := nthZ zs 9) H0 (by omega) (by omega) H3 (by omega) (by omega) H6 (by omega) (by omega) (by omega) (by omega)
  rcases List.mem_cons.mp hx with hx | hx
  · rw [hx]; refine s_nm0.mpr ?_; exact L
  · cases hx
def q_mdY : qRl := ([(1167, [1, 0, 0, 4, 5, 6], []), sp 0 [(1, 1), (4, (-1))], sp 0 [(5, (-1))], sp 0 [(3, 1), (6, (-1))], sp 0 []], [(1167, [1, 0, 0, 1, 2, 3], [])])
theorem q_mdY_ok : RlOk q_mdY := by
  intro fs zs h x hx
  obtain ⟨H0, h⟩ := snAll h
  replace H0 := s_mdz.mp H0
  obtain ⟨H1, h⟩ := snAll h
  replace H1 := sp_2.mp H1
  obtain ⟨H2, h⟩ := snAll h
  replace H2 := sp_1.mp H2
  obtain ⟨H3, h⟩ := snAll h
  replace H3 := sp_2.mp H3
  obtain ⟨H4, h⟩ := snAll h
  replace H4 := sp_0.mp H4
  have L := L_mdY (F0 := nthF fs 0) (N0 := nthZ zs 0) (N1 := nthZ zs 1) (N2 := nthZ zs 2) (N3 := nthZ zs 3) (N4 := nthZ zs 4) (N5 := nthZ zs 5) (N6 := nthZ zs 6) H0 (by omega) (by omega) (by omega) (by omega)
  rcases List.mem_cons.mp hx with hx | hx
  · rw [hx]; refine s_mdz.mpr ?_; exact L
  · cases hx
def q_mvY : qRl := ([(1169, [0, 3, 1, 4], []), sp 0 [(0, 1), (3, (-1))], sp 0 [(4, (-1))], sp 0 []], [(1169, [0, 0, 1, 2], [])])
theorem q_mvY_ok : RlOk q_mvY := by
  intro fs zs h x hx
  obtain ⟨H0, h⟩ := snAll h
  replace H0 := s_mvn.mp H0
  obtain ⟨H1, h⟩ := snAll h
  replace H1 := sp_2.mp H1
  obtain ⟨H2, h⟩ := snAll h
  replace H2 := sp_1.mp H2
  obtain ⟨H3, h⟩ := snAll h
  replace H3 := sp_0.mp H3
  have L := L_mvY (N0 := nthZ zs 0) (N1 := nthZ zs 1) (N2 := nthZ zs 2) (N3 := nthZ zs 3) (N4 := nthZ zs 4) H0 (by omega) (by omega) (by omega)
  rcases List.mem_cons.mp hx with hx | hx
  · rw [hx]; refine s_mvn.mpr ?_; exact L
  · cases hx
